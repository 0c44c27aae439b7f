def rWin (f : Nat → Int32) (k : Nat) (t : Int32) : Int32 := f (328 + 5 * k + 1) * (if t = b01 (f (328 + 5 * k + 2) = 1) then 1 else f (303 + 3))
def rSetA (f : Nat → Int32) (k : Nat) (t : Int32) : Nat → Int32 :=
  upd (upd (upd f (328 + 5 * k + 0) (f (328 + 5 * k + 0) + (f (328 + 5 * k + 1) + rWin f k t))) 351 (upd f (328 + 5 * k + 0) (f (328 + 5 * k + 0) + (f (328 + 5 * k + 1) + rWin f k t)) 351 - rWin f k t)) (328 + 5 * k + 3)
    (upd (upd f (328 + 5 * k + 0) (f (328 + 5 * k + 0) + (f (328 + 5 * k + 1) + rWin f k t))) 351 (upd f (328 + 5 * k + 0) (f (328 + 5 * k + 0) + (f (328 + 5 * k + 1) + rWin f k t)) 351 - rWin f k t) (328 + 5 * k + 3) + 1)
def rSetB (f : Nat → Int32) (k : Nat) : Nat → Int32 := upd (upd f 351 (f 351 + f (328 + 5 * k + 1))) (328 + 5 * k + 4) (upd f 351 (f 351 + f (328 + 5 * k + 1)) (328 + 5 * k + 4) + 1)
def rSetE (f : Nat → Int32) (k : Nat) : Nat → Int32 := upd (upd f (328 + 5 * k + 1) 0) (328 + 5 * k + 2) 0
def rSet (f : Nat → Int32) (k : Nat) (t z : Int32) : Nat → Int32 :=
  if 0 < f (328 + 5 * k + 1) then (if b01 (f (328 + 5 * k + 2) = 1) = z then rSetE (rSetA f k t) k else rSetE (rSetB f k) k) else rSetE f k
set_option maxHeartbeats 4000000 in
set_option maxRecDepth 100000 in
theorem m_X6_settles {w : WT} (hI : xI w) (l : Launch) (G : GS) (k : Nat) (t z : Int32) (p : Nat) (s f m : Nat → Int32) (hp : p ≤ 354) (hk : k < 4) : Mv w l yX6_settles cX6_settles 9 ⟨1, 0, 0, 21⟩ [.ref (w.2.2 239), .int (nI p), .int (nI k), .int t, .int z] (GM G p s f m) (fun G' => G' = GM G p s (rSet f k t z) m) := by
  refine mk_v (L0 := [(0, .ref (w.2.2 239)), (1, .int (nI p)), (2, .int (nI k)), (3, .int t), (4, .int z)]) hI (by decide +kernel) rfl (Nat.le_of_ble_eq_true rfl) (fun K hc hret => ?_)
  refine x_iload_n (pc := 0) hc dX6_settles_0 1 rfl ?_
  refine x_iload_n (pc := 1) hc dX6_settles_1 2 rfl ?_
  refine x_callSi (pc := 2) hc cl_X6_25 [.int (nI p), .int (nI k)] (m_X6_reader hI (kl K) (GM G p s f m) p k) rfl rfl (by simp [Value.category]) rfl rfl ⟨by decide, by decide⟩ dX6_settles_2 (fun r2 Gc2 q2 => ?_)
  obtain ⟨er2, eGc2⟩ := q2
  rw [eGc2]
  subst er2
  refine x_istore (pc := 5) (L' := [(5, .int (nI (p + 328 + 5 * k))), (0, .ref (w.2.2 239)), (1, .int (nI p)), (2, .int (nI k)), (3, .int t), (4, .int z)]) hc dX6_settles_5 (by decide) rfl ?_
  refine x_aload_n (pc := 7) hc dX6_settles_7 1 rfl ?_
  refine x_get (pc := 8) hc cfR kcX6 0 (by decide) fl_X6_7 rfl dX6_settles_8 ?_
  refine x_iload (pc := 11) hc dX6_settles_11 0 rfl ?_
  refine x_iconst (v := 1) (pc := 13) hc dX6_settles_13 (by decide) ?_
  refine x_iadd (pc := 14) hc dX6_settles_14 ?_
  refine x_as (nI (p + 328 + 5 * k + 1)) (nI_add _ _) ?_
  refine x_iald (pc := 15) hc af0 (vp_in_nI (by omega) (by decide)) dX6_settles_15 ?_
  refine x_as (f (328 + 5 * k + 1)) (gm_ld (by omega) (by omega)) ?_
  refine x_nm (fun x16 ex16 => ?_)
  refine x_istore (pc := 16) (L' := [(6, .int x16), (5, .int (nI (p + 328 + 5 * k))), (0, .ref (w.2.2 239)), (1, .int (nI p)), (2, .int (nI k)), (3, .int t), (4, .int z)]) hc dX6_settles_16 (by decide) rfl ?_
  refine x_aload_n (pc := 18) hc dX6_settles_18 2 rfl ?_
  refine x_get (pc := 19) hc cfR kcX6 0 (by decide) fl_X6_7 rfl dX6_settles_19 ?_
  refine x_iload (pc := 22) hc dX6_settles_22 1 rfl ?_
  refine x_iconst (v := 2) (pc := 24) hc dX6_settles_24 (by decide) ?_
  refine x_iadd (pc := 25) hc dX6_settles_25 ?_
  refine x_as (nI (p + 328 + 5 * k + 2)) (nI_add _ _) ?_
  refine x_iald (pc := 26) hc af0 (vp_in_nI (by omega) (by decide)) dX6_settles_26 ?_
  refine x_as (f (328 + 5 * k + 2)) (gm_ld (by omega) (by omega)) ?_
  refine x_iconst (v := 1) (pc := 27) hc dX6_settles_27 (by decide) ?_
  refine x_icmp_ne (pc := 28) hc dX6_settles_28 35 (by decide) (fun c28 => ?_) (fun c28 => ?_)
  · refine x_iconst (v := 0) (pc := 35) hc dX6_settles_35 (by decide) ?_
    refine x_istore (pc := 36) (L' := [(7, .int 0), (6, .int x16), (5, .int (nI (p + 328 + 5 * k))), (0, .ref (w.2.2 239)), (1, .int (nI p)), (2, .int (nI k)), (3, .int t), (4, .int z)]) hc dX6_settles_36 (by decide) rfl ?_
    refine x_iload (pc := 38) hc dX6_settles_38 1 rfl ?_
    refine x_if_le (pc := 40) hc dX6_settles_40 122 (by decide) (fun c40 => ?_) (fun c40 => ?_)
    · refine x_iload (pc := 122) hc dX6_settles_122 1 rfl ?_
      refine x_if_le (pc := 124) hc dX6_settles_124 162 (by decide) (fun c124 => ?_) (fun c124 => ?_)
      · refine x_aload_n (pc := 162) hc dX6_settles_162 3 rfl ?_
        refine x_get (pc := 163) hc cfR kcX6 0 (by decide) fl_X6_7 rfl dX6_settles_163 ?_
        refine x_iload (pc := 166) hc dX6_settles_166 2 rfl ?_
        refine x_iconst (v := 1) (pc := 168) hc dX6_settles_168 (by decide) ?_
        refine x_iadd (pc := 169) hc dX6_settles_169 ?_
        refine x_as (nI (p + 328 + 5 * k + 1)) (nI_add _ _) ?_
        refine x_iconst (v := 0) (pc := 170) hc dX6_settles_170 (by decide) ?_
        refine x_iast (pc := 171) hc af0 (vp_in_nI (by omega) (by decide)) dX6_settles_171 ?_
        refine x_G (gm_st (i := 328 + 5 * k + 1) (by omega) (by omega)) ?_
        refine x_fn (fun z => GM G p s z m) (fun f1 ef1 => ?_)
        refine x_aload_n (pc := 172) hc dX6_settles_172 3 rfl ?_
        refine x_get (pc := 173) hc cfR kcX6 0 (by decide) fl_X6_7 rfl dX6_settles_173 ?_
        refine x_iload (pc := 176) hc dX6_settles_176 2 rfl ?_
        refine x_iconst (v := 2) (pc := 178) hc dX6_settles_178 (by decide) ?_
        refine x_iadd (pc := 179) hc dX6_settles_179 ?_
        refine x_as (nI (p + 328 + 5 * k + 2)) (nI_add _ _) ?_
        refine x_iconst (v := 0) (pc := 180) hc dX6_settles_180 (by decide) ?_
        refine x_iast (pc := 181) hc af0 (vp_in_nI (by omega) (by decide)) dX6_settles_181 ?_
        refine x_G (gm_st (i := 328 + 5 * k + 2) (by omega) (by omega)) ?_
        refine x_fn (fun z => GM G p s z m) (fun f2 ef2 => ?_)
        exact hret _ _ _ dX6_settles_182 (congrArg (fun q => GM G p s q m) (by
            subst ex16
            subst ef1
            subst ef2
            have hon : b01 (f (328 + 5 * k + 2) = 1) = 0 := b01_neg c28
            unfold rSet
            rw [if_neg (Int32.not_lt.mpr c40)]; rfl))
      · exact absurd c40 c124
    · refine x_iload (pc := 43) hc dX6_settles_43 0 rfl ?_
      refine x_iload (pc := 45) hc dX6_settles_45 7 rfl ?_
      refine x_icmp_ne (pc := 47) hc dX6_settles_47 122 (by decide) (fun c47 => ?_) (fun c47 => ?_)
      · refine x_iload (pc := 122) hc dX6_settles_122 1 rfl ?_
        refine x_if_le (pc := 124) hc dX6_settles_124 162 (by decide) (fun c124_1 => ?_) (fun c124_1 => ?_)
        · exact absurd c124_1 c40
        · refine x_iload (pc := 127) hc dX6_settles_127 0 rfl ?_
          refine x_iload (pc := 129) hc dX6_settles_129 7 rfl ?_
          refine x_icmp_eq (pc := 131) hc dX6_settles_131 162 (by decide) (fun c131 => ?_) (fun c131 => ?_)
          · exact absurd c131 c47
          · refine x_aload_n (pc := 134) hc dX6_settles_134 3 rfl ?_
            refine x_get (pc := 135) hc cfR kcX6 0 (by decide) fl_X6_7 rfl dX6_settles_135 ?_
            refine x_iload_n (pc := 138) hc dX6_settles_138 4 rfl ?_
            refine x_sipush (v := 351) (pc := 139) hc dX6_settles_139 (by decide) ?_
            refine x_iadd (pc := 142) hc dX6_settles_142 ?_
            refine x_as (nI (p + 351)) (nI_add _ _) ?_
            refine x_dup2ir (pc := 143) hc dX6_settles_143 ?_
            refine x_iald (pc := 144) hc af0 (vp_in_nI (by omega) (by decide)) dX6_settles_144 ?_
            refine x_as (f 351) (gm_ld (by omega) (by omega)) ?_
            refine x_iload (pc := 145) hc dX6_settles_145 1 rfl ?_
            refine x_iadd (pc := 147) hc dX6_settles_147 ?_
            refine x_iast (pc := 148) hc af0 (vp_in_nI (by omega) (by decide)) dX6_settles_148 ?_
            refine x_G (gm_st (i := 351) (by omega) (by omega)) ?_
            refine x_fn (fun z => GM G p s z m) (fun f3 ef3 => ?_)
            refine x_aload_n (pc := 149) hc dX6_settles_149 3 rfl ?_
            refine x_get (pc := 150) hc cfR kcX6 0 (by decide) fl_X6_7 rfl dX6_settles_150 ?_
            refine x_iload (pc := 153) hc dX6_settles_153 2 rfl ?_
            refine x_iconst (v := 4) (pc := 155) hc dX6_settles_155 (by decide) ?_
            refine x_iadd (pc := 156) hc dX6_settles_156 ?_
            refine x_as (nI (p + 328 + 5 * k + 4)) (nI_add _ _) ?_
            refine x_dup2ir (pc := 157) hc dX6_settles_157 ?_
            refine x_iald (pc := 158) hc af0 (vp_in_nI (by omega) (by decide)) dX6_settles_158 ?_
            refine x_as (f3 (328 + 5 * k + 4)) (gm_ld (by omega) (by omega)) ?_
            refine x_iconst (v := 1) (pc := 159) hc dX6_settles_159 (by decide) ?_
            refine x_iadd (pc := 160) hc dX6_settles_160 ?_
            refine x_iast (pc := 161) hc af0 (vp_in_nI (by omega) (by decide)) dX6_settles_161 ?_
            refine x_G (gm_st (i := 328 + 5 * k + 4) (by omega) (by omega)) ?_
            refine x_fn (fun z => GM G p s z m) (fun f4 ef4 => ?_)
            refine x_aload_n (pc := 162) hc dX6_settles_162 3 rfl ?_
            refine x_get (pc := 163) hc cfR kcX6 0 (by decide) fl_X6_7 rfl dX6_settles_163 ?_
            refine x_iload (pc := 166) hc dX6_settles_166 2 rfl ?_
            refine x_iconst (v := 1) (pc := 168) hc dX6_settles_168 (by decide) ?_
            refine x_iadd (pc := 169) hc dX6_settles_169 ?_
            refine x_as (nI (p + 328 + 5 * k + 1)) (nI_add _ _) ?_
            refine x_iconst (v := 0) (pc := 170) hc dX6_settles_170 (by decide) ?_
            refine x_iast (pc := 171) hc af0 (vp_in_nI (by omega) (by decide)) dX6_settles_171 ?_
            refine x_G (gm_st (i := 328 + 5 * k + 1) (by omega) (by omega)) ?_
            refine x_fn (fun z => GM G p s z m) (fun f5 ef5 => ?_)
            refine x_aload_n (pc := 172) hc dX6_settles_172 3 rfl ?_
            refine x_get (pc := 173) hc cfR kcX6 0 (by decide) fl_X6_7 rfl dX6_settles_173 ?_
            refine x_iload (pc := 176) hc dX6_settles_176 2 rfl ?_
            refine x_iconst (v := 2) (pc := 178) hc dX6_settles_178 (by decide) ?_
            refine x_iadd (pc := 179) hc dX6_settles_179 ?_
            refine x_as (nI (p + 328 + 5 * k + 2)) (nI_add _ _) ?_
            refine x_iconst (v := 0) (pc := 180) hc dX6_settles_180 (by decide) ?_
            refine x_iast (pc := 181) hc af0 (vp_in_nI (by omega) (by decide)) dX6_settles_181 ?_
            refine x_G (gm_st (i := 328 + 5 * k + 2) (by omega) (by omega)) ?_
            refine x_fn (fun z => GM G p s z m) (fun f6 ef6 => ?_)
            exact hret _ _ _ dX6_settles_182 (congrArg (fun q => GM G p s q m) (by
                subst ex16
                subst ef3
                subst ef4
                subst ef5
                subst ef6
                have hon : b01 (f (328 + 5 * k + 2) = 1) = 0 := b01_neg c28
                unfold rSet
                rw [if_pos (Int32.not_le.mp c40), hon, if_neg c47]; rfl))
      · refine x_iload (pc := 50) hc dX6_settles_50 1 rfl ?_
        refine x_iload_n (pc := 52) hc dX6_settles_52 6 rfl ?_
        refine x_iload (pc := 53) hc dX6_settles_53 0 rfl ?_
        refine x_icmp_ne (pc := 55) hc dX6_settles_55 62 (by decide) (fun c55 => ?_) (fun c55 => ?_)
        · refine x_aload_n (pc := 62) hc dX6_settles_62 3 rfl ?_
          refine x_get (pc := 63) hc cfR kcX6 0 (by decide) fl_X6_7 rfl dX6_settles_63 ?_
          refine x_iload_n (pc := 66) hc dX6_settles_66 4 rfl ?_
          refine x_sipush (v := 303) (pc := 67) hc dX6_settles_67 (by decide) ?_
          refine x_iadd (pc := 70) hc dX6_settles_70 ?_
          refine x_as (nI (p + 303)) (nI_add _ _) ?_
          refine x_iconst (v := 3) (pc := 71) hc dX6_settles_71 (by decide) ?_
          refine x_iadd (pc := 72) hc dX6_settles_72 ?_
          refine x_as (nI (p + 303 + 3)) (nI_add _ _) ?_
          refine x_iald (pc := 73) hc af0 (vp_in_nI (by omega) (by decide)) dX6_settles_73 ?_
          refine x_as (f (303 + 3)) (gm_ld (by omega) (by omega)) ?_
          refine x_imul (pc := 74) hc dX6_settles_74 ?_
          refine x_nm (fun x75 ex75 => ?_)
          refine x_istore (pc := 75) (L' := [(8, .int x75), (7, .int 0), (6, .int x16), (5, .int (nI (p + 328 + 5 * k))), (0, .ref (w.2.2 239)), (1, .int (nI p)), (2, .int (nI k)), (3, .int t), (4, .int z)]) hc dX6_settles_75 (by decide) rfl ?_
          refine x_aload_n (pc := 77) hc dX6_settles_77 4 rfl ?_
          refine x_get (pc := 78) hc cfR kcX6 0 (by decide) fl_X6_7 rfl dX6_settles_78 ?_
          refine x_iload (pc := 81) hc dX6_settles_81 3 rfl ?_
          refine x_iconst (v := 0) (pc := 83) hc dX6_settles_83 (by decide) ?_
          refine x_iadd (pc := 84) hc dX6_settles_84 ?_
          refine x_as (nI (p + 328 + 5 * k + 0)) (nI_add _ _) ?_
          refine x_dup2ir (pc := 85) hc dX6_settles_85 ?_
          refine x_iald (pc := 86) hc af0 (vp_in_nI (by omega) (by decide)) dX6_settles_86 ?_
          refine x_as (f (328 + 5 * k + 0)) (gm_ld (by omega) (by omega)) ?_
          refine x_iload (pc := 87) hc dX6_settles_87 2 rfl ?_
          refine x_iload (pc := 89) hc dX6_settles_89 0 rfl ?_
          refine x_iadd (pc := 91) hc dX6_settles_91 ?_
          refine x_iadd (pc := 92) hc dX6_settles_92 ?_
          refine x_iast (pc := 93) hc af0 (vp_in_nI (by omega) (by decide)) dX6_settles_93 ?_
          refine x_G (gm_st (i := 328 + 5 * k + 0) (by omega) (by omega)) ?_
          refine x_fn (fun z => GM G p s z m) (fun f7 ef7 => ?_)
          refine x_aload_n (pc := 94) hc dX6_settles_94 4 rfl ?_
          refine x_get (pc := 95) hc cfR kcX6 0 (by decide) fl_X6_7 rfl dX6_settles_95 ?_
          refine x_iload_n (pc := 98) hc dX6_settles_98 5 rfl ?_
          refine x_sipush (v := 351) (pc := 99) hc dX6_settles_99 (by decide) ?_
          refine x_iadd (pc := 102) hc dX6_settles_102 ?_
          refine x_as (nI (p + 351)) (nI_add _ _) ?_
          refine x_dup2ir (pc := 103) hc dX6_settles_103 ?_
          refine x_iald (pc := 104) hc af0 (vp_in_nI (by omega) (by decide)) dX6_settles_104 ?_
          refine x_as (f7 351) (gm_ld (by omega) (by omega)) ?_
          refine x_iload (pc := 105) hc dX6_settles_105 0 rfl ?_
          refine x_isub (pc := 107) hc dX6_settles_107 ?_
          refine x_iast (pc := 108) hc af0 (vp_in_nI (by omega) (by decide)) dX6_settles_108 ?_
          refine x_G (gm_st (i := 351) (by omega) (by omega)) ?_
          refine x_fn (fun z => GM G p s z m) (fun f8 ef8 => ?_)
          refine x_aload_n (pc := 109) hc dX6_settles_109 4 rfl ?_
          refine x_get (pc := 110) hc cfR kcX6 0 (by decide) fl_X6_7 rfl dX6_settles_110 ?_
          refine x_iload (pc := 113) hc dX6_settles_113 3 rfl ?_
          refine x_iconst (v := 3) (pc := 115) hc dX6_settles_115 (by decide) ?_
          refine x_iadd (pc := 116) hc dX6_settles_116 ?_
          refine x_as (nI (p + 328 + 5 * k + 3)) (nI_add _ _) ?_
          refine x_dup2ir (pc := 117) hc dX6_settles_117 ?_
          refine x_iald (pc := 118) hc af0 (vp_in_nI (by omega) (by decide)) dX6_settles_118 ?_
          refine x_as (f8 (328 + 5 * k + 3)) (gm_ld (by omega) (by omega)) ?_
          refine x_iconst (v := 1) (pc := 119) hc dX6_settles_119 (by decide) ?_
          refine x_iadd (pc := 120) hc dX6_settles_120 ?_
          refine x_iast (pc := 121) hc af0 (vp_in_nI (by omega) (by decide)) dX6_settles_121 ?_
          refine x_G (gm_st (i := 328 + 5 * k + 3) (by omega) (by omega)) ?_
          refine x_fn (fun z => GM G p s z m) (fun f9 ef9 => ?_)
          refine x_iload (pc := 122) hc dX6_settles_122 2 rfl ?_
          refine x_if_le (pc := 124) hc dX6_settles_124 162 (by decide) (fun c124_2 => ?_) (fun c124_2 => ?_)
          · exact absurd c124_2 c40
          · refine x_iload (pc := 127) hc dX6_settles_127 1 rfl ?_
            refine x_iload (pc := 129) hc dX6_settles_129 8 rfl ?_
            refine x_icmp_eq (pc := 131) hc dX6_settles_131 162 (by decide) (fun c131_1 => ?_) (fun c131_1 => ?_)
            · refine x_aload_n (pc := 162) hc dX6_settles_162 4 rfl ?_
              refine x_get (pc := 163) hc cfR kcX6 0 (by decide) fl_X6_7 rfl dX6_settles_163 ?_
              refine x_iload (pc := 166) hc dX6_settles_166 3 rfl ?_
              refine x_iconst (v := 1) (pc := 168) hc dX6_settles_168 (by decide) ?_
              refine x_iadd (pc := 169) hc dX6_settles_169 ?_
              refine x_as (nI (p + 328 + 5 * k + 1)) (nI_add _ _) ?_
              refine x_iconst (v := 0) (pc := 170) hc dX6_settles_170 (by decide) ?_
              refine x_iast (pc := 171) hc af0 (vp_in_nI (by omega) (by decide)) dX6_settles_171 ?_
              refine x_G (gm_st (i := 328 + 5 * k + 1) (by omega) (by omega)) ?_
              refine x_fn (fun z => GM G p s z m) (fun f10 ef10 => ?_)
              refine x_aload_n (pc := 172) hc dX6_settles_172 4 rfl ?_
              refine x_get (pc := 173) hc cfR kcX6 0 (by decide) fl_X6_7 rfl dX6_settles_173 ?_
              refine x_iload (pc := 176) hc dX6_settles_176 3 rfl ?_
              refine x_iconst (v := 2) (pc := 178) hc dX6_settles_178 (by decide) ?_
              refine x_iadd (pc := 179) hc dX6_settles_179 ?_
              refine x_as (nI (p + 328 + 5 * k + 2)) (nI_add _ _) ?_
              refine x_iconst (v := 0) (pc := 180) hc dX6_settles_180 (by decide) ?_
              refine x_iast (pc := 181) hc af0 (vp_in_nI (by omega) (by decide)) dX6_settles_181 ?_
              refine x_G (gm_st (i := 328 + 5 * k + 2) (by omega) (by omega)) ?_
              refine x_fn (fun z => GM G p s z m) (fun f11 ef11 => ?_)
              exact hret _ _ _ dX6_settles_182 (congrArg (fun q => GM G p s q m) (by
                  subst ex16
                  subst ex75
                  subst ef7
                  subst ef8
                  subst ef9
                  subst ef10
                  subst ef11
                  have hon : b01 (f (328 + 5 * k + 2) = 1) = 0 := b01_neg c28
                  unfold rSet
                  rw [if_pos (Int32.not_le.mp c40), hon, if_pos c47]
                  unfold rSetA rWin
                  rw [hon, if_neg c55]; rfl))
            · exact absurd c47 c131_1
        · refine x_iconst (v := 1) (pc := 58) hc dX6_settles_58 (by decide) ?_
          refine x_goto (pc := 59) hc dX6_settles_59 74 (by decide) ?_
          refine x_imul (pc := 74) hc dX6_settles_74 ?_
          refine x_nm (fun x75_1 ex75_1 => ?_)
          refine x_istore (pc := 75) (L' := [(8, .int x75_1), (7, .int 0), (6, .int x16), (5, .int (nI (p + 328 + 5 * k))), (0, .ref (w.2.2 239)), (1, .int (nI p)), (2, .int (nI k)), (3, .int t), (4, .int z)]) hc dX6_settles_75 (by decide) rfl ?_
          refine x_aload_n (pc := 77) hc dX6_settles_77 4 rfl ?_
          refine x_get (pc := 78) hc cfR kcX6 0 (by decide) fl_X6_7 rfl dX6_settles_78 ?_
          refine x_iload (pc := 81) hc dX6_settles_81 3 rfl ?_
          refine x_iconst (v := 0) (pc := 83) hc dX6_settles_83 (by decide) ?_
          refine x_iadd (pc := 84) hc dX6_settles_84 ?_
          refine x_as (nI (p + 328 + 5 * k + 0)) (nI_add _ _) ?_
          refine x_dup2ir (pc := 85) hc dX6_settles_85 ?_
          refine x_iald (pc := 86) hc af0 (vp_in_nI (by omega) (by decide)) dX6_settles_86 ?_
          refine x_as (f (328 + 5 * k + 0)) (gm_ld (by omega) (by omega)) ?_
          refine x_iload (pc := 87) hc dX6_settles_87 2 rfl ?_
          refine x_iload (pc := 89) hc dX6_settles_89 0 rfl ?_
          refine x_iadd (pc := 91) hc dX6_settles_91 ?_
          refine x_iadd (pc := 92) hc dX6_settles_92 ?_
          refine x_iast (pc := 93) hc af0 (vp_in_nI (by omega) (by decide)) dX6_settles_93 ?_
          refine x_G (gm_st (i := 328 + 5 * k + 0) (by omega) (by omega)) ?_
          refine x_fn (fun z => GM G p s z m) (fun f12 ef12 => ?_)
          refine x_aload_n (pc := 94) hc dX6_settles_94 4 rfl ?_
          refine x_get (pc := 95) hc cfR kcX6 0 (by decide) fl_X6_7 rfl dX6_settles_95 ?_
          refine x_iload_n (pc := 98) hc dX6_settles_98 5 rfl ?_
          refine x_sipush (v := 351) (pc := 99) hc dX6_settles_99 (by decide) ?_
          refine x_iadd (pc := 102) hc dX6_settles_102 ?_
          refine x_as (nI (p + 351)) (nI_add _ _) ?_
          refine x_dup2ir (pc := 103) hc dX6_settles_103 ?_
          refine x_iald (pc := 104) hc af0 (vp_in_nI (by omega) (by decide)) dX6_settles_104 ?_
          refine x_as (f12 351) (gm_ld (by omega) (by omega)) ?_
          refine x_iload (pc := 105) hc dX6_settles_105 0 rfl ?_
          refine x_isub (pc := 107) hc dX6_settles_107 ?_
          refine x_iast (pc := 108) hc af0 (vp_in_nI (by omega) (by decide)) dX6_settles_108 ?_
          refine x_G (gm_st (i := 351) (by omega) (by omega)) ?_
          refine x_fn (fun z => GM G p s z m) (fun f13 ef13 => ?_)
          refine x_aload_n (pc := 109) hc dX6_settles_109 4 rfl ?_
          refine x_get (pc := 110) hc cfR kcX6 0 (by decide) fl_X6_7 rfl dX6_settles_110 ?_
          refine x_iload (pc := 113) hc dX6_settles_113 3 rfl ?_
          refine x_iconst (v := 3) (pc := 115) hc dX6_settles_115 (by decide) ?_
          refine x_iadd (pc := 116) hc dX6_settles_116 ?_
          refine x_as (nI (p + 328 + 5 * k + 3)) (nI_add _ _) ?_
          refine x_dup2ir (pc := 117) hc dX6_settles_117 ?_
          refine x_iald (pc := 118) hc af0 (vp_in_nI (by omega) (by decide)) dX6_settles_118 ?_
          refine x_as (f13 (328 + 5 * k + 3)) (gm_ld (by omega) (by omega)) ?_
          refine x_iconst (v := 1) (pc := 119) hc dX6_settles_119 (by decide) ?_
          refine x_iadd (pc := 120) hc dX6_settles_120 ?_
          refine x_iast (pc := 121) hc af0 (vp_in_nI (by omega) (by decide)) dX6_settles_121 ?_
          refine x_G (gm_st (i := 328 + 5 * k + 3) (by omega) (by omega)) ?_
          refine x_fn (fun z => GM G p s z m) (fun f14 ef14 => ?_)
          refine x_iload (pc := 122) hc dX6_settles_122 2 rfl ?_
          refine x_if_le (pc := 124) hc dX6_settles_124 162 (by decide) (fun c124_3 => ?_) (fun c124_3 => ?_)
          · exact absurd c124_3 c40
          · refine x_iload (pc := 127) hc dX6_settles_127 1 rfl ?_
            refine x_iload (pc := 129) hc dX6_settles_129 8 rfl ?_
            refine x_icmp_eq (pc := 131) hc dX6_settles_131 162 (by decide) (fun c131_2 => ?_) (fun c131_2 => ?_)
            · refine x_aload_n (pc := 162) hc dX6_settles_162 4 rfl ?_
              refine x_get (pc := 163) hc cfR kcX6 0 (by decide) fl_X6_7 rfl dX6_settles_163 ?_
              refine x_iload (pc := 166) hc dX6_settles_166 3 rfl ?_
              refine x_iconst (v := 1) (pc := 168) hc dX6_settles_168 (by decide) ?_
              refine x_iadd (pc := 169) hc dX6_settles_169 ?_
              refine x_as (nI (p + 328 + 5 * k + 1)) (nI_add _ _) ?_
              refine x_iconst (v := 0) (pc := 170) hc dX6_settles_170 (by decide) ?_
              refine x_iast (pc := 171) hc af0 (vp_in_nI (by omega) (by decide)) dX6_settles_171 ?_
              refine x_G (gm_st (i := 328 + 5 * k + 1) (by omega) (by omega)) ?_
              refine x_fn (fun z => GM G p s z m) (fun f15 ef15 => ?_)
              refine x_aload_n (pc := 172) hc dX6_settles_172 4 rfl ?_
              refine x_get (pc := 173) hc cfR kcX6 0 (by decide) fl_X6_7 rfl dX6_settles_173 ?_
              refine x_iload (pc := 176) hc dX6_settles_176 3 rfl ?_
              refine x_iconst (v := 2) (pc := 178) hc dX6_settles_178 (by decide) ?_
              refine x_iadd (pc := 179) hc dX6_settles_179 ?_
              refine x_as (nI (p + 328 + 5 * k + 2)) (nI_add _ _) ?_
              refine x_iconst (v := 0) (pc := 180) hc dX6_settles_180 (by decide) ?_
              refine x_iast (pc := 181) hc af0 (vp_in_nI (by omega) (by decide)) dX6_settles_181 ?_
              refine x_G (gm_st (i := 328 + 5 * k + 2) (by omega) (by omega)) ?_
              refine x_fn (fun z => GM G p s z m) (fun f16 ef16 => ?_)
              exact hret _ _ _ dX6_settles_182 (congrArg (fun q => GM G p s q m) (by
                  subst ex16
                  subst ex75_1
                  subst ef12
                  subst ef13
                  subst ef14
                  subst ef15
                  subst ef16
                  have hon : b01 (f (328 + 5 * k + 2) = 1) = 0 := b01_neg c28
                  unfold rSet
                  rw [if_pos (Int32.not_le.mp c40), hon, if_pos c47]
                  unfold rSetA rWin
                  rw [hon, if_pos c55]; rfl))
            · exact absurd c47 c131_2
  · refine x_iconst (v := 1) (pc := 31) hc dX6_settles_31 (by decide) ?_
    refine x_goto (pc := 32) hc dX6_settles_32 36 (by decide) ?_
    refine x_istore (pc := 36) (L' := [(7, .int 1), (6, .int x16), (5, .int (nI (p + 328 + 5 * k))), (0, .ref (w.2.2 239)), (1, .int (nI p)), (2, .int (nI k)), (3, .int t), (4, .int z)]) hc dX6_settles_36 (by decide) rfl ?_
    refine x_iload (pc := 38) hc dX6_settles_38 1 rfl ?_
    refine x_if_le (pc := 40) hc dX6_settles_40 122 (by decide) (fun c40_1 => ?_) (fun c40_1 => ?_)
    · refine x_iload (pc := 122) hc dX6_settles_122 1 rfl ?_
      refine x_if_le (pc := 124) hc dX6_settles_124 162 (by decide) (fun c124_4 => ?_) (fun c124_4 => ?_)
      · refine x_aload_n (pc := 162) hc dX6_settles_162 3 rfl ?_
        refine x_get (pc := 163) hc cfR kcX6 0 (by decide) fl_X6_7 rfl dX6_settles_163 ?_
        refine x_iload (pc := 166) hc dX6_settles_166 2 rfl ?_
        refine x_iconst (v := 1) (pc := 168) hc dX6_settles_168 (by decide) ?_
        refine x_iadd (pc := 169) hc dX6_settles_169 ?_
        refine x_as (nI (p + 328 + 5 * k + 1)) (nI_add _ _) ?_
        refine x_iconst (v := 0) (pc := 170) hc dX6_settles_170 (by decide) ?_
        refine x_iast (pc := 171) hc af0 (vp_in_nI (by omega) (by decide)) dX6_settles_171 ?_
        refine x_G (gm_st (i := 328 + 5 * k + 1) (by omega) (by omega)) ?_
        refine x_fn (fun z => GM G p s z m) (fun f17 ef17 => ?_)
        refine x_aload_n (pc := 172) hc dX6_settles_172 3 rfl ?_
        refine x_get (pc := 173) hc cfR kcX6 0 (by decide) fl_X6_7 rfl dX6_settles_173 ?_
        refine x_iload (pc := 176) hc dX6_settles_176 2 rfl ?_
        refine x_iconst (v := 2) (pc := 178) hc dX6_settles_178 (by decide) ?_
        refine x_iadd (pc := 179) hc dX6_settles_179 ?_
        refine x_as (nI (p + 328 + 5 * k + 2)) (nI_add _ _) ?_
        refine x_iconst (v := 0) (pc := 180) hc dX6_settles_180 (by decide) ?_
        refine x_iast (pc := 181) hc af0 (vp_in_nI (by omega) (by decide)) dX6_settles_181 ?_
        refine x_G (gm_st (i := 328 + 5 * k + 2) (by omega) (by omega)) ?_
        refine x_fn (fun z => GM G p s z m) (fun f18 ef18 => ?_)
        exact hret _ _ _ dX6_settles_182 (congrArg (fun q => GM G p s q m) (by
            subst ex16
            subst ef17
            subst ef18
            have hon : b01 (f (328 + 5 * k + 2) = 1) = 1 := b01_pos c28
            unfold rSet
            rw [if_neg (Int32.not_lt.mpr c40_1)]; rfl))
      · exact absurd c40_1 c124_4
    · refine x_iload (pc := 43) hc dX6_settles_43 0 rfl ?_
      refine x_iload (pc := 45) hc dX6_settles_45 7 rfl ?_
      refine x_icmp_ne (pc := 47) hc dX6_settles_47 122 (by decide) (fun c47_1 => ?_) (fun c47_1 => ?_)
      · refine x_iload (pc := 122) hc dX6_settles_122 1 rfl ?_
        refine x_if_le (pc := 124) hc dX6_settles_124 162 (by decide) (fun c124_5 => ?_) (fun c124_5 => ?_)
        · exact absurd c124_5 c40_1
        · refine x_iload (pc := 127) hc dX6_settles_127 0 rfl ?_
          refine x_iload (pc := 129) hc dX6_settles_129 7 rfl ?_
          refine x_icmp_eq (pc := 131) hc dX6_settles_131 162 (by decide) (fun c131_3 => ?_) (fun c131_3 => ?_)
          · exact absurd c131_3 c47_1
          · refine x_aload_n (pc := 134) hc dX6_settles_134 3 rfl ?_
            refine x_get (pc := 135) hc cfR kcX6 0 (by decide) fl_X6_7 rfl dX6_settles_135 ?_
            refine x_iload_n (pc := 138) hc dX6_settles_138 4 rfl ?_
            refine x_sipush (v := 351) (pc := 139) hc dX6_settles_139 (by decide) ?_
            refine x_iadd (pc := 142) hc dX6_settles_142 ?_
            refine x_as (nI (p + 351)) (nI_add _ _) ?_
            refine x_dup2ir (pc := 143) hc dX6_settles_143 ?_
            refine x_iald (pc := 144) hc af0 (vp_in_nI (by omega) (by decide)) dX6_settles_144 ?_
            refine x_as (f 351) (gm_ld (by omega) (by omega)) ?_
            refine x_iload (pc := 145) hc dX6_settles_145 1 rfl ?_
            refine x_iadd (pc := 147) hc dX6_settles_147 ?_
            refine x_iast (pc := 148) hc af0 (vp_in_nI (by omega) (by decide)) dX6_settles_148 ?_
            refine x_G (gm_st (i := 351) (by omega) (by omega)) ?_
            refine x_fn (fun z => GM G p s z m) (fun f19 ef19 => ?_)
            refine x_aload_n (pc := 149) hc dX6_settles_149 3 rfl ?_
            refine x_get (pc := 150) hc cfR kcX6 0 (by decide) fl_X6_7 rfl dX6_settles_150 ?_
            refine x_iload (pc := 153) hc dX6_settles_153 2 rfl ?_
            refine x_iconst (v := 4) (pc := 155) hc dX6_settles_155 (by decide) ?_
            refine x_iadd (pc := 156) hc dX6_settles_156 ?_
            refine x_as (nI (p + 328 + 5 * k + 4)) (nI_add _ _) ?_
            refine x_dup2ir (pc := 157) hc dX6_settles_157 ?_
            refine x_iald (pc := 158) hc af0 (vp_in_nI (by omega) (by decide)) dX6_settles_158 ?_
            refine x_as (f19 (328 + 5 * k + 4)) (gm_ld (by omega) (by omega)) ?_
            refine x_iconst (v := 1) (pc := 159) hc dX6_settles_159 (by decide) ?_
            refine x_iadd (pc := 160) hc dX6_settles_160 ?_
            refine x_iast (pc := 161) hc af0 (vp_in_nI (by omega) (by decide)) dX6_settles_161 ?_
            refine x_G (gm_st (i := 328 + 5 * k + 4) (by omega) (by omega)) ?_
            refine x_fn (fun z => GM G p s z m) (fun f20 ef20 => ?_)
            refine x_aload_n (pc := 162) hc dX6_settles_162 3 rfl ?_
            refine x_get (pc := 163) hc cfR kcX6 0 (by decide) fl_X6_7 rfl dX6_settles_163 ?_
            refine x_iload (pc := 166) hc dX6_settles_166 2 rfl ?_
            refine x_iconst (v := 1) (pc := 168) hc dX6_settles_168 (by decide) ?_
            refine x_iadd (pc := 169) hc dX6_settles_169 ?_
            refine x_as (nI (p + 328 + 5 * k + 1)) (nI_add _ _) ?_
            refine x_iconst (v := 0) (pc := 170) hc dX6_settles_170 (by decide) ?_
            refine x_iast (pc := 171) hc af0 (vp_in_nI (by omega) (by decide)) dX6_settles_171 ?_
            refine x_G (gm_st (i := 328 + 5 * k + 1) (by omega) (by omega)) ?_
            refine x_fn (fun z => GM G p s z m) (fun f21 ef21 => ?_)
            refine x_aload_n (pc := 172) hc dX6_settles_172 3 rfl ?_
            refine x_get (pc := 173) hc cfR kcX6 0 (by decide) fl_X6_7 rfl dX6_settles_173 ?_
            refine x_iload (pc := 176) hc dX6_settles_176 2 rfl ?_
            refine x_iconst (v := 2) (pc := 178) hc dX6_settles_178 (by decide) ?_
            refine x_iadd (pc := 179) hc dX6_settles_179 ?_
            refine x_as (nI (p + 328 + 5 * k + 2)) (nI_add _ _) ?_
            refine x_iconst (v := 0) (pc := 180) hc dX6_settles_180 (by decide) ?_
            refine x_iast (pc := 181) hc af0 (vp_in_nI (by omega) (by decide)) dX6_settles_181 ?_
            refine x_G (gm_st (i := 328 + 5 * k + 2) (by omega) (by omega)) ?_
            refine x_fn (fun z => GM G p s z m) (fun f22 ef22 => ?_)
            exact hret _ _ _ dX6_settles_182 (congrArg (fun q => GM G p s q m) (by
                subst ex16
                subst ef19
                subst ef20
                subst ef21
                subst ef22
                have hon : b01 (f (328 + 5 * k + 2) = 1) = 1 := b01_pos c28
                unfold rSet
                rw [if_pos (Int32.not_le.mp c40_1), hon, if_neg c47_1]; rfl))
      · refine x_iload (pc := 50) hc dX6_settles_50 1 rfl ?_
        refine x_iload_n (pc := 52) hc dX6_settles_52 6 rfl ?_
        refine x_iload (pc := 53) hc dX6_settles_53 0 rfl ?_
        refine x_icmp_ne (pc := 55) hc dX6_settles_55 62 (by decide) (fun c55_1 => ?_) (fun c55_1 => ?_)
        · refine x_aload_n (pc := 62) hc dX6_settles_62 3 rfl ?_
          refine x_get (pc := 63) hc cfR kcX6 0 (by decide) fl_X6_7 rfl dX6_settles_63 ?_
          refine x_iload_n (pc := 66) hc dX6_settles_66 4 rfl ?_
          refine x_sipush (v := 303) (pc := 67) hc dX6_settles_67 (by decide) ?_
          refine x_iadd (pc := 70) hc dX6_settles_70 ?_
          refine x_as (nI (p + 303)) (nI_add _ _) ?_
          refine x_iconst (v := 3) (pc := 71) hc dX6_settles_71 (by decide) ?_
          refine x_iadd (pc := 72) hc dX6_settles_72 ?_
          refine x_as (nI (p + 303 + 3)) (nI_add _ _) ?_
          refine x_iald (pc := 73) hc af0 (vp_in_nI (by omega) (by decide)) dX6_settles_73 ?_
          refine x_as (f (303 + 3)) (gm_ld (by omega) (by omega)) ?_
          refine x_imul (pc := 74) hc dX6_settles_74 ?_
          refine x_nm (fun x75_2 ex75_2 => ?_)
          refine x_istore (pc := 75) (L' := [(8, .int x75_2), (7, .int 1), (6, .int x16), (5, .int (nI (p + 328 + 5 * k))), (0, .ref (w.2.2 239)), (1, .int (nI p)), (2, .int (nI k)), (3, .int t), (4, .int z)]) hc dX6_settles_75 (by decide) rfl ?_
          refine x_aload_n (pc := 77) hc dX6_settles_77 4 rfl ?_
          refine x_get (pc := 78) hc cfR kcX6 0 (by decide) fl_X6_7 rfl dX6_settles_78 ?_
          refine x_iload (pc := 81) hc dX6_settles_81 3 rfl ?_
          refine x_iconst (v := 0) (pc := 83) hc dX6_settles_83 (by decide) ?_
          refine x_iadd (pc := 84) hc dX6_settles_84 ?_
          refine x_as (nI (p + 328 + 5 * k + 0)) (nI_add _ _) ?_
          refine x_dup2ir (pc := 85) hc dX6_settles_85 ?_
          refine x_iald (pc := 86) hc af0 (vp_in_nI (by omega) (by decide)) dX6_settles_86 ?_
          refine x_as (f (328 + 5 * k + 0)) (gm_ld (by omega) (by omega)) ?_
          refine x_iload (pc := 87) hc dX6_settles_87 2 rfl ?_
          refine x_iload (pc := 89) hc dX6_settles_89 0 rfl ?_
          refine x_iadd (pc := 91) hc dX6_settles_91 ?_
          refine x_iadd (pc := 92) hc dX6_settles_92 ?_
          refine x_iast (pc := 93) hc af0 (vp_in_nI (by omega) (by decide)) dX6_settles_93 ?_
          refine x_G (gm_st (i := 328 + 5 * k + 0) (by omega) (by omega)) ?_
          refine x_fn (fun z => GM G p s z m) (fun f23 ef23 => ?_)
          refine x_aload_n (pc := 94) hc dX6_settles_94 4 rfl ?_
          refine x_get (pc := 95) hc cfR kcX6 0 (by decide) fl_X6_7 rfl dX6_settles_95 ?_
          refine x_iload_n (pc := 98) hc dX6_settles_98 5 rfl ?_
          refine x_sipush (v := 351) (pc := 99) hc dX6_settles_99 (by decide) ?_
          refine x_iadd (pc := 102) hc dX6_settles_102 ?_
          refine x_as (nI (p + 351)) (nI_add _ _) ?_
          refine x_dup2ir (pc := 103) hc dX6_settles_103 ?_
          refine x_iald (pc := 104) hc af0 (vp_in_nI (by omega) (by decide)) dX6_settles_104 ?_
          refine x_as (f23 351) (gm_ld (by omega) (by omega)) ?_
          refine x_iload (pc := 105) hc dX6_settles_105 0 rfl ?_
          refine x_isub (pc := 107) hc dX6_settles_107 ?_
          refine x_iast (pc := 108) hc af0 (vp_in_nI (by omega) (by decide)) dX6_settles_108 ?_
          refine x_G (gm_st (i := 351) (by omega) (by omega)) ?_
          refine x_fn (fun z => GM G p s z m) (fun f24 ef24 => ?_)
          refine x_aload_n (pc := 109) hc dX6_settles_109 4 rfl ?_
          refine x_get (pc := 110) hc cfR kcX6 0 (by decide) fl_X6_7 rfl dX6_settles_110 ?_
          refine x_iload (pc := 113) hc dX6_settles_113 3 rfl ?_
          refine x_iconst (v := 3) (pc := 115) hc dX6_settles_115 (by decide) ?_
          refine x_iadd (pc := 116) hc dX6_settles_116 ?_
          refine x_as (nI (p + 328 + 5 * k + 3)) (nI_add _ _) ?_
          refine x_dup2ir (pc := 117) hc dX6_settles_117 ?_
          refine x_iald (pc := 118) hc af0 (vp_in_nI (by omega) (by decide)) dX6_settles_118 ?_
          refine x_as (f24 (328 + 5 * k + 3)) (gm_ld (by omega) (by omega)) ?_
          refine x_iconst (v := 1) (pc := 119) hc dX6_settles_119 (by decide) ?_
          refine x_iadd (pc := 120) hc dX6_settles_120 ?_
          refine x_iast (pc := 121) hc af0 (vp_in_nI (by omega) (by decide)) dX6_settles_121 ?_
          refine x_G (gm_st (i := 328 + 5 * k + 3) (by omega) (by omega)) ?_
          refine x_fn (fun z => GM G p s z m) (fun f25 ef25 => ?_)
          refine x_iload (pc := 122) hc dX6_settles_122 2 rfl ?_
          refine x_if_le (pc := 124) hc dX6_settles_124 162 (by decide) (fun c124_6 => ?_) (fun c124_6 => ?_)
          · exact absurd c124_6 c40_1
          · refine x_iload (pc := 127) hc dX6_settles_127 1 rfl ?_
            refine x_iload (pc := 129) hc dX6_settles_129 8 rfl ?_
            refine x_icmp_eq (pc := 131) hc dX6_settles_131 162 (by decide) (fun c131_4 => ?_) (fun c131_4 => ?_)
            · refine x_aload_n (pc := 162) hc dX6_settles_162 4 rfl ?_
              refine x_get (pc := 163) hc cfR kcX6 0 (by decide) fl_X6_7 rfl dX6_settles_163 ?_
              refine x_iload (pc := 166) hc dX6_settles_166 3 rfl ?_
              refine x_iconst (v := 1) (pc := 168) hc dX6_settles_168 (by decide) ?_
              refine x_iadd (pc := 169) hc dX6_settles_169 ?_
              refine x_as (nI (p + 328 + 5 * k + 1)) (nI_add _ _) ?_
              refine x_iconst (v := 0) (pc := 170) hc dX6_settles_170 (by decide) ?_
              refine x_iast (pc := 171) hc af0 (vp_in_nI (by omega) (by decide)) dX6_settles_171 ?_
              refine x_G (gm_st (i := 328 + 5 * k + 1) (by omega) (by omega)) ?_
              refine x_fn (fun z => GM G p s z m) (fun f26 ef26 => ?_)
              refine x_aload_n (pc := 172) hc dX6_settles_172 4 rfl ?_
              refine x_get (pc := 173) hc cfR kcX6 0 (by decide) fl_X6_7 rfl dX6_settles_173 ?_
              refine x_iload (pc := 176) hc dX6_settles_176 3 rfl ?_
              refine x_iconst (v := 2) (pc := 178) hc dX6_settles_178 (by decide) ?_
              refine x_iadd (pc := 179) hc dX6_settles_179 ?_
              refine x_as (nI (p + 328 + 5 * k + 2)) (nI_add _ _) ?_
              refine x_iconst (v := 0) (pc := 180) hc dX6_settles_180 (by decide) ?_
              refine x_iast (pc := 181) hc af0 (vp_in_nI (by omega) (by decide)) dX6_settles_181 ?_
              refine x_G (gm_st (i := 328 + 5 * k + 2) (by omega) (by omega)) ?_
              refine x_fn (fun z => GM G p s z m) (fun f27 ef27 => ?_)
              exact hret _ _ _ dX6_settles_182 (congrArg (fun q => GM G p s q m) (by
                  subst ex16
                  subst ex75_2
                  subst ef23
                  subst ef24
                  subst ef25
                  subst ef26
                  subst ef27
                  have hon : b01 (f (328 + 5 * k + 2) = 1) = 1 := b01_pos c28
                  unfold rSet
                  rw [if_pos (Int32.not_le.mp c40_1), hon, if_pos c47_1]
                  unfold rSetA rWin
                  rw [hon, if_neg c55_1]; rfl))
            · exact absurd c47_1 c131_4
        · refine x_iconst (v := 1) (pc := 58) hc dX6_settles_58 (by decide) ?_
          refine x_goto (pc := 59) hc dX6_settles_59 74 (by decide) ?_
          refine x_imul (pc := 74) hc dX6_settles_74 ?_
          refine x_nm (fun x75_3 ex75_3 => ?_)
          refine x_istore (pc := 75) (L' := [(8, .int x75_3), (7, .int 1), (6, .int x16), (5, .int (nI (p + 328 + 5 * k))), (0, .ref (w.2.2 239)), (1, .int (nI p)), (2, .int (nI k)), (3, .int t), (4, .int z)]) hc dX6_settles_75 (by decide) rfl ?_
          refine x_aload_n (pc := 77) hc dX6_settles_77 4 rfl ?_
          refine x_get (pc := 78) hc cfR kcX6 0 (by decide) fl_X6_7 rfl dX6_settles_78 ?_
          refine x_iload (pc := 81) hc dX6_settles_81 3 rfl ?_
          refine x_iconst (v := 0) (pc := 83) hc dX6_settles_83 (by decide) ?_
          refine x_iadd (pc := 84) hc dX6_settles_84 ?_
          refine x_as (nI (p + 328 + 5 * k + 0)) (nI_add _ _) ?_
          refine x_dup2ir (pc := 85) hc dX6_settles_85 ?_
          refine x_iald (pc := 86) hc af0 (vp_in_nI (by omega) (by decide)) dX6_settles_86 ?_
          refine x_as (f (328 + 5 * k + 0)) (gm_ld (by omega) (by omega)) ?_
          refine x_iload (pc := 87) hc dX6_settles_87 2 rfl ?_
          refine x_iload (pc := 89) hc dX6_settles_89 0 rfl ?_
          refine x_iadd (pc := 91) hc dX6_settles_91 ?_
          refine x_iadd (pc := 92) hc dX6_settles_92 ?_
          refine x_iast (pc := 93) hc af0 (vp_in_nI (by omega) (by decide)) dX6_settles_93 ?_
          refine x_G (gm_st (i := 328 + 5 * k + 0) (by omega) (by omega)) ?_
          refine x_fn (fun z => GM G p s z m) (fun f28 ef28 => ?_)
          refine x_aload_n (pc := 94) hc dX6_settles_94 4 rfl ?_
          refine x_get (pc := 95) hc cfR kcX6 0 (by decide) fl_X6_7 rfl dX6_settles_95 ?_
          refine x_iload_n (pc := 98) hc dX6_settles_98 5 rfl ?_
          refine x_sipush (v := 351) (pc := 99) hc dX6_settles_99 (by decide) ?_
          refine x_iadd (pc := 102) hc dX6_settles_102 ?_
          refine x_as (nI (p + 351)) (nI_add _ _) ?_
          refine x_dup2ir (pc := 103) hc dX6_settles_103 ?_
          refine x_iald (pc := 104) hc af0 (vp_in_nI (by omega) (by decide)) dX6_settles_104 ?_
          refine x_as (f28 351) (gm_ld (by omega) (by omega)) ?_
          refine x_iload (pc := 105) hc dX6_settles_105 0 rfl ?_
          refine x_isub (pc := 107) hc dX6_settles_107 ?_
          refine x_iast (pc := 108) hc af0 (vp_in_nI (by omega) (by decide)) dX6_settles_108 ?_
          refine x_G (gm_st (i := 351) (by omega) (by omega)) ?_
          refine x_fn (fun z => GM G p s z m) (fun f29 ef29 => ?_)
          refine x_aload_n (pc := 109) hc dX6_settles_109 4 rfl ?_
          refine x_get (pc := 110) hc cfR kcX6 0 (by decide) fl_X6_7 rfl dX6_settles_110 ?_
          refine x_iload (pc := 113) hc dX6_settles_113 3 rfl ?_
          refine x_iconst (v := 3) (pc := 115) hc dX6_settles_115 (by decide) ?_
          refine x_iadd (pc := 116) hc dX6_settles_116 ?_
          refine x_as (nI (p + 328 + 5 * k + 3)) (nI_add _ _) ?_
          refine x_dup2ir (pc := 117) hc dX6_settles_117 ?_
          refine x_iald (pc := 118) hc af0 (vp_in_nI (by omega) (by decide)) dX6_settles_118 ?_
          refine x_as (f29 (328 + 5 * k + 3)) (gm_ld (by omega) (by omega)) ?_
          refine x_iconst (v := 1) (pc := 119) hc dX6_settles_119 (by decide) ?_
          refine x_iadd (pc := 120) hc dX6_settles_120 ?_
          refine x_iast (pc := 121) hc af0 (vp_in_nI (by omega) (by decide)) dX6_settles_121 ?_
          refine x_G (gm_st (i := 328 + 5 * k + 3) (by omega) (by omega)) ?_
          refine x_fn (fun z => GM G p s z m) (fun f30 ef30 => ?_)
          refine x_iload (pc := 122) hc dX6_settles_122 2 rfl ?_
          refine x_if_le (pc := 124) hc dX6_settles_124 162 (by decide) (fun c124_7 => ?_) (fun c124_7 => ?_)
          · exact absurd c124_7 c40_1
          · refine x_iload (pc := 127) hc dX6_settles_127 1 rfl ?_
            refine x_iload (pc := 129) hc dX6_settles_129 8 rfl ?_
            refine x_icmp_eq (pc := 131) hc dX6_settles_131 162 (by decide) (fun c131_5 => ?_) (fun c131_5 => ?_)
            · refine x_aload_n (pc := 162) hc dX6_settles_162 4 rfl ?_
              refine x_get (pc := 163) hc cfR kcX6 0 (by decide) fl_X6_7 rfl dX6_settles_163 ?_
              refine x_iload (pc := 166) hc dX6_settles_166 3 rfl ?_
              refine x_iconst (v := 1) (pc := 168) hc dX6_settles_168 (by decide) ?_
              refine x_iadd (pc := 169) hc dX6_settles_169 ?_
              refine x_as (nI (p + 328 + 5 * k + 1)) (nI_add _ _) ?_
              refine x_iconst (v := 0) (pc := 170) hc dX6_settles_170 (by decide) ?_
              refine x_iast (pc := 171) hc af0 (vp_in_nI (by omega) (by decide)) dX6_settles_171 ?_
              refine x_G (gm_st (i := 328 + 5 * k + 1) (by omega) (by omega)) ?_
              refine x_fn (fun z => GM G p s z m) (fun f31 ef31 => ?_)
              refine x_aload_n (pc := 172) hc dX6_settles_172 4 rfl ?_
              refine x_get (pc := 173) hc cfR kcX6 0 (by decide) fl_X6_7 rfl dX6_settles_173 ?_
              refine x_iload (pc := 176) hc dX6_settles_176 3 rfl ?_
              refine x_iconst (v := 2) (pc := 178) hc dX6_settles_178 (by decide) ?_
              refine x_iadd (pc := 179) hc dX6_settles_179 ?_
              refine x_as (nI (p + 328 + 5 * k + 2)) (nI_add _ _) ?_
              refine x_iconst (v := 0) (pc := 180) hc dX6_settles_180 (by decide) ?_
              refine x_iast (pc := 181) hc af0 (vp_in_nI (by omega) (by decide)) dX6_settles_181 ?_
              refine x_G (gm_st (i := 328 + 5 * k + 2) (by omega) (by omega)) ?_
              refine x_fn (fun z => GM G p s z m) (fun f32 ef32 => ?_)
              exact hret _ _ _ dX6_settles_182 (congrArg (fun q => GM G p s q m) (by
                  subst ex16
                  subst ex75_3
                  subst ef28
                  subst ef29
                  subst ef30
                  subst ef31
                  subst ef32
                  have hon : b01 (f (328 + 5 * k + 2) = 1) = 1 := b01_pos c28
                  unfold rSet
                  rw [if_pos (Int32.not_le.mp c40_1), hon, if_pos c47_1]
                  unfold rSetA rWin
                  rw [hon, if_pos c55_1]; rfl))
            · exact absurd c47_1 c131_5
