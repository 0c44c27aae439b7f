set_option maxHeartbeats 4000000 in
set_option maxRecDepth 100000 in
theorem m_X3_endYear {w : WT} (hI : xI w) (l : Launch) (G : GS) (b y r : Nat) (g : GS) (hb : isB b) (hy : y + 1 < 2 ^ 30) (h5 : g 0 5 = nI y) (hr : r ≤ 9) (h0 : g 1 0 = nI r) : Mv w l yX3_endYear cX3_endYear 2 ⟨4, 0, 0, 96⟩ [.ref (w.2.2 b)] (GC G b g) (fun G' => G' = GC G b (cEnd (up2 (up2 g 0 5 (nI (y + 1))) 0 6 0) (3 + 5 * (y % 5)) (3 + 5 * ((y + 1) % 5)) r (g 1 1))) := by
  refine mk_v (L0 := [(0, .ref (w.2.2 b))]) hI (by decide +kernel) rfl (Nat.le_of_ble_eq_true rfl) (fun K hc hret => ?_)
  have hlb := isB_lt hb
  refine x_aload_n (pc := 0) hc dX3_endYear_0 0 rfl ?_
  refine x_callVr (pc := 1) hc cl_X3_93 (cfS hb) kcX3 [] (m_X3_yearOfNow hI (kl K) (GC G b g) b y hb (by omega) ((gc_at (c := 0) (by omega) (by omega)).trans h5)) rfl rfl (by simp [Value.category]) rfl rfl ⟨by decide, by decide⟩ dX3_endYear_1 (fun r1 Gc1 q1 => ?_)
  obtain ⟨er1, eGc1⟩ := q1
  rw [eGc1]
  subst er1
  refine x_astore_n (pc := 4) (L' := [(1, .ref (w.2.2 (b + (3 + 5 * (y % 5))))), (0, .ref (w.2.2 b))]) hc dX3_endYear_4 (by decide) rfl ?_
  refine x_aload_n (pc := 5) hc dX3_endYear_5 1 rfl ?_
  refine x_dupr (pc := 6) hc dX3_endYear_6 ?_
  refine x_get (pc := 7) hc (cfS hb) kcX3 5 (by decide) fl_X3_62 rfl dX3_endYear_7 ?_
  refine x_as (g 0 5) (gc_at (by omega) (by omega)) ?_
  refine x_as (nI y) h5 ?_
  refine x_iconst (v := 1) (pc := 10) hc dX3_endYear_10 (by decide) ?_
  refine x_iadd (pc := 11) hc dX3_endYear_11 ?_
  refine x_as (nI (y + 1)) (nI_add _ _) ?_
  refine x_puti (pc := 12) hc (cfS hb) kcX3 5 (by decide) fl_X3_62 (by decide) rfl (by simp [fX3]) rfl dX3_endYear_12 ?_
  refine x_G (gc_up (c := 0) (by omega) (by omega)) ?_
  refine x_fn (fun z => GC G b z) (fun g1 eg1 => ?_)
  refine x_aload_n (pc := 15) hc dX3_endYear_15 1 rfl ?_
  refine x_iconst (v := 0) (pc := 16) hc dX3_endYear_16 (by decide) ?_
  refine x_puti (pc := 17) hc (cfS hb) kcX3 6 (by decide) fl_X3_65 (by decide) rfl (by simp [fX3]) rfl dX3_endYear_17 ?_
  refine x_G (gc_up (c := 0) (by omega) (by omega)) ?_
  refine x_fn (fun z => GC G b z) (fun g2 eg2 => ?_)
  refine x_aload_n (pc := 20) hc dX3_endYear_20 1 rfl ?_
  refine x_callVr (pc := 21) hc cl_X3_93 (cfS hb) kcX3 [] (m_X3_yearOfNow hI (kl K) (GC G b g2) b ((y + 1)) hb (by omega) ((gc_at (c := 0) (by omega) (by omega)).trans (by rw [eg2, up2_i _ _ _ _ (by omega), eg1, up2_s]))) rfl rfl (by simp [Value.category]) rfl rfl ⟨by decide, by decide⟩ dX3_endYear_21 (fun r21 Gc21 q21 => ?_)
  obtain ⟨er21, eGc21⟩ := q21
  rw [eGc21]
  subst er21
  refine x_aload_n (pc := 24) hc dX3_endYear_24 0 rfl ?_
  refine x_aload_n (pc := 25) hc dX3_endYear_25 1 rfl ?_
  refine x_get (pc := 26) hc (cfS hb) kcX3 0 (by decide) fl_X3_9 rfl dX3_endYear_26 ?_
  refine x_iconst (v := 0) (pc := 29) hc dX3_endYear_29 (by decide) ?_
  refine x_as (nI 0) rfl ?_
  refine x_iald (pc := 30) hc (afS hb) (vp_in_nI (by omega) (by decide)) dX3_endYear_30 ?_
  refine x_as (g2 1 0) (gc_ld (by omega) (by omega) (by omega)) ?_
  refine x_as (nI r) (by rw [eg2, up2_r _ _ _ (by omega), eg1, up2_r _ _ _ (by omega)]; exact h0) ?_
  refine x_aload_n (pc := 31) hc dX3_endYear_31 1 rfl ?_
  refine x_get (pc := 32) hc (cfS hb) kcX3 0 (by decide) fl_X3_9 rfl dX3_endYear_32 ?_
  refine x_iconst (v := 1) (pc := 35) hc dX3_endYear_35 (by decide) ?_
  refine x_as (nI 1) rfl ?_
  refine x_iald (pc := 36) hc (afS hb) (vp_in_nI (by omega) (by decide)) dX3_endYear_36 ?_
  refine x_as (g2 1 1) (gc_ld (by omega) (by omega) (by omega)) ?_
  refine x_as (g 1 1) (by rw [eg2, up2_r _ _ _ (by omega), eg1, up2_r _ _ _ (by omega)]) ?_
  refine x_callVv (pc := 37) hc cl_X3_166 (cfY (isY_of hb (by omega))) kcX4 [.ref (w.2.2 (b + (3 + 5 * (y % 5)))), .int (nI r), .int (g 1 1)] (m_X4_beginBehind hI (kl K) (GC G b g2) (b + (3 + 5 * ((y + 1) % 5))) (b + (3 + 5 * (y % 5))) r (g 1 1) (isY_of hb (by omega)) (isY_of hb (by omega)) (by omega) hr) rfl rfl (by simp [Value.category]) rfl rfl ⟨by decide, by decide⟩ dX3_endYear_37 (fun Gc37 q37 => ?_)
  rw [q37, gc_end (by omega) (by omega)]
  exact hret _ _ _ dX3_endYear_40 (by
      subst eg1
      subst eg2
      rfl)
set_option maxHeartbeats 4000000 in
set_option maxRecDepth 100000 in
theorem m_X3_passDay {w : WT} (hI : xI w) (l : Launch) (G : GS) (b B : Nat) (v : Int32) (f : Nat → Int32) (g : GS) (hb : isB b) (hS : Sim g f) (hV : RV f B) (hz : BZ f) (hB : B + 1 < 2 ^ 30) : Mi w l yX3_passDay cX3_passDay 5 (some .int) ⟨5, 0, 0, 117⟩ [.ref (w.2.2 b), .int v] (GC G b g) (fun v9 G' => v9 = v - rTold f (dN f) ∧ ∃ g', G' = GC G b g' ∧ Sim g' (rMeas f v (dN f) (rN f))) := by
  refine mk_i (L0 := [(0, .ref (w.2.2 b)), (1, .int v)]) hI (by decide +kernel) rfl (Nat.le_of_ble_eq_true rfl) (fun _ _ _ => rfl) (fun K hc hret => ?_)
  have hS0 := hS
  have hV0 := hV
  obtain ⟨s1, ⟨t4, t5, t6, t7, t8, t9, t10, t11, t12⟩, s3, s4, ⟨y1, y2, y3, y4⟩, so⟩ := hS
  obtain ⟨⟨d1, d2⟩, ⟨v1, v2, v3⟩, ⟨r1, r2⟩, ho, ⟨c1, c2, c3⟩, hb4⟩ := hV
  have hlb := isB_lt hb
  have t5v : g 0 5 = nI (yN f) := t5.trans v2
  have t6v : g 0 6 = nI (dN f) := t6.trans d2
  have h10 : g 1 0 = nI (rN f) := (s1 0 (by omega)).trans r2
  refine x_aload_n (pc := 0) hc dX3_passDay_0 0 rfl ?_
  refine x_callVr (pc := 1) hc cl_X3_93 (cfS hb) kcX3 [] (m_X3_yearOfNow hI (kl K) (GC G b g) b ((yN f)) hb (by omega) ((gc_at (c := 0) (by omega) (by omega)).trans t5v)) rfl rfl (by simp [Value.category]) rfl rfl ⟨by decide, by decide⟩ dX3_passDay_1 (fun r1 Gc1 q1 => ?_)
  obtain ⟨er1, eGc1⟩ := q1
  rw [eGc1]
  subst er1
  refine x_astore_n (pc := 4) (L' := [(2, .ref (w.2.2 (b + (3 + 5 * ((yN f) % 5))))), (0, .ref (w.2.2 b)), (1, .int v)]) hc dX3_passDay_4 (by decide) rfl ?_
  refine x_aload_n (pc := 5) hc dX3_passDay_5 1 rfl ?_
  refine x_aload_n (pc := 6) hc dX3_passDay_6 1 rfl ?_
  refine x_get (pc := 7) hc (cfS hb) kcX3 6 (by decide) fl_X3_65 rfl dX3_passDay_7 ?_
  refine x_as (g 0 6) (gc_at (by omega) (by omega)) ?_
  refine x_as (nI (dN f)) t6v ?_
  refine x_callVi (pc := 10) hc cl_X3_124 (cfS hb) kcX3 [.int (nI (dN f))] (m_X3_foretoldOf hI (kl K) (GC G b g) (dN f) b f B hb (Sim_congr (g := g) (fun c i hc _ => by rw [gv_gc _ _ _ hc]) c1 (by omega) hS0) hV0 (by omega) d1) rfl rfl (by simp [Value.category]) rfl rfl ⟨by decide, by decide⟩ dX3_passDay_10 (fun r10 Gc10 q10 => ?_)
  obtain ⟨er10, eGc10⟩ := q10
  rw [eGc10]
  subst er10
  refine x_as (rTold f (dN f)) (by unfold rToldOf; rw [if_neg (by rw [d2]; exact Int32.lt_irrefl)]) ?_
  refine x_nm (fun x13 ex13 => ?_)
  refine x_istore_n (pc := 13) (L' := [(3, .int x13), (2, .ref (w.2.2 (b + (3 + 5 * ((yN f) % 5))))), (0, .ref (w.2.2 b)), (1, .int v)]) hc dX3_passDay_13 (by decide) rfl ?_
  subst ex13
  refine x_iload_n (pc := 14) hc dX3_passDay_14 3 rfl ?_
  refine x_iload_n (pc := 15) hc dX3_passDay_15 0 rfl ?_
  refine x_isub (pc := 16) hc dX3_passDay_16 ?_
  refine x_nm (fun x17 ex17 => ?_)
  refine x_istore (pc := 17) (L' := [(4, .int x17), (3, .int (rTold f (dN f))), (2, .ref (w.2.2 (b + (3 + 5 * ((yN f) % 5))))), (0, .ref (w.2.2 b)), (1, .int v)]) hc dX3_passDay_17 (by decide) rfl ?_
  refine x_aload_n (pc := 19) hc dX3_passDay_19 2 rfl ?_
  refine x_get (pc := 20) hc (cfY (isY_of hb (by omega))) kcX4 1 (by decide) fl_X3_103 rfl dX3_passDay_20 ?_
  refine x_aload_n (pc := 23) hc dX3_passDay_23 3 rfl ?_
  refine x_get (pc := 24) hc (cfS hb) kcX3 6 (by decide) fl_X3_65 rfl dX3_passDay_24 ?_
  refine x_as (g 0 6) (gc_at (by omega) (by omega)) ?_
  refine x_as (nI (dN f)) t6v ?_
  refine x_iload_n (pc := 27) hc dX3_passDay_27 1 rfl ?_
  refine x_iast (pc := 28) hc (afY (isY_of hb (by omega)) (i := 2) (by decide) (by decide)) (vp_in_nI (by omega) (by decide)) dX3_passDay_28 ?_
  refine x_G (gc_st (c := (3 + 5 * ((yN f) % 5)) + 2) (by omega) (by omega) (by omega)) ?_
  refine x_fn (fun z => GC G b z) (fun g1 eg1 => ?_)
  refine x_aload_n (pc := 29) hc dX3_passDay_29 2 rfl ?_
  refine x_get (pc := 30) hc (cfY (isY_of hb (by omega))) kcX4 2 (by decide) fl_X3_97 rfl dX3_passDay_30 ?_
  refine x_aload_n (pc := 33) hc dX3_passDay_33 3 rfl ?_
  refine x_get (pc := 34) hc (cfS hb) kcX3 6 (by decide) fl_X3_65 rfl dX3_passDay_34 ?_
  refine x_as (g1 0 6) (gc_at (by omega) (by omega)) ?_
  refine x_as (nI (dN f)) (by rw [eg1, up2_k _ _ _ _ (by omega)]; exact t6v) ?_
  refine x_iload_n (pc := 37) hc dX3_passDay_37 4 rfl ?_
  refine x_iast (pc := 38) hc (afY (isY_of hb (by omega)) (i := 3) (by decide) (by decide)) (vp_in_nI (by omega) (by decide)) dX3_passDay_38 ?_
  refine x_G (gc_st (c := (3 + 5 * ((yN f) % 5)) + 3) (by omega) (by omega) (by omega)) ?_
  refine x_fn (fun z => GC G b z) (fun g2 eg2 => ?_)
  refine x_aload_n (pc := 39) hc dX3_passDay_39 2 rfl ?_
  refine x_get (pc := 40) hc (cfY (isY_of hb (by omega))) kcX4 3 (by decide) fl_X3_127 rfl dX3_passDay_40 ?_
  refine x_aload_n (pc := 43) hc dX3_passDay_43 3 rfl ?_
  refine x_get (pc := 44) hc (cfS hb) kcX3 6 (by decide) fl_X3_65 rfl dX3_passDay_44 ?_
  refine x_as (g2 0 6) (gc_at (by omega) (by omega)) ?_
  refine x_as (nI (dN f)) (by rw [eg2, up2_k _ _ _ _ (by omega), eg1, up2_k _ _ _ _ (by omega)]; exact t6v) ?_
  refine x_iload (pc := 47) hc dX3_passDay_47 0 rfl ?_
  refine x_iast (pc := 49) hc (afY (isY_of hb (by omega)) (i := 4) (by decide) (by decide)) (vp_in_nI (by omega) (by decide)) dX3_passDay_49 ?_
  refine x_G (gc_st (c := (3 + 5 * ((yN f) % 5)) + 4) (by omega) (by omega) (by omega)) ?_
  refine x_fn (fun z => GC G b z) (fun g3 eg3 => ?_)
  refine x_aload_n (pc := 50) hc dX3_passDay_50 2 rfl ?_
  refine x_dupr (pc := 51) hc dX3_passDay_51 ?_
  refine x_get (pc := 52) hc (cfY (isY_of hb (by omega))) kcX4 4 (by decide) fl_X3_130 rfl dX3_passDay_52 ?_
  refine x_as (g3 ((3 + 5 * ((yN f) % 5))) 4) (gc_at (by omega) (by omega)) ?_
  refine x_iload (pc := 55) hc dX3_passDay_55 0 rfl ?_
  refine x_abs (pc := 57) hc ml_X3_131 (by decide) (by simp [Value.category]) dX3_passDay_57 ?_
  refine x_as (szI x17) (abs_sz _) ?_
  refine x_iadd (pc := 60) hc dX3_passDay_60 ?_
  refine x_puti (pc := 61) hc (cfY (isY_of hb (by omega))) kcX4 4 (by decide) fl_X3_130 (by decide) rfl (by simp [fX4]) rfl dX3_passDay_61 ?_
  refine x_G (gc_up (c := (3 + 5 * ((yN f) % 5))) (by omega) (by omega)) ?_
  refine x_fn (fun z => GC G b z) (fun g4 eg4 => ?_)
  refine x_aload_n (pc := 64) hc dX3_passDay_64 3 rfl ?_
  refine x_dupr (pc := 65) hc dX3_passDay_65 ?_
  refine x_get (pc := 66) hc (cfS hb) kcX3 8 (by decide) fl_X3_71 rfl dX3_passDay_66 ?_
  refine x_as (g4 0 8) (gc_at (by omega) (by omega)) ?_
  refine x_iload (pc := 69) hc dX3_passDay_69 0 rfl ?_
  refine x_abs (pc := 71) hc ml_X3_131 (by decide) (by simp [Value.category]) dX3_passDay_71 ?_
  refine x_as (szI x17) (abs_sz _) ?_
  refine x_iadd (pc := 74) hc dX3_passDay_74 ?_
  refine x_puti (pc := 75) hc (cfS hb) kcX3 8 (by decide) fl_X3_71 (by decide) rfl (by simp [fX3]) rfl dX3_passDay_75 ?_
  refine x_G (gc_up (c := 0) (by omega) (by omega)) ?_
  refine x_fn (fun z => GC G b z) (fun g5 eg5 => ?_)
  refine x_aload_n (pc := 78) hc dX3_passDay_78 3 rfl ?_
  refine x_iload_n (pc := 79) hc dX3_passDay_79 4 rfl ?_
  refine x_callNi (pc := 80) hc cl_X3_134 hc.2.2.2.2.2.2.2.1.2.1 [.int v] (m_X5_isFrost hI (kl K) (GC G b g5) v) rfl rfl (by simp [Value.category]) rfl rfl ⟨by decide, by decide⟩ dX3_passDay_80 (fun r80 Gc80 q80 => ?_)
  obtain ⟨er80, eGc80⟩ := q80
  rw [eGc80]
  subst er80
  refine x_aload_n (pc := 83) hc dX3_passDay_83 3 rfl ?_
  refine x_iload_n (pc := 84) hc dX3_passDay_84 1 rfl ?_
  refine x_callVi (pc := 85) hc cl_X3_137 (cfS hb) kcX3 [.int (rTold f (dN f))] (m_X3_isFrostForetold hI (kl K) (GC G b g5) b (rTold f (dN f)) hb) rfl rfl (by simp [Value.category]) rfl rfl ⟨by decide, by decide⟩ dX3_passDay_85 (fun r85 Gc85 q85 => ?_)
  obtain ⟨er85, eGc85⟩ := q85
  rw [eGc85]
  subst er85
  refine x_as (rT f (dN f)) (by
    have q9 : (GC G b g5) (b + 1) 2 = f (303 + 2) := (gc_at (c := 1) (by omega) (by omega)).trans (by rw [eg5, up2_r _ _ _ (by omega), eg4, up2_r _ _ _ (by omega), eg3, up2_r _ _ _ (by omega), eg2, up2_r _ _ _ (by omega), eg1, up2_r _ _ _ (by omega)]; exact s1 2 (by omega))
    exact congrArg (fun q => b01 (rTold f (dN f) ≤ q)) q9) ?_
  refine x_callVv (pc := 88) hc cl_X3_140 (cfS hb) kcX3 [.int (b01 (v ≤ 0)), .int (rT f (dN f))] (m_X3_countFrost hI (kl K) G b (b01 (v ≤ 0)) (rT f (dN f)) g5 hb) rfl rfl (by simp [Value.category]) rfl rfl ⟨by decide, by decide⟩ dX3_passDay_88 (fun Gc88 q88 => ?_)
  rw [q88]
  refine x_aload_n (pc := 91) hc dX3_passDay_91 3 rfl ?_
  refine x_iload_n (pc := 92) hc dX3_passDay_92 4 rfl ?_
  refine x_callNi (pc := 93) hc cl_X3_134 hc.2.2.2.2.2.2.2.1.2.1 [.int v] (m_X5_isFrost hI (kl K) (GC G b (cnt g5 (b01 (v ≤ 0)) (rT f (dN f)))) v) rfl rfl (by simp [Value.category]) rfl rfl ⟨by decide, by decide⟩ dX3_passDay_93 (fun r93 Gc93 q93 => ?_)
  obtain ⟨er93, eGc93⟩ := q93
  rw [eGc93]
  subst er93
  refine x_aload_n (pc := 96) hc dX3_passDay_96 3 rfl ?_
  refine x_iload_n (pc := 97) hc dX3_passDay_97 1 rfl ?_
  refine x_callVi (pc := 98) hc cl_X3_137 (cfS hb) kcX3 [.int (rTold f (dN f))] (m_X3_isFrostForetold hI (kl K) (GC G b (cnt g5 (b01 (v ≤ 0)) (rT f (dN f)))) b (rTold f (dN f)) hb) rfl rfl (by simp [Value.category]) rfl rfl ⟨by decide, by decide⟩ dX3_passDay_98 (fun r98 Gc98 q98 => ?_)
  obtain ⟨er98, eGc98⟩ := q98
  rw [eGc98]
  subst er98
  refine x_as (rT f (dN f)) (by
    have q9 : (GC G b (cnt g5 (b01 (v ≤ 0)) (rT f (dN f)))) (b + 1) 2 = f (303 + 2) := (gc_at (c := 1) (by omega) (by omega)).trans (by rw [cnt_r _ _ _ _ (by omega), eg5, up2_r _ _ _ (by omega), eg4, up2_r _ _ _ (by omega), eg3, up2_r _ _ _ (by omega), eg2, up2_r _ _ _ (by omega), eg1, up2_r _ _ _ (by omega)]; exact s1 2 (by omega))
    exact congrArg (fun q => b01 (rTold f (dN f) ≤ q)) q9) ?_
  refine x_callVv (pc := 101) hc cl_X3_144 (cfS hb) kcX3 [.int (b01 (v ≤ 0)), .int (rT f (dN f))] (m_X3_settleBets hI (kl K) G b (b01 (v ≤ 0)) (rT f (dN f)) ((cnt g5 (b01 (v ≤ 0)) (rT f (dN f)))) hb) rfl rfl (by simp [Value.category]) rfl rfl ⟨by decide, by decide⟩ dX3_passDay_101 (fun Gc101 q101 => ?_)
  rw [q101]
  refine x_aload_n (pc := 104) hc dX3_passDay_104 3 rfl ?_
  refine x_dupr (pc := 105) hc dX3_passDay_105 ?_
  refine x_get (pc := 106) hc (cfS hb) kcX3 7 (by decide) fl_X3_68 rfl dX3_passDay_106 ?_
  refine x_as ((cSets ((cnt g5 (b01 (v ≤ 0)) (rT f (dN f)))) (b01 (v ≤ 0)) (rT f (dN f)) 4) 0 7) (gc_at (by omega) (by omega)) ?_
  refine x_iconst (v := 1) (pc := 109) hc dX3_passDay_109 (by decide) ?_
  refine x_iadd (pc := 110) hc dX3_passDay_110 ?_
  refine x_puti (pc := 111) hc (cfS hb) kcX3 7 (by decide) fl_X3_68 (by decide) rfl (by simp [fX3]) rfl dX3_passDay_111 ?_
  refine x_G (gc_up (c := 0) (by omega) (by omega)) ?_
  refine x_fn (fun z => GC G b z) (fun g6 eg6 => ?_)
  refine x_aload_n (pc := 114) hc dX3_passDay_114 3 rfl ?_
  refine x_dupr (pc := 115) hc dX3_passDay_115 ?_
  refine x_get (pc := 116) hc (cfS hb) kcX3 6 (by decide) fl_X3_65 rfl dX3_passDay_116 ?_
  refine x_as (g6 0 6) (gc_at (by omega) (by omega)) ?_
  refine x_as (nI (dN f)) (by rw [eg6, up2_i _ _ _ _ (by omega), cSets_0 _ _ _ _ (by omega), cnt_0 _ _ _ _ (by omega), eg5, up2_i _ _ _ _ (by omega), eg4, up2_k _ _ _ _ (by omega), eg3, up2_k _ _ _ _ (by omega), eg2, up2_k _ _ _ _ (by omega), eg1, up2_k _ _ _ _ (by omega)]; exact t6v) ?_
  refine x_iconst (v := 1) (pc := 119) hc dX3_passDay_119 (by decide) ?_
  refine x_iadd (pc := 120) hc dX3_passDay_120 ?_
  refine x_as (nI (dN f + 1)) (nI_add _ _) ?_
  refine x_puti (pc := 121) hc (cfS hb) kcX3 6 (by decide) fl_X3_65 (by decide) rfl (by simp [fX3]) rfl dX3_passDay_121 ?_
  refine x_G (gc_up (c := 0) (by omega) (by omega)) ?_
  refine x_fn (fun z => GC G b z) (fun g7 eg7 => ?_)
  refine x_aload_n (pc := 124) hc dX3_passDay_124 3 rfl ?_
  refine x_get (pc := 125) hc (cfS hb) kcX3 6 (by decide) fl_X3_65 rfl dX3_passDay_125 ?_
  refine x_as (g7 0 6) (gc_at (by omega) (by omega)) ?_
  refine x_as (nI (dN f + 1)) (by rw [eg7, up2_s]) ?_
  refine x_bipush (v := 20) (pc := 128) hc dX3_passDay_128 (by decide) ?_
  refine x_icmp_ne (pc := 130) hc dX3_passDay_130 137 (by decide) (fun c130 => ?_) (fun c130 => ?_)
  · have c130 : ¬ dN f + 1 = 20 := fun h9 => c130 ((nI_eq (a := dN f + 1) (b := 20) (by omega) (by omega)).mpr h9)
    refine x_iload (pc := 137) hc dX3_passDay_137 0 rfl ?_
    exact hret _ _ _ _ dX3_passDay_139 ⟨ex17, g7, rfl, by
        unfold rMeas
        rw [if_neg c130]
        exact (Sim_go (g := g) hS0 hV0 hz ex17 rfl rfl eg1 eg2 eg3 eg4 eg5 eg6 eg7)⟩
  · have c130 : dN f + 1 = 20 := (nI_eq (a := dN f + 1) (b := 20) (by omega) (by omega)).mp c130
    refine x_aload_n (pc := 133) hc dX3_passDay_133 3 rfl ?_
    refine x_callVv (pc := 134) hc cl_X3_147 (cfS hb) kcX3 [] (m_X3_endYear hI (kl K) G b (yN f) (rN f) g7 hb (by omega) (by rw [eg7, up2_i _ _ _ _ (by omega), eg6, up2_i _ _ _ _ (by omega), cSets_0 _ _ _ _ (by omega), cnt_0 _ _ _ _ (by omega), eg5, up2_i _ _ _ _ (by omega), eg4, up2_k _ _ _ _ (by omega), eg3, up2_k _ _ _ _ (by omega), eg2, up2_k _ _ _ _ (by omega), eg1, up2_k _ _ _ _ (by omega)]; exact t5v) r1 (by rw [eg7, up2_r _ _ _ (by omega), eg6, up2_r _ _ _ (by omega), cSets_r _ _ _ _ (by omega) (by omega), cnt_r _ _ _ _ (by omega), eg5, up2_r _ _ _ (by omega), eg4, up2_r _ _ _ (by omega), eg3, up2_r _ _ _ (by omega), eg2, up2_r _ _ _ (by omega), eg1, up2_r _ _ _ (by omega)]; exact h10)) rfl rfl (by simp [Value.category]) rfl rfl ⟨by decide, by decide⟩ dX3_passDay_134 (fun Gc134 q134 => ?_)
    rw [q134]
    refine x_iload (pc := 137) hc dX3_passDay_137 0 rfl ?_
    exact hret _ _ _ _ dX3_passDay_139 ⟨ex17, _, rfl, by
        have hgo := (Sim_go (g := g) hS0 hV0 hz ex17 rfl rfl eg1 eg2 eg3 eg4 eg5 eg6 eg7)
        unfold rMeas
        rw [if_pos c130]
        have z1 : g7 1 1 = rGo f v (dN f) 304 := by
          rw [eg7, up2_r _ _ _ (by omega), eg6, up2_r _ _ _ (by omega), cSets_r _ _ _ _ (by omega) (by omega), cnt_r _ _ _ _ (by omega), eg5, up2_r _ _ _ (by omega), eg4, up2_r _ _ _ (by omega), eg3, up2_r _ _ _ (by omega), eg2, up2_r _ _ _ (by omega), eg1, up2_r _ _ _ (by omega), rGo_mid f v d1 (by omega) (by omega)]; exact s1 1 (by omega)
        rw [z1]
        refine Sim_end hgo ?_ ?_ (by omega) ?_
        · rw [show rGo f v (dN f) 300 = nI (dN f + 1) from rMid_300 _ _ _ _ _ _, c130]
        · rw [rGo_mid f v d1 (by omega) (by omega), v2]
        · unfold cN
          rw [rGo_mid f v d1 (by omega) (by omega)]
          exact c1⟩
set_option maxHeartbeats 4000000 in
set_option maxRecDepth 100000 in
theorem m_X3_removeSaint {w : WT} (hI : xI w) (l : Launch) (G : GS) (b a c : Nat) (hb : isB b) (h4 : G b 4 = nI c) (hc5 : c ≤ 5) (ha : a < c) : Mv w l yX3_removeSaint cX3_removeSaint 3 ⟨1, 0, 0, 21⟩ [.ref (w.2.2 b), .int (nI a)] G (fun G' => (∀ m, a ≤ m → m + 1 < c → ∀ j, j < 4 → G' (b + (29 + m)) j = G (b + (29 + (m + 1))) j) ∧ G' b = upd (G b) 4 (nI (c - 1)) ∧ ∀ z, z ≠ b → ¬ (b + (29 + a) ≤ z ∧ z + 1 < b + (29 + c)) → G' z = G z) := by
  refine mk_v (L0 := [(0, .ref (w.2.2 b)), (1, .int (nI a))]) hI (by decide +kernel) rfl (Nat.le_of_ble_eq_true rfl) (fun K hc hret => ?_)
  have hlb := isB_lt hb
  refine x_iload_n (pc := 0) hc dX3_removeSaint_0 1 rfl ?_
  refine x_iconst (v := 1) (pc := 1) hc dX3_removeSaint_1 (by decide) ?_
  refine x_iadd (pc := 2) hc dX3_removeSaint_2 ?_
  refine x_as (nI (a + 1)) (nI_add _ _) ?_
  refine x_istore_n (pc := 3) (L' := [(2, .int (nI (a + 1))), (0, .ref (w.2.2 b)), (1, .int (nI a))]) hc dX3_removeSaint_3 (by decide) rfl ?_
  have loop4 : ∀ (n1 : Nat) (i : Nat) (Gx : GS), a + 1 ≤ i → i ≤ c → c < i + n1 → (∀ m, a ≤ m → m + 1 < i → ∀ j, j < 4 → Gx (b + (29 + m)) j = G (b + (29 + (m + 1))) j) → (∀ z, ¬ (b + (29 + a) ≤ z ∧ z + 1 < b + (29 + i)) → Gx z = G z) → XX w K 3 Gx 4 [(2, .int (nI i)), (0, .ref (w.2.2 b)), (1, .int (nI a))] [] := by
    intro n1
    induction n1 with
    | zero => intro i Gx h0 hn hf hI9 hJ; omega
    | succ n1 ih =>
      intro i Gx h0 hn hf hI9 hJ
      refine x_iload_n (pc := 4) hc dX3_removeSaint_4 0 rfl ?_
      refine x_aload_n (pc := 5) hc dX3_removeSaint_5 1 rfl ?_
      refine x_get (pc := 6) hc (cfS hb) kcX3 4 (by decide) fl_X3_59 rfl dX3_removeSaint_6 ?_
      refine x_as (nI c) (by rw [hJ b (by omega)]; exact h4) ?_
      refine x_icmp_ge (pc := 9) hc dX3_removeSaint_9 35 (by decide) (fun c9 => ?_) (fun c9 => ?_)
      · have c9 : c ≤ i := (nI_leI (a := c) (b := i) (by omega) (by omega)).mp c9
        refine x_aload_n (pc := 35) hc dX3_removeSaint_35 1 rfl ?_
        refine x_dupr (pc := 36) hc dX3_removeSaint_36 ?_
        refine x_get (pc := 37) hc (cfS hb) kcX3 4 (by decide) fl_X3_59 rfl dX3_removeSaint_37 ?_
        refine x_as (nI c) (by rw [hJ b (by omega)]; exact h4) ?_
        refine x_iconst (v := 1) (pc := 40) hc dX3_removeSaint_40 (by decide) ?_
        refine x_isub (pc := 41) hc dX3_removeSaint_41 ?_
        refine x_as (nI (c - 1)) ((by show nI c - nI 1 = _; exact pk_sub (by omega))) ?_
        refine x_puti (pc := 42) hc (cfS hb) kcX3 4 (by decide) fl_X3_59 (by decide) rfl (by simp [fX3]) rfl dX3_removeSaint_42 ?_
        refine x_Gn (fun G1 eG1 => ?_)
        exact hret _ _ _ dX3_removeSaint_45 (by
            rw [show i = c by omega] at hI9 hJ
            refine ⟨fun m h1 h2 j hj => ?_, ?_, fun z hz hz2 => ?_⟩
            · rw [eG1, up2_r _ _ _ (by omega)]; exact hI9 m h1 h2 j hj
            · rw [eG1, up2_1, up1_s, hJ b (by omega)]
            · rw [eG1, up2_r _ _ _ hz]; exact hJ z hz2)
      · have c9 : ¬ c ≤ i := fun h9 => c9 ((nI_leI (a := c) (b := i) (by omega) (by omega)).mpr h9)
        refine x_aload_n (pc := 12) hc dX3_removeSaint_12 1 rfl ?_
        refine x_get (pc := 13) hc (cfS hb) kcX3 2 (by decide) fl_X3_33 rfl dX3_removeSaint_13 ?_
        refine x_iload_n (pc := 16) hc dX3_removeSaint_16 0 rfl ?_
        refine x_iconst (v := 1) (pc := 17) hc dX3_removeSaint_17 (by decide) ?_
        refine x_isub (pc := 18) hc dX3_removeSaint_18 ?_
        refine x_as (nI (i - 1)) ((by show nI i - nI 1 = _; exact pk_sub (by omega))) ?_
        refine x_aald (pc := 19) hc (rfS hb) rfl (vp_in_nI (by omega) (by decide)) (b + (29 + (i - 1))) (by rw [nI_clamp (by omega)]) dX3_removeSaint_19 ?_
        refine x_aload_n (pc := 20) hc dX3_removeSaint_20 1 rfl ?_
        refine x_get (pc := 21) hc (cfS hb) kcX3 2 (by decide) fl_X3_33 rfl dX3_removeSaint_21 ?_
        refine x_iload_n (pc := 24) hc dX3_removeSaint_24 0 rfl ?_
        refine x_aald (pc := 25) hc (rfS hb) rfl (vp_in_nI (by omega) (by decide)) (b + (29 + i)) (by rw [nI_clamp (by omega)]) dX3_removeSaint_25 ?_
        refine x_callVv (pc := 26) hc cl_X3_53 (cfN (isN_of hb (by omega))) kcX2 [.ref (w.2.2 (b + (29 + i)))] (m_X2_copyFrom hI (kl K) Gx (b + (29 + (i - 1))) (b + (29 + i)) (isN_of hb (by omega)) (isN_of hb (by omega)) (by omega)) rfl rfl (by simp [Value.category]) rfl rfl ⟨by decide, by decide⟩ dX3_removeSaint_26 (fun Gc26 q26 => ?_)
        refine x_iinc (pc := 29) (L' := [(2, .int (nI (i + 1))), (0, .ref (w.2.2 b)), (1, .int (nI a))]) hc dX3_removeSaint_29 0 rfl (nI (i + 1)) (nI_1 _) (by decide) rfl ?_
        refine x_goto (pc := 32) hc dX3_removeSaint_32 4 (by decide) ?_
        refine x_loc [0, 1, 2] rfl ?_
        refine ih (i + 1) Gc26 (by omega) (by omega) (by omega) (fun m h1 h2 j hj => ?_) (fun z hz => ?_)
        · by_cases e : m + 1 = i
          · rw [show b + (29 + m) = b + (29 + (i - 1)) by omega, q26.1 j hj, hJ _ (by omega), show b + (29 + i) = b + (29 + (m + 1)) by omega]
          · rw [q26.2 _ (by omega)]; exact hI9 m h1 (by omega) j hj
        · rw [q26.2 z (by omega)]; exact hJ z (by omega)
  refine x_loc [0, 1, 2] rfl ?_
  exact loop4 8 (a + 1) _ (by omega) (by omega) (by omega) (fun m h1 h2 => by omega) (fun z hz => rfl)
