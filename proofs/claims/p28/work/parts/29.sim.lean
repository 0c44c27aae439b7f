def cY (f : Nat → Int32) : Nat := 3 + 5 * (yN f % 5)
def cO (f : Nat → Int32) (a : Nat) : Nat := 3 + 5 * ((yN f - 1 - a) % 5)
def SimY (g : GS) (f : Nat → Int32) : Prop := (∀ i, i < 20 → g (cY f + 1) i = f i) ∧ (∀ i, i < dN f → g (cY f + 2) i = f (20 + i) ∧ g (cY f + 3) i = f (40 + i)) ∧ (∀ i, i < 20 → g (cY f + 4) i = nowM f i) ∧ g (cY f) 4 = sSum (nowM f) 20
def SimO (g : GS) (f : Nat → Int32) (a : Nat) : Prop := (∀ i, i < 20 → g (cO f a + 1) i = f (100 + 60 * a + i) ∧ g (cO f a + 2) i = f (60 + 60 * a + i) - f (80 + 60 * a + i) ∧ g (cO f a + 3) i = f (60 + 60 * a + i) ∧ g (cO f a + 4) i = f (80 + 60 * a + i)) ∧ g (cO f a) 4 = sSum (okM f a) 20
/-- the state g is the row f -/
def Sim (g : GS) (f : Nat → Int32) : Prop := (∀ i, i < 4 → g 1 i = f (303 + i)) ∧ (g 0 4 = f 307 ∧ g 0 5 = f 301 ∧ g 0 6 = f 300 ∧ g 0 7 = f 353 ∧ g 0 8 = f 352 ∧ g 0 9 = f 348 ∧ g 0 10 = f 349 ∧ g 0 11 = f 350 ∧ g 0 12 = f 351) ∧ (∀ i, i < cN f → ∀ j, j < 4 → g (29 + i) j = f (308 + 4 * i + j)) ∧ (∀ k, k < 4 → ∀ j, j < 5 → g (35 + k) j = f (328 + 5 * k + j)) ∧ SimY g f ∧ ∀ a, a < kN f → SimO g f a
def gv (G : GS) (b : Nat) : GS := fun c => G (b + c)
theorem cY_r (f : Nat → Int32) : 3 ≤ cY f ∧ cY f + 4 < 28 ∧ (cY f - 3) % 5 = 0 := by unfold cY; omega
theorem cO_r (f : Nat → Int32) (a : Nat) : 3 ≤ cO f a ∧ cO f a + 4 < 28 ∧ (cO f a - 3) % 5 = 0 := by unfold cO; omega
theorem Sim_congr {g g' : GS} {f : Nat → Int32} (h : ∀ c i, c < 39 → relS c i → g' c i = g c i) (hc : cN f ≤ 5) (hd : dN f ≤ 20) (hS : Sim g f) : Sim g' f := by
  obtain ⟨h1, ⟨a1, a2, a3, a4, a5, a6, a7, a8, a9⟩, h3, h4, ⟨y1, y2, y3, y4⟩, ho⟩ := hS
  have ry := cY_r f
  have r0 : ∀ i, 4 ≤ i → i ≤ 12 → g' 0 i = g 0 i := fun i u v => h 0 i (by omega) (Or.inl ⟨rfl, u, v⟩)
  have ra : ∀ c, 3 ≤ c → c + 4 < 28 → (c - 3) % 5 = 0 → ∀ t, 1 ≤ t → t ≤ 4 → ∀ i, i < 20 → g' (c + t) i = g (c + t) i := fun c u v u2 t t1 t2 i hi => h (c + t) i (by omega) (Or.inr (Or.inr (Or.inl ⟨by omega, by omega, by omega, hi⟩)))
  have rc : ∀ c, 3 ≤ c → c + 4 < 28 → (c - 3) % 5 = 0 → g' c 4 = g c 4 := fun c u v u2 => h c 4 (by omega) (Or.inr (Or.inr (Or.inr (Or.inl ⟨by omega, by omega, by omega, rfl⟩))))
  refine ⟨fun i hi => by rw [h 1 i (by omega) (Or.inr (Or.inl ⟨rfl, hi⟩)), h1 i hi], ⟨by rw [r0 4 (by omega) (by omega), a1], by rw [r0 5 (by omega) (by omega), a2], by rw [r0 6 (by omega) (by omega), a3], by rw [r0 7 (by omega) (by omega), a4], by rw [r0 8 (by omega) (by omega), a5], by rw [r0 9 (by omega) (by omega), a6], by rw [r0 10 (by omega) (by omega), a7], by rw [r0 11 (by omega) (by omega), a8], by rw [r0 12 (by omega) (by omega), a9]⟩, fun i hi j hj => by rw [h (29 + i) j (by omega) (Or.inr (Or.inr (Or.inr (Or.inr (Or.inl ⟨by omega, by omega, hj⟩))))), h3 i hi j hj], fun k hk j hj => by rw [h (35 + k) j (by omega) (Or.inr (Or.inr (Or.inr (Or.inr (Or.inr ⟨by omega, by omega, hj⟩))))), h4 k hk j hj], ⟨fun i hi => by rw [ra _ ry.1 ry.2.1 ry.2.2 1 (by omega) (by omega) i hi, y1 i hi], fun i hi => ⟨by rw [ra _ ry.1 ry.2.1 ry.2.2 2 (by omega) (by omega) i (by omega), (y2 i hi).1], by rw [ra _ ry.1 ry.2.1 ry.2.2 3 (by omega) (by omega) i (by omega), (y2 i hi).2]⟩, fun i hi => by rw [ra _ ry.1 ry.2.1 ry.2.2 4 (by omega) (by omega) i hi, y3 i hi], by rw [rc _ ry.1 ry.2.1 ry.2.2, y4]⟩, fun a ha => ?_⟩
  have ro := cO_r f a
  obtain ⟨o1, o2⟩ := ho a ha
  refine ⟨fun i hi => ?_, by rw [rc _ ro.1 ro.2.1 ro.2.2, o2]⟩
  obtain ⟨p1, p2, p3, p4⟩ := o1 i hi
  exact ⟨by rw [ra _ ro.1 ro.2.1 ro.2.2 1 (by omega) (by omega) i hi, p1], by rw [ra _ ro.1 ro.2.1 ro.2.2 2 (by omega) (by omega) i hi, p2], by rw [ra _ ro.1 ro.2.1 ro.2.2 3 (by omega) (by omega) i hi, p3], by rw [ra _ ro.1 ro.2.1 ro.2.2 4 (by omega) (by omega) i hi, p4]⟩
theorem gv_gc (G0 : GS) (b : Nat) (g : GS) {c : Nat} (hc : c < 39) : gv (GC G0 b g) b c = g c := gc_in G0 b g rfl hc
theorem min4 {y : Nat} (hy : y < 2 ^ 30) : (if (4 : Int32) < nI y then 4 else nI y) = nI (min y 4) := by
  by_cases h : 4 < y
  · rw [if_pos (show (4 : Int32) < nI y from (nI_ltI (a := 4) (by omega) (by omega)).mpr h), show min y 4 = 4 by omega]; rfl
  · rw [if_neg (show ¬ (4 : Int32) < nI y from fun z => h ((nI_ltI (a := 4) (by omega) (by omega)).mp z)), show min y 4 = y by omega]
theorem rem5 {y : Nat} (hy : y < 2 ^ 30) : nI y - nI y / 5 * 5 = nI (y % 5) := pk_rem (d := 5) (by omega) (by omega) (by omega)
set_option maxHeartbeats 4000000 in
set_option maxRecDepth 100000 in
theorem m_X3_yearOfNow {w : WT} (hI : xI w) (l : Launch) (G : GS) (b y : Nat) (hb : isB b) (hy : y < 2 ^ 30) (h5 : G b 5 = nI y) : Mr w l yX3_yearOfNow cX3_yearOfNow 1 (some (.object "MistakeAlmanac$Year")) ⟨0, 0, 0, 0⟩ [.ref (w.2.2 b)] G (fun q G' => q = b + (3 + 5 * (y % 5)) ∧ G' = G) := by
  refine mk_r (L0 := [(0, .ref (w.2.2 b))]) hI (by decide +kernel) rfl (Nat.le_of_ble_eq_true rfl) (fun K hc hret => ?_)
  refine x_aload_n (pc := 0) hc dX3_yearOfNow_0 0 rfl ?_
  refine x_get (pc := 1) hc (cfS hb) kcX3 1 (by decide) fl_X3_26 rfl dX3_yearOfNow_1 ?_
  refine x_aload_n (pc := 4) hc dX3_yearOfNow_4 0 rfl ?_
  refine x_get (pc := 5) hc (cfS hb) kcX3 5 (by decide) fl_X3_62 rfl dX3_yearOfNow_5 ?_
  refine x_as (nI y) h5 ?_
  refine x_iconst (v := 5) (pc := 8) hc dX3_yearOfNow_8 (by decide) ?_
  refine x_irem (pc := 9) hc dX3_yearOfNow_9 (by decide) (nI (y % 5)) (rem5 hy) ?_
  refine x_aald (pc := 10) hc (rfY hb) rfl (vp_in_nI (by omega) (by decide)) (b + (3 + 5 * (y % 5))) (by rw [nI_clamp (by omega)]) dX3_yearOfNow_10 ?_
  exact hret _ _ _ _ dX3_yearOfNow_11 ⟨rfl, rfl⟩
set_option maxHeartbeats 4000000 in
set_option maxRecDepth 100000 in
theorem m_X3_knownYears {w : WT} (hI : xI w) (l : Launch) (G : GS) (b y : Nat) (hb : isB b) (hy : y < 2 ^ 30) (h5 : G b 5 = nI y) : Mi w l yX3_knownYears cX3_knownYears 1 (some .int) ⟨1, 0, 0, 30⟩ [.ref (w.2.2 b)] G (fun v9 G' => v9 = nI (min y 4) ∧ G' = G) := by
  refine mk_i (L0 := [(0, .ref (w.2.2 b))]) hI (by decide +kernel) rfl (Nat.le_of_ble_eq_true rfl) (fun _ _ _ => rfl) (fun K hc hret => ?_)
  refine x_aload_n (pc := 0) hc dX3_knownYears_0 0 rfl ?_
  refine x_get (pc := 1) hc (cfS hb) kcX3 5 (by decide) fl_X3_62 rfl dX3_knownYears_1 ?_
  refine x_as (nI y) h5 ?_
  refine x_iconst (v := 4) (pc := 4) hc dX3_knownYears_4 (by decide) ?_
  refine x_min (pc := 5) hc ml_X3_84 (by decide) (by simp [Value.category]) dX3_knownYears_5 ?_
  refine x_as (nI (min y 4)) (min4 hy) ?_
  exact hret _ _ _ _ dX3_knownYears_8 ⟨rfl, rfl⟩
set_option maxHeartbeats 4000000 in
set_option maxRecDepth 100000 in
theorem m_X3_endedYear {w : WT} (hI : xI w) (l : Launch) (G : GS) (b y a : Nat) (hb : isB b) (hy : y < 2 ^ 30) (h5 : G b 5 = nI y) (ha : a + 1 ≤ y) : Mr w l yX3_endedYear cX3_endedYear 2 (some (.object "MistakeAlmanac$Year")) ⟨0, 0, 0, 0⟩ [.ref (w.2.2 b), .int (nI a)] G (fun q G' => q = b + (3 + 5 * ((y - 1 - a) % 5)) ∧ G' = G) := by
  refine mk_r (L0 := [(0, .ref (w.2.2 b)), (1, .int (nI a))]) hI (by decide +kernel) rfl (Nat.le_of_ble_eq_true rfl) (fun K hc hret => ?_)
  refine x_aload_n (pc := 0) hc dX3_endedYear_0 0 rfl ?_
  refine x_get (pc := 1) hc (cfS hb) kcX3 1 (by decide) fl_X3_26 rfl dX3_endedYear_1 ?_
  refine x_aload_n (pc := 4) hc dX3_endedYear_4 0 rfl ?_
  refine x_get (pc := 5) hc (cfS hb) kcX3 5 (by decide) fl_X3_62 rfl dX3_endedYear_5 ?_
  refine x_as (nI y) h5 ?_
  refine x_iconst (v := 1) (pc := 8) hc dX3_endedYear_8 (by decide) ?_
  refine x_isub (pc := 9) hc dX3_endedYear_9 ?_
  refine x_as (nI (y - 1)) ((by show nI y - nI 1 = _; exact pk_sub (by omega))) ?_
  refine x_iload_n (pc := 10) hc dX3_endedYear_10 1 rfl ?_
  refine x_isub (pc := 11) hc dX3_endedYear_11 ?_
  refine x_as (nI (y - 1 - a)) (pk_sub (by omega)) ?_
  refine x_iconst (v := 5) (pc := 12) hc dX3_endedYear_12 (by decide) ?_
  refine x_irem (pc := 13) hc dX3_endedYear_13 (by decide) (nI ((y - 1 - a) % 5)) (rem5 (by omega)) ?_
  refine x_aald (pc := 14) hc (rfY hb) rfl (vp_in_nI (by omega) (by decide)) (b + (3 + 5 * ((y - 1 - a) % 5))) (by rw [nI_clamp (by omega)]) dX3_endedYear_14 ?_
  exact hret _ _ _ _ dX3_endedYear_15 ⟨rfl, rfl⟩
set_option maxHeartbeats 4000000 in
set_option maxRecDepth 100000 in
theorem m_X3_isTelling {w : WT} (hI : xI w) (l : Launch) (G : GS) (i fe : Nat) (b : Nat) (f : Nat → Int32) (B : Nat) (hb : isB b) (hS : Sim (gv G b) f) (hV : RV f B) (hB : B < 2 ^ 30) (hi : i < cN f) (hfe : f (308 + 4 * i) = nI fe) (hf20 : fe < 20) : Mi w l yX3_isTelling cX3_isTelling 2 (some .boolean) ⟨1, 0, 0, 20⟩ [.ref (w.2.2 b), .ref (w.2.2 (b + (29 + i)))] G (fun v9 G' => v9 = b01 (rTells f i) ∧ G' = G) := by
  refine mk_i (L0 := [(0, .ref (w.2.2 b)), (1, .ref (w.2.2 (b + (29 + i))))]) hI (by decide +kernel) rfl (Nat.le_of_ble_eq_true rfl) (fun v G9 h => by rw [h.1]; exact nz_b01 _) (fun K hc hret => ?_)
  obtain ⟨s1, ⟨t4, t5, t6, t7, t8, t9, t10, t11, t12⟩, s3, s4, ⟨y1, y2, y3, y4⟩, so⟩ := hS
  obtain ⟨⟨d1, d2⟩, ⟨v1, v2, v3⟩, ⟨r1, r2⟩, ho, ⟨c1, c2, c3⟩, hb4⟩ := hV
  have hlb := isB_lt hb
  have ry := cY_r f
  have u5 : G b 5 = nI (yN f) := t5.trans v2
  have u6 : G b 6 = nI (dN f) := t6.trans d2
  have u4 : G b 4 = nI (cN f) := t4.trans c2
  refine x_aload_n (pc := 0) hc dX3_isTelling_0 1 rfl ?_
  refine x_get (pc := 1) hc (cfN (isN_of hb (by omega))) kcX2 0 (by decide) fl_X3_90 rfl dX3_isTelling_1 ?_
  refine x_as (nI fe) ((s3 i hi 0 (by omega)).trans hfe) ?_
  refine x_aload_n (pc := 4) hc dX3_isTelling_4 0 rfl ?_
  refine x_get (pc := 5) hc (cfS hb) kcX3 6 (by decide) fl_X3_65 rfl dX3_isTelling_5 ?_
  refine x_as (nI (dN f)) u6 ?_
  refine x_icmp_ge (pc := 8) hc dX3_isTelling_8 34 (by decide) (fun c8 => ?_) (fun c8 => ?_)
  · have c8 : dN f ≤ fe := (nI_leI (a := dN f) (b := fe) (by omega) (by omega)).mp c8
    refine x_iconst (v := 0) (pc := 34) hc dX3_isTelling_34 (by decide) ?_
    exact hret _ _ _ _ dX3_isTelling_35 ⟨(by
        refine (b01_neg (fun z => ?_)).symm
        have z1 := z.1
        rw [hfe, d2] at z1
        have := (nI_ltI (by omega) (by omega)).mp z1
        omega), rfl⟩
  · have c8 : ¬ dN f ≤ fe := fun h9 => c8 ((nI_leI (a := dN f) (b := fe) (by omega) (by omega)).mpr h9)
    refine x_aload_n (pc := 11) hc dX3_isTelling_11 0 rfl ?_
    refine x_callVr (pc := 12) hc cl_X3_93 (cfS hb) kcX3 [] (m_X3_yearOfNow hI (kl K) G b (yN f) hb (by omega) u5) rfl rfl (by simp [Value.category]) rfl rfl ⟨by decide, by decide⟩ dX3_isTelling_12 (fun r12 Gc12 q12 => ?_)
    obtain ⟨er12, eGc12⟩ := q12
    rw [eGc12]
    subst er12
    refine x_get (pc := 15) hc (cfY (isY_of hb (by omega))) kcX4 2 (by decide) fl_X3_97 rfl dX3_isTelling_15 ?_
    refine x_aload_n (pc := 18) hc dX3_isTelling_18 1 rfl ?_
    refine x_get (pc := 19) hc (cfN (isN_of hb (by omega))) kcX2 0 (by decide) fl_X3_90 rfl dX3_isTelling_19 ?_
    refine x_as (nI fe) ((s3 i hi 0 (by omega)).trans hfe) ?_
    refine x_iald (pc := 22) hc (afY (isY_of hb (by omega)) (i := 3) (by decide) (by decide)) (vp_in_nI (by omega) (by decide)) dX3_isTelling_22 ?_
    refine x_as (G (b + (3 + 5 * (yN f % 5)) + 3) fe) (congrArg _ (nI_clamp (by omega))) ?_
    refine x_as (f (40 + fe)) (y2 fe (by omega)).2 ?_
    refine x_aload_n (pc := 23) hc dX3_isTelling_23 1 rfl ?_
    refine x_get (pc := 24) hc (cfN (isN_of hb (by omega))) kcX2 1 (by decide) fl_X3_100 rfl dX3_isTelling_24 ?_
    refine x_as (f (308 + 4 * i + 1)) (s3 i hi 1 (by omega)) ?_
    refine x_icmp_gt (pc := 27) hc dX3_isTelling_27 34 (by decide) (fun c27 => ?_) (fun c27 => ?_)
    · refine x_iconst (v := 0) (pc := 34) hc dX3_isTelling_34 (by decide) ?_
      exact hret _ _ _ _ dX3_isTelling_35 ⟨(by
          refine (b01_neg (fun z => ?_)).symm
          have z2 := z.2
          rw [rFe_eq hfe (by omega)] at z2
          exact absurd z2 (Int32.not_le.mpr c27)), rfl⟩
    · refine x_iconst (v := 1) (pc := 30) hc dX3_isTelling_30 (by decide) ?_
      refine x_goto (pc := 31) hc dX3_isTelling_31 35 (by decide) ?_
      exact hret _ _ _ _ dX3_isTelling_35 ⟨(by
          refine (b01_pos ⟨?_, ?_⟩).symm
          · rw [hfe, d2]; exact (nI_ltI (by omega) (by omega)).mpr (by omega)
          · rw [rFe_eq hfe (by omega)]; exact Int32.not_lt.mp c27), rfl⟩
set_option maxHeartbeats 4000000 in
set_option maxRecDepth 100000 in
theorem m_X3_foretoldOf {w : WT} (hI : xI w) (l : Launch) (G : GS) (d : Nat) (b : Nat) (f : Nat → Int32) (B : Nat) (hb : isB b) (hS : Sim (gv G b) f) (hV : RV f B) (hB : B < 2 ^ 30) (hd : d < 20) : Mi w l yX3_foretoldOf cX3_foretoldOf 4 (some .int) ⟨2, 0, 0, 50⟩ [.ref (w.2.2 b), .int (nI d)] G (fun v9 G' => v9 = rToldOf f d ∧ G' = G) := by
  refine mk_i (L0 := [(0, .ref (w.2.2 b)), (1, .int (nI d))]) hI (by decide +kernel) rfl (Nat.le_of_ble_eq_true rfl) (fun _ _ _ => rfl) (fun K hc hret => ?_)
  have hS0 := hS
  have hV0 := hV
  obtain ⟨s1, ⟨t4, t5, t6, t7, t8, t9, t10, t11, t12⟩, s3, s4, ⟨y1, y2, y3, y4⟩, so⟩ := hS
  obtain ⟨⟨d1, d2⟩, ⟨v1, v2, v3⟩, ⟨r1, r2⟩, ho, ⟨c1, c2, c3⟩, hb4⟩ := hV
  have hlb := isB_lt hb
  have ry := cY_r f
  have u5 : G b 5 = nI (yN f) := t5.trans v2
  have u6 : G b 6 = nI (dN f) := t6.trans d2
  have u4 : G b 4 = nI (cN f) := t4.trans c2
  refine x_iload_n (pc := 0) hc dX3_foretoldOf_0 1 rfl ?_
  refine x_aload_n (pc := 1) hc dX3_foretoldOf_1 0 rfl ?_
  refine x_get (pc := 2) hc (cfS hb) kcX3 6 (by decide) fl_X3_65 rfl dX3_foretoldOf_2 ?_
  refine x_as (nI (dN f)) u6 ?_
  refine x_icmp_ge (pc := 5) hc dX3_foretoldOf_5 18 (by decide) (fun c5 => ?_) (fun c5 => ?_)
  · have c5 : dN f ≤ d := (nI_leI (a := dN f) (b := d) (by omega) (by omega)).mp c5
    refine x_aload_n (pc := 18) hc dX3_foretoldOf_18 0 rfl ?_
    refine x_callVr (pc := 19) hc cl_X3_93 (cfS hb) kcX3 [] (m_X3_yearOfNow hI (kl K) G b (yN f) hb (by omega) u5) rfl rfl (by simp [Value.category]) rfl rfl ⟨by decide, by decide⟩ dX3_foretoldOf_19 (fun r19 Gc19 q19 => ?_)
    obtain ⟨er19, eGc19⟩ := q19
    rw [eGc19]
    subst er19
    refine x_get (pc := 22) hc (cfY (isY_of hb (by omega))) kcX4 0 (by decide) fl_X3_106 rfl dX3_foretoldOf_22 ?_
    refine x_iload_n (pc := 25) hc dX3_foretoldOf_25 1 rfl ?_
    refine x_iald (pc := 26) hc (afY (isY_of hb (by omega)) (i := 1) (by decide) (by decide)) (vp_in_nI (by omega) (by decide)) dX3_foretoldOf_26 ?_
    refine x_as (G (b + (3 + 5 * (yN f % 5)) + 1) d) (congrArg _ (nI_clamp (by omega))) ?_
    refine x_as (f d) (y1 d (by omega)) ?_
    refine x_nm (fun x27 ex27 => ?_)
    refine x_istore_n (pc := 27) (L' := [(2, .int x27), (0, .ref (w.2.2 b)), (1, .int (nI d))]) hc dX3_foretoldOf_27 (by decide) rfl ?_
    refine x_iconst (v := 0) (pc := 28) hc dX3_foretoldOf_28 (by decide) ?_
    refine x_istore_n (pc := 29) (L' := [(3, .int 0), (2, .int x27), (0, .ref (w.2.2 b)), (1, .int (nI d))]) hc dX3_foretoldOf_29 (by decide) rfl ?_
    have loop30 : ∀ (n1 : Nat) (i : Nat), i ≤ cN f → cN f < i + n1 → XX w K 4 G 30 [(3, .int (nI i)), (2, .int (rSum f d i)), (0, .ref (w.2.2 b)), (1, .int (nI d))] [] := by
      intro n1
      induction n1 with
      | zero => intro i hi hf; omega
      | succ n1 ih =>
        intro i hi hf
        refine x_iload_n (pc := 30) hc dX3_foretoldOf_30 0 rfl ?_
        refine x_aload_n (pc := 31) hc dX3_foretoldOf_31 2 rfl ?_
        refine x_get (pc := 32) hc (cfS hb) kcX3 4 (by decide) fl_X3_59 rfl dX3_foretoldOf_32 ?_
        refine x_as (nI (cN f)) u4 ?_
        refine x_icmp_ge (pc := 35) hc dX3_foretoldOf_35 82 (by decide) (fun c35 => ?_) (fun c35 => ?_)
        · have c35 : cN f ≤ i := (nI_leI (a := cN f) (b := i) (by omega) (by omega)).mp c35
          refine x_iload_n (pc := 82) hc dX3_foretoldOf_82 1 rfl ?_
          refine x_callNi (pc := 83) hc cl_X3_120 hc.2.2.2.2.2.2.2.1.1 [.int (rSum f d i)] (m_X5_clampWarmth hI (kl K) G (rSum f d i)) rfl rfl (by simp [Value.category]) rfl rfl ⟨by decide, by decide⟩ dX3_foretoldOf_83 (fun r83 Gc83 q83 => ?_)
          obtain ⟨er83, eGc83⟩ := q83
          rw [eGc83]
          subst er83
          exact hret _ _ _ _ dX3_foretoldOf_86 ⟨(by unfold rToldOf; rw [d2, if_neg (fun z => by have := (nI_ltI (by omega) (by omega)).mp z; omega)]; unfold rTold; rw [c2, nI_clamp (by omega), show cN f = i by omega]), rfl⟩
        · have c35 : ¬ cN f ≤ i := fun h9 => c35 ((nI_leI (a := cN f) (b := i) (by omega) (by omega)).mpr h9)
          obtain ⟨e9, hl9, he9⟩ := c3 i (by omega)
          refine x_aload_n (pc := 38) hc dX3_foretoldOf_38 2 rfl ?_
          refine x_get (pc := 39) hc (cfS hb) kcX3 2 (by decide) fl_X3_33 rfl dX3_foretoldOf_39 ?_
          refine x_iload_n (pc := 42) hc dX3_foretoldOf_42 0 rfl ?_
          refine x_aald (pc := 43) hc (rfS hb) rfl (vp_in_nI (by omega) (by decide)) (b + (29 + i)) (by rw [nI_clamp (by omega)]) dX3_foretoldOf_43 ?_
          refine x_iload_n (pc := 44) hc dX3_foretoldOf_44 3 rfl ?_
          refine x_callVi (pc := 45) hc cl_X3_109 (cfN (isN_of hb (by omega))) kcX2 [.int (nI d)] (m_X2_reaches hI (kl K) G (b + (29 + i)) (nI d) (isN_of hb (by omega))) rfl rfl (by simp [Value.category]) rfl rfl ⟨by decide, by decide⟩ dX3_foretoldOf_45 (fun r45 Gc45 q45 => ?_)
          obtain ⟨er45, eGc45⟩ := q45
          rw [eGc45]
          subst er45
          refine x_as (b01 (rReach f d i)) (by
            have q0 : G (b + (29 + i)) 0 = f (308 + 4 * i) := s3 i (by omega) 0 (by omega)
            have q3 : G (b + (29 + i)) 3 = f (308 + 4 * i + 3) := s3 i (by omega) 3 (by omega)
            rw [q0, q3]) ?_
          refine x_if_eq (pc := 48) hc dX3_foretoldOf_48 76 (by decide) (fun c48 => ?_) (fun c48 => ?_)
          · refine x_iinc (pc := 76) (L' := [(3, .int (nI (i + 1))), (2, .int (rSum f d i)), (0, .ref (w.2.2 b)), (1, .int (nI d))]) hc dX3_foretoldOf_76 0 rfl (nI (i + 1)) (nI_1 _) (by decide) rfl ?_
            refine x_goto (pc := 79) hc dX3_foretoldOf_79 30 (by decide) ?_
            refine x_loc [0, 1, 2, 3] rfl ?_
            have e3 : rSum f d (i + 1) = rSum f d i := by
              show rSum f d i + rAdd f d i = _
              unfold rAdd
              rw [if_neg (fun z => b01_t c48 z.2), Int32.add_zero]
            have z8 := ih (i + 1) (by omega) (by omega)
            rw [e3] at z8
            exact z8
          · refine x_aload_n (pc := 51) hc dX3_foretoldOf_51 2 rfl ?_
            refine x_aload_n (pc := 52) hc dX3_foretoldOf_52 2 rfl ?_
            refine x_get (pc := 53) hc (cfS hb) kcX3 2 (by decide) fl_X3_33 rfl dX3_foretoldOf_53 ?_
            refine x_iload_n (pc := 56) hc dX3_foretoldOf_56 0 rfl ?_
            refine x_aald (pc := 57) hc (rfS hb) rfl (vp_in_nI (by omega) (by decide)) (b + (29 + i)) (by rw [nI_clamp (by omega)]) dX3_foretoldOf_57 ?_
            refine x_callVi (pc := 58) hc cl_X3_113 (cfS hb) kcX3 [.ref (w.2.2 (b + (29 + i)))] (m_X3_isTelling hI (kl K) G i e9 b f B hb hS0 hV0 hB (by omega) he9 hl9) rfl rfl (by simp [Value.category]) rfl rfl ⟨by decide, by decide⟩ dX3_foretoldOf_58 (fun r58 Gc58 q58 => ?_)
            obtain ⟨er58, eGc58⟩ := q58
            rw [eGc58]
            subst er58
            refine x_if_eq (pc := 61) hc dX3_foretoldOf_61 76 (by decide) (fun c61 => ?_) (fun c61 => ?_)
            · refine x_iinc (pc := 76) (L' := [(3, .int (nI (i + 1))), (2, .int (rSum f d i)), (0, .ref (w.2.2 b)), (1, .int (nI d))]) hc dX3_foretoldOf_76 0 rfl (nI (i + 1)) (nI_1 _) (by decide) rfl ?_
              refine x_goto (pc := 79) hc dX3_foretoldOf_79 30 (by decide) ?_
              refine x_loc [0, 1, 2, 3] rfl ?_
              have e3 : rSum f d (i + 1) = rSum f d i := by
                show rSum f d i + rAdd f d i = _
                unfold rAdd
                rw [if_neg (fun z => b01_t c61 z.1), Int32.add_zero]
              have z8 := ih (i + 1) (by omega) (by omega)
              rw [e3] at z8
              exact z8
            · refine x_iload_n (pc := 64) hc dX3_foretoldOf_64 1 rfl ?_
              refine x_aload_n (pc := 65) hc dX3_foretoldOf_65 2 rfl ?_
              refine x_get (pc := 66) hc (cfS hb) kcX3 2 (by decide) fl_X3_33 rfl dX3_foretoldOf_66 ?_
              refine x_iload_n (pc := 69) hc dX3_foretoldOf_69 0 rfl ?_
              refine x_aald (pc := 70) hc (rfS hb) rfl (vp_in_nI (by omega) (by decide)) (b + (29 + i)) (by rw [nI_clamp (by omega)]) dX3_foretoldOf_70 ?_
              refine x_get (pc := 71) hc (cfN (isN_of hb (by omega))) kcX2 2 (by decide) fl_X3_117 rfl dX3_foretoldOf_71 ?_
              refine x_iadd (pc := 74) hc dX3_foretoldOf_74 ?_
              refine x_nm (fun x75 ex75 => ?_)
              refine x_istore_n (pc := 75) (L' := [(2, .int x75), (3, .int (nI i)), (0, .ref (w.2.2 b)), (1, .int (nI d))]) hc dX3_foretoldOf_75 (by decide) rfl ?_
              refine x_iinc (pc := 76) (L' := [(3, .int (nI (i + 1))), (2, .int x75), (0, .ref (w.2.2 b)), (1, .int (nI d))]) hc dX3_foretoldOf_76 1 rfl (nI (i + 1)) (nI_1 _) (by decide) rfl ?_
              refine x_goto (pc := 79) hc dX3_foretoldOf_79 30 (by decide) ?_
              refine x_loc [0, 1, 2, 3] rfl ?_
              have e3 : rSum f d (i + 1) = x75 := by
                rw [ex75]
                show rSum f d i + rAdd f d i = _
                unfold rAdd
                rw [if_pos ⟨b01_f c61, b01_f c48⟩]
                exact congrArg (fun z => rSum f d i + z) (s3 i (by omega) 2 (by omega)).symm
              have z8 := ih (i + 1) (by omega) (by omega)
              rw [e3] at z8
              exact z8
    refine x_loc [0, 1, 2, 3] rfl ?_
    rw [ex27]
    exact loop30 6 0 (by omega) (by omega)
  · have c5 : ¬ dN f ≤ d := fun h9 => c5 ((nI_leI (a := dN f) (b := d) (by omega) (by omega)).mpr h9)
    refine x_aload_n (pc := 8) hc dX3_foretoldOf_8 0 rfl ?_
    refine x_callVr (pc := 9) hc cl_X3_93 (cfS hb) kcX3 [] (m_X3_yearOfNow hI (kl K) G b (yN f) hb (by omega) u5) rfl rfl (by simp [Value.category]) rfl rfl ⟨by decide, by decide⟩ dX3_foretoldOf_9 (fun r9 Gc9 q9 => ?_)
    obtain ⟨er9, eGc9⟩ := q9
    rw [eGc9]
    subst er9
    refine x_get (pc := 12) hc (cfY (isY_of hb (by omega))) kcX4 1 (by decide) fl_X3_103 rfl dX3_foretoldOf_12 ?_
    refine x_iload_n (pc := 15) hc dX3_foretoldOf_15 1 rfl ?_
    refine x_iald (pc := 16) hc (afY (isY_of hb (by omega)) (i := 2) (by decide) (by decide)) (vp_in_nI (by omega) (by decide)) dX3_foretoldOf_16 ?_
    refine x_as (G (b + (3 + 5 * (yN f % 5)) + 2) d) (congrArg _ (nI_clamp (by omega))) ?_
    refine x_as (f (20 + d)) (y2 d (by omega)).1 ?_
    exact hret _ _ _ _ dX3_foretoldOf_17 ⟨(by unfold rToldOf; rw [d2, if_pos ((nI_ltI (by omega) (by omega)).mpr (by omega))]), rfl⟩
