theorem wiN_0 (z0 z t o : Int32) : wiN 0 z0 z t o = 0 := by
  unfold wiN
  split
  · split
    · rfl
    · exact Int32.zero_mul
  · rfl
theorem rSet_0 {f : Nat → Int32} {k x : Nat} {t z : Int32} (hx : x ≤ 1000) (h1 : f (328 + 5 * k + 1) = nI x) (h2 : f (328 + 5 * k + 2) = 0 ∨ f (328 + 5 * k + 2) = 1) : rSet f k t z (328 + 5 * k + 0) = f (328 + 5 * k + 0) + f (328 + 5 * k + 1) + wiN (f (328 + 5 * k + 1)) (f (328 + 5 * k + 2)) z t (f 306) := by
  have hon : b01 (f (328 + 5 * k + 2) = 1) = f (328 + 5 * k + 2) := by
    rcases h2 with h | h
    · rw [h]; exact b01_neg (by decide)
    · rw [h]; exact b01_pos rfl
  have hE : ∀ g : Nat → Int32, rSetE g k (328 + 5 * k + 0) = g (328 + 5 * k + 0) := fun g => by
    unfold rSetE
    rw [upd_n _ _ (by omega), upd_n _ _ (by omega)]
  unfold rSet
  rcases Nat.eq_zero_or_pos x with hx0 | hx0
  · rw [if_neg (by rw [h1, hx0]; decide), hE, h1, hx0, show nI 0 = 0 from rfl, wiN_0, Int32.add_zero, Int32.add_zero]
  · rw [if_pos (by rw [h1]; exact (nI_ltI (a := 0) (by omega) (by omega)).mpr hx0), hon]
    by_cases hz : f (328 + 5 * k + 2) = z
    · rw [if_pos hz, hE]
      unfold rSetA
      rw [upd_n _ _ (by omega), upd_n _ _ (by omega), upd_s, Int32.add_assoc]
      refine congrArg (fun q => f (328 + 5 * k + 0) + (f (328 + 5 * k + 1) + q)) ?_
      unfold rWin wiN
      rw [hon, if_pos hz.symm]
      by_cases ht : t = f (328 + 5 * k + 2)
      · rw [if_pos ht, if_pos ht, Int32.mul_one]
      · rw [if_neg ht, if_neg ht]
    · rw [if_neg hz, hE]
      unfold rSetB
      rw [upd_n _ _ (by omega), upd_n _ _ (by omega)]
      unfold wiN
      rw [if_neg (fun q => hz q.symm), Int32.add_assoc, Int32.add_right_neg, Int32.add_zero]
theorem rSets_k {f : Nat → Int32} {t z : Int32} {k : Nat} (hk : k < 4) : ∀ n, k < n → n ≤ 4 → rSets f t z n (328 + 5 * k + 0) = rSet (rSets f t z k) k t z (328 + 5 * k + 0)
  | 0 => fun h _ => absurd h (by omega)
  | n + 1 => fun h hn => by
    by_cases e : k = n
    · subst e; rfl
    · show rSet (rSets f t z n) n t z _ = _
      rw [rSet_n _ _ _ _ _ (by omega) (by omega), rSets_k hk n (by omega) (by omega)]
theorem rMeas_0 {f : Nat → Int32} {B k : Nat} {v : Int32} (hV : RV f B) (hk : k < 4) : rMeas f v (dN f) (rN f) (328 + 5 * k + 0) = f (328 + 5 * k + 0) + f (328 + 5 * k + 1) + wiN (f (328 + 5 * k + 1)) (f (328 + 5 * k + 2)) (b01 (v ≤ 0)) (rT f (dN f)) (f 306) := by
  have hd := hV.1.1
  obtain ⟨x, hx, h1, h2⟩ := hV.2.2.2.2.2 k hk
  have hp : ∀ i, 60 ≤ i → i < 348 → rPre f v (rTold f (dN f)) (dN f) (rT f (dN f)) (b01 (v ≤ 0)) i = f i := fun i u w => rPre_n _ _ _ _ _ _ _ hd (by omega) (by omega)
  have hq : ∀ i, i < 328 ∨ 328 + 5 * k ≤ i → 60 ≤ i → i < 348 → rSets (rPre f v (rTold f (dN f)) (dN f) (rT f (dN f)) (b01 (v ≤ 0))) (rT f (dN f)) (b01 (v ≤ 0)) k i = f i := fun i u u2 u3 => by
    rcases u with u | u
    · rw [rSets_n _ _ _ _ u k (by omega), hp i u2 u3]
    · rw [rSets_n2 _ _ _ _ k (by omega) (by omega) (by omega), hp i u2 u3]
  have h : rGo f v (dN f) (328 + 5 * k + 0) = f (328 + 5 * k + 0) + f (328 + 5 * k + 1) + wiN (f (328 + 5 * k + 1)) (f (328 + 5 * k + 2)) (b01 (v ≤ 0)) (rT f (dN f)) (f 306) := by
    rw [rGo_hi f v (by omega) (by omega)]
    unfold rSettled
    rw [rSets_k hk 4 hk (by omega), rSet_0 hx (by rw [hq _ (by omega) (by omega) (by omega)]; exact h1) (by rw [hq _ (by omega) (by omega) (by omega)]; exact h2), hq _ (by omega) (by omega) (by omega), hq _ (by omega) (by omega) (by omega), hq _ (by omega) (by omega) (by omega), hq 306 (by omega) (by omega) (by omega)]
  unfold rMeas
  split
  · rw [rEnds_n _ _ _ (by omega), h]
  · exact h
theorem qIf_eq {f : Nat → Int32} {B k : Nat} {v : Int32} (hB : B < 2 ^ 31) (hV : RV f B) (hk : k < 4) : rMeas (cpf f) v (dN f) (rN f) (328 + 5 * k + 0) = f (328 + 5 * k + 0) + f (328 + 5 * k + 1) + wiN (f (328 + 5 * k + 1)) (f (328 + 5 * k + 2)) (b01 (v ≤ 0)) (rT f (dN f)) (f 306) := by
  have hc : ∀ i, i < 354 → cpf f i = f i := fun i hi => cpf_in f hi
  have hV' : RV (cpf f) B := RV_congr hB hc hV
  have hd := hV.1.1
  have ed : dN (cpf f) = dN f := by unfold dN; rw [hc 300 (by omega)]
  have er : rN (cpf f) = rN f := by unfold rN; rw [hc 303 (by omega)]
  have h := rMeas_0 (v := v) hV' hk
  rw [ed, er] at h
  have hcN : (cpf f 307).toNatClampNeg ≤ 5 := hV'.2.2.2.2.1.1
  have hs : ∀ n, n ≤ 5 → n ≤ cN f → rSum (cpf f) (dN f) n = rSum f (dN f) n := by
    intro n
    induction n with
    | zero => intro _ _; exact hc _ (by omega)
    | succ n ih =>
      intro hn hn2
      show rSum (cpf f) (dN f) n + rAdd (cpf f) (dN f) n = rSum f (dN f) n + rAdd f (dN f) n
      rw [ih (by omega) (by omega)]
      obtain ⟨e, he, ee⟩ := hV.2.2.2.2.1.2.2 n (by omega)
      have e1 : rFe f n = e := rFe_eq ee (by omega)
      have e2 : rFe (cpf f) n = e := rFe_eq (by rw [hc _ (by omega)]; exact ee) (by omega)
      have ea : rAdd (cpf f) (dN f) n = rAdd f (dN f) n := by
        unfold rAdd rTells rReach
        rw [e1, e2, hc (308 + 4 * n) (by omega), hc 300 (by omega), hc (40 + e) (by omega), hc (308 + 4 * n + 1) (by omega), hc (308 + 4 * n + 2) (by omega), hc (308 + 4 * n + 3) (by omega)]
      rw [ea]
  have et : rTold (cpf f) (dN f) = rTold f (dN f) := by
    unfold rTold
    rw [hc 307 (by omega)]
    exact congrArg bnd (hs _ hV.2.2.2.2.1.1 (Nat.le_refl _))
  have eT : rT (cpf f) (dN f) = rT f (dN f) := by
    unfold rT
    rw [et, hc (303 + 2) (by omega)]
  rw [h, eT, hc _ (by omega), hc _ (by omega), hc _ (by omega), hc 306 (by omega)]
set_option maxHeartbeats 4000000 in
set_option maxRecDepth 100000 in
theorem C_saintOf {w : WT} (hI : xI w) (l : Launch) (G : GS) (x y : Int32) (A : AT) (B : Nat) (hR : RC G A) (hV : AV A B) (hZ : AZ A) (hB : B + 1 < 2 ^ 30) : Mi w l yX5_saintOf cX5_saintOf 4 (some .int) ⟨2, 0, 0, 41⟩ [.ref (w.2.2 0), .int x, .int y] G (fun v9 G' => v9 = qSaintOf A x y ∧ PCq G G' A) := by
  refine mk_i (L0 := [(0, .ref (w.2.2 0)), (1, .int x), (2, .int y)]) hI (by decide +kernel) rfl (Nat.le_of_ble_eq_true rfl) (fun _ _ _ => rfl) (fun K hc hret => ?_)
  obtain ⟨b, eb⟩ : ∃ b, b = stb (G 0 4) := ⟨_, rfl⟩
  obtain ⟨h1, h2, h3, h4, h5, h6, h7, h8⟩ := id hR
  rw [← eb] at h2
  have hb : isB b := by rw [eb]; exact h1.1.2.2.2.2
  have hlb := isB_lt hb
  have hS0 := h2
  obtain ⟨s1, ⟨t4, t5, t6, t7, t8, t9, t10, t11, t12⟩, s3, s4, ⟨y1, y2, y3, y4⟩, so⟩ := h2
  have hRV := hV.2.1
  obtain ⟨⟨d1, d2⟩, ⟨v1, v2, v3⟩, ⟨r1, r2⟩, ho, ⟨c1, c2, c3⟩, hb4⟩ := id hRV
  have hd20 := Nat.le_of_lt d1
  have hn4 := hV.1
  have u4 : G b 4 = nI (cN (aF A)) := t4.trans c2
  have u5 : G b 5 = nI (yN (aF A)) := t5.trans v2
  have u6 : G b 6 = nI (dN (aF A)) := t6.trans d2
  refine x_iload_n (pc := 0) hc dX5_saintOf_0 1 rfl ?_
  refine x_aload_n (pc := 1) hc dX5_saintOf_1 0 rfl ?_
  refine x_get (pc := 2) hc cfM kcX5 4 (by decide) fl_X5_31 rfl dX5_saintOf_2 ?_
  refine x_ar b eb.symm ?_
  refine x_get (pc := 5) hc (cfS hb) kcX3 4 (by decide) fl_X5_91 rfl dX5_saintOf_5 ?_
  refine x_as (nI (cN (aF A))) u4 ?_
  refine x_callSi (pc := 8) hc cl_X5_76 [.int x, .int (nI (cN (aF A)))] (m_X5_isIndex hI (kl K) G x (nI (cN (aF A)))) rfl rfl (by simp [Value.category]) rfl rfl ⟨by decide, by decide⟩ dX5_saintOf_8 (fun r8 Gc8 q8 => ?_)
  obtain ⟨er8, eGc8⟩ := q8
  rw [eGc8]
  subst er8
  refine x_as (sB x (cN (aF A))) (ix_c _ (by omega)) ?_
  refine x_if_ne (pc := 11) hc dX5_saintOf_11 16 (by decide) (fun c11 => ?_) (fun c11 => ?_)
  · obtain ⟨i, hi, rfl⟩ := sB_f c1 c11
    have zi : (nI i).toNatClampNeg = i := nI_clamp (by omega)
    obtain ⟨fe9, hf9, hfe9⟩ := c3 i hi
    refine x_aload_n (pc := 16) hc dX5_saintOf_16 0 rfl ?_
    refine x_get (pc := 17) hc cfM kcX5 4 (by decide) fl_X5_31 rfl dX5_saintOf_17 ?_
    refine x_ar b eb.symm ?_
    refine x_get (pc := 20) hc (cfS hb) kcX3 2 (by decide) fl_X5_94 rfl dX5_saintOf_20 ?_
    refine x_iload_n (pc := 23) hc dX5_saintOf_23 1 rfl ?_
    refine x_aald (pc := 24) hc (rfS hb) rfl (vp_in_nI (by omega) (by decide)) (b + (29 + i)) (by rw [nI_clamp (by omega)]) dX5_saintOf_24 ?_
    refine x_astore_n (pc := 25) (L' := [(3, .ref (w.2.2 (b + (29 + i)))), (0, .ref (w.2.2 0)), (1, .int (nI i)), (2, .int y)]) hc dX5_saintOf_25 (by decide) rfl ?_
    refine x_iload_n (pc := 26) hc dX5_saintOf_26 3 rfl ?_
    by_cases s27_0 : y = 0
    · subst s27_0
      refine x_tableIn (pc := 27) hc dX5_saintOf_27 (by decide) (by decide) rfl 60 (by decide) ?_
      refine x_aload_n (pc := 60) hc dX5_saintOf_60 0 rfl ?_
      refine x_get (pc := 61) hc (cfN (isN_of hb (by omega))) kcX2 0 (by decide) fl_X5_98 rfl dX5_saintOf_61 ?_
      refine x_as (aF A (308 + 4 * i + 0)) (s3 i hi 0 (by omega)) ?_
      exact hret _ _ _ _ dX5_saintOf_64 ⟨(by unfold qSaintOf; rw [if_neg c11, if_pos rfl, zi]), PC_same hR⟩
    by_cases s27_1 : y = 1
    · subst s27_1
      refine x_tableIn (pc := 27) hc dX5_saintOf_27 (by decide) (by decide) rfl 65 (by decide) ?_
      refine x_aload_n (pc := 65) hc dX5_saintOf_65 0 rfl ?_
      refine x_get (pc := 66) hc (cfN (isN_of hb (by omega))) kcX2 1 (by decide) fl_X5_103 rfl dX5_saintOf_66 ?_
      refine x_as (aF A (308 + 4 * i + 1)) (s3 i hi 1 (by omega)) ?_
      refine x_sipush (v := 1000) (pc := 69) hc dX5_saintOf_69 (by decide) ?_
      refine x_iadd (pc := 72) hc dX5_saintOf_72 ?_
      exact hret _ _ _ _ dX5_saintOf_73 ⟨(by unfold qSaintOf; rw [if_neg c11, if_neg (by decide), if_pos rfl, zi]), PC_same hR⟩
    by_cases s27_2 : y = 2
    · subst s27_2
      refine x_tableIn (pc := 27) hc dX5_saintOf_27 (by decide) (by decide) rfl 74 (by decide) ?_
      refine x_aload_n (pc := 74) hc dX5_saintOf_74 0 rfl ?_
      refine x_get (pc := 75) hc (cfN (isN_of hb (by omega))) kcX2 2 (by decide) fl_X5_106 rfl dX5_saintOf_75 ?_
      refine x_as (aF A (308 + 4 * i + 2)) (s3 i hi 2 (by omega)) ?_
      refine x_sipush (v := 1000) (pc := 78) hc dX5_saintOf_78 (by decide) ?_
      refine x_iadd (pc := 81) hc dX5_saintOf_81 ?_
      exact hret _ _ _ _ dX5_saintOf_82 ⟨(by unfold qSaintOf; rw [if_neg c11, if_neg (by decide), if_neg (by decide), if_pos rfl, zi]), PC_same hR⟩
    by_cases s27_3 : y = 3
    · subst s27_3
      refine x_tableIn (pc := 27) hc dX5_saintOf_27 (by decide) (by decide) rfl 83 (by decide) ?_
      refine x_aload_n (pc := 83) hc dX5_saintOf_83 0 rfl ?_
      refine x_get (pc := 84) hc (cfN (isN_of hb (by omega))) kcX2 3 (by decide) fl_X5_109 rfl dX5_saintOf_84 ?_
      refine x_as (aF A (308 + 4 * i + 3)) (s3 i hi 3 (by omega)) ?_
      exact hret _ _ _ _ dX5_saintOf_87 ⟨(by unfold qSaintOf; rw [if_neg c11, if_neg (by decide), if_neg (by decide), if_neg (by decide), if_pos rfl, zi]), PC_same hR⟩
    by_cases s27_4 : y = 4
    · subst s27_4
      refine x_tableIn (pc := 27) hc dX5_saintOf_27 (by decide) (by decide) rfl 88 (by decide) ?_
      refine x_aload_n (pc := 88) hc dX5_saintOf_88 1 rfl ?_
      refine x_get (pc := 89) hc cfM kcX5 4 (by decide) fl_X5_31 rfl dX5_saintOf_89 ?_
      refine x_ar b eb.symm ?_
      refine x_aload_n (pc := 92) hc dX5_saintOf_92 0 rfl ?_
      refine x_callVi (pc := 93) hc cl_X5_183 (cfS hb) kcX3 [.ref (w.2.2 (b + (29 + i)))] (m_X3_isTelling hI (kl K) G i fe9 b (aF A) B hb hS0 hRV (by omega) hi hfe9 hf9) rfl rfl (by simp [Value.category]) rfl rfl ⟨by decide, by decide⟩ dX5_saintOf_93 (fun r93 Gc93 q93 => ?_)
      obtain ⟨er93, eGc93⟩ := q93
      rw [eGc93]
      subst er93
      refine x_callSi (pc := 96) hc cl_X5_165 [.int (b01 (rTells (aF A) i))] (m_X5_oneIf hI (kl K) G (b01 (rTells (aF A) i)) (b01_le _)) rfl rfl (by simp [Value.category]) rfl rfl ⟨by decide, by decide⟩ dX5_saintOf_96 (fun r96 Gc96 q96 => ?_)
      obtain ⟨er96, eGc96⟩ := q96
      rw [eGc96]
      subst er96
      exact hret _ _ _ _ dX5_saintOf_99 ⟨(by unfold qSaintOf; rw [if_neg c11, if_neg (by decide), if_neg (by decide), if_neg (by decide), if_neg (by decide), if_pos rfl, zi]), PC_same hR⟩
    have t27_0 : y.toInt ≠ 0 := fun z => s27_0 (Int32.toInt_inj.mp z)
    have t27_1 : y.toInt ≠ 1 := fun z => s27_1 (Int32.toInt_inj.mp z)
    have t27_2 : y.toInt ≠ 2 := fun z => s27_2 (Int32.toInt_inj.mp z)
    have t27_3 : y.toInt ≠ 3 := fun z => s27_3 (Int32.toInt_inj.mp z)
    have t27_4 : y.toInt ≠ 4 := fun z => s27_4 (Int32.toInt_inj.mp z)
    refine x_tableOut (pc := 27) hc dX5_saintOf_27 (by omega) 100 (by decide) ?_
    refine x_bipush (v := (-2)) (pc := 100) hc dX5_saintOf_100 (by decide) ?_
    exact hret _ _ _ _ dX5_saintOf_102 ⟨(by unfold qSaintOf; rw [if_neg c11, if_neg s27_0, if_neg s27_1, if_neg s27_2, if_neg s27_3, if_neg s27_4]), PC_same hR⟩
  · refine x_iconst (v := (-1)) (pc := 14) hc dX5_saintOf_14 (by decide) ?_
    exact hret _ _ _ _ dX5_saintOf_15 ⟨(by unfold qSaintOf; rw [if_pos c11]), PC_same hR⟩
set_option maxHeartbeats 4000000 in
set_option maxRecDepth 100000 in
theorem C_count {w : WT} (hI : xI w) (l : Launch) (G : GS) (y : Int32) (A : AT) (B : Nat) (hR : RC G A) (hV : AV A B) (hZ : AZ A) (hB : B + 1 < 2 ^ 30) : Mi w l yX5_count cX5_count 2 (some .int) ⟨2, 0, 0, 50⟩ [.ref (w.2.2 0), .int y] G (fun v9 G' => v9 = qCount A y ∧ PCq G G' A) := by
  refine mk_i (L0 := [(0, .ref (w.2.2 0)), (1, .int y)]) hI (by decide +kernel) rfl (Nat.le_of_ble_eq_true rfl) (fun _ _ _ => rfl) (fun K hc hret => ?_)
  obtain ⟨b, eb⟩ : ∃ b, b = stb (G 0 4) := ⟨_, rfl⟩
  obtain ⟨h1, h2, h3, h4, h5, h6, h7, h8⟩ := id hR
  rw [← eb] at h2
  have hb : isB b := by rw [eb]; exact h1.1.2.2.2.2
  have hlb := isB_lt hb
  have hS0 := h2
  obtain ⟨s1, ⟨t4, t5, t6, t7, t8, t9, t10, t11, t12⟩, s3, s4, ⟨y1, y2, y3, y4⟩, so⟩ := h2
  have hRV := hV.2.1
  obtain ⟨⟨d1, d2⟩, ⟨v1, v2, v3⟩, ⟨r1, r2⟩, ho, ⟨c1, c2, c3⟩, hb4⟩ := id hRV
  have hd20 := Nat.le_of_lt d1
  have hn4 := hV.1
  have u4 : G b 4 = nI (cN (aF A)) := t4.trans c2
  have u5 : G b 5 = nI (yN (aF A)) := t5.trans v2
  have u6 : G b 6 = nI (dN (aF A)) := t6.trans d2
  have hkN : kN (aF A) ≤ 4 := by unfold kN; omega
  have hkY : kN (aF A) ≤ yN (aF A) := by unfold kN; omega
  refine x_iload_n (pc := 0) hc dX5_count_0 1 rfl ?_
  by_cases s1_0 : y = 0
  · subst s1_0
    refine x_tableIn (pc := 1) hc dX5_count_1 (by decide) (by decide) rfl 80 (by decide) ?_
    refine x_aload_n (pc := 80) hc dX5_count_80 0 rfl ?_
    refine x_get (pc := 81) hc cfM kcX5 4 (by decide) fl_X5_31 rfl dX5_count_81 ?_
    refine x_ar b eb.symm ?_
    refine x_get (pc := 84) hc (cfS hb) kcX3 5 (by decide) fl_X5_193 rfl dX5_count_84 ?_
    refine x_as (aF A 301) t5 ?_
    exact hret _ _ _ _ dX5_count_87 ⟨(by unfold qCount; rw [if_pos rfl]; all_goals rfl), PC_same hR⟩
  by_cases s1_1 : y = 1
  · subst s1_1
    refine x_tableIn (pc := 1) hc dX5_count_1 (by decide) (by decide) rfl 88 (by decide) ?_
    refine x_aload_n (pc := 88) hc dX5_count_88 0 rfl ?_
    refine x_get (pc := 89) hc cfM kcX5 4 (by decide) fl_X5_31 rfl dX5_count_89 ?_
    refine x_ar b eb.symm ?_
    refine x_get (pc := 92) hc (cfS hb) kcX3 6 (by decide) fl_X5_79 rfl dX5_count_92 ?_
    refine x_as (aF A 300) t6 ?_
    exact hret _ _ _ _ dX5_count_95 ⟨(by unfold qCount; rw [if_neg (by decide), if_pos rfl]; all_goals rfl), PC_same hR⟩
  by_cases s1_2 : y = 2
  · subst s1_2
    refine x_tableIn (pc := 1) hc dX5_count_1 (by decide) (by decide) rfl 96 (by decide) ?_
    refine x_aload_n (pc := 96) hc dX5_count_96 0 rfl ?_
    refine x_get (pc := 97) hc cfM kcX5 4 (by decide) fl_X5_31 rfl dX5_count_97 ?_
    refine x_ar b eb.symm ?_
    refine x_callVi (pc := 100) hc cl_X5_169 (cfS hb) kcX3 [] (m_X3_knownYears hI (kl K) G b (yN (aF A)) hb (by omega) u5) rfl rfl (by simp [Value.category]) rfl rfl ⟨by decide, by decide⟩ dX5_count_100 (fun r100 Gc100 q100 => ?_)
    obtain ⟨er100, eGc100⟩ := q100
    rw [eGc100]
    subst er100
    refine x_as (nI (kN (aF A))) rfl ?_
    exact hret _ _ _ _ dX5_count_103 ⟨(by unfold qCount; rw [if_neg (by decide), if_neg (by decide), if_pos rfl, v3]; rfl), PC_same hR⟩
  by_cases s1_3 : y = 3
  · subst s1_3
    refine x_tableIn (pc := 1) hc dX5_count_1 (by decide) (by decide) rfl 104 (by decide) ?_
    refine x_aload_n (pc := 104) hc dX5_count_104 0 rfl ?_
    refine x_get (pc := 105) hc cfM kcX5 4 (by decide) fl_X5_31 rfl dX5_count_105 ?_
    refine x_ar b eb.symm ?_
    refine x_get (pc := 108) hc (cfS hb) kcX3 4 (by decide) fl_X5_91 rfl dX5_count_108 ?_
    refine x_as (aF A 307) t4 ?_
    exact hret _ _ _ _ dX5_count_111 ⟨(by unfold qCount; rw [if_neg (by decide), if_neg (by decide), if_neg (by decide), if_pos rfl]; all_goals rfl), PC_same hR⟩
  by_cases s1_4 : y = 4
  · subst s1_4
    refine x_tableIn (pc := 1) hc dX5_count_1 (by decide) (by decide) rfl 112 (by decide) ?_
    refine x_aload_n (pc := 112) hc dX5_count_112 0 rfl ?_
    refine x_get (pc := 113) hc cfM kcX5 4 (by decide) fl_X5_31 rfl dX5_count_113 ?_
    refine x_ar b eb.symm ?_
    refine x_get (pc := 116) hc (cfS hb) kcX3 9 (by decide) fl_X5_196 rfl dX5_count_116 ?_
    refine x_as (aF A 348) t9 ?_
    exact hret _ _ _ _ dX5_count_119 ⟨(by unfold qCount; rw [if_neg (by decide), if_neg (by decide), if_neg (by decide), if_neg (by decide), if_pos rfl]; all_goals rfl), PC_same hR⟩
  by_cases s1_5 : y = 5
  · subst s1_5
    refine x_tableIn (pc := 1) hc dX5_count_1 (by decide) (by decide) rfl 120 (by decide) ?_
    refine x_aload_n (pc := 120) hc dX5_count_120 0 rfl ?_
    refine x_get (pc := 121) hc cfM kcX5 4 (by decide) fl_X5_31 rfl dX5_count_121 ?_
    refine x_ar b eb.symm ?_
    refine x_get (pc := 124) hc (cfS hb) kcX3 10 (by decide) fl_X5_199 rfl dX5_count_124 ?_
    refine x_as (aF A 349) t10 ?_
    exact hret _ _ _ _ dX5_count_127 ⟨(by unfold qCount; rw [if_neg (by decide), if_neg (by decide), if_neg (by decide), if_neg (by decide), if_neg (by decide), if_pos rfl]; all_goals rfl), PC_same hR⟩
  by_cases s1_6 : y = 6
  · subst s1_6
    refine x_tableIn (pc := 1) hc dX5_count_1 (by decide) (by decide) rfl 128 (by decide) ?_
    refine x_aload_n (pc := 128) hc dX5_count_128 0 rfl ?_
    refine x_get (pc := 129) hc cfM kcX5 4 (by decide) fl_X5_31 rfl dX5_count_129 ?_
    refine x_ar b eb.symm ?_
    refine x_get (pc := 132) hc (cfS hb) kcX3 11 (by decide) fl_X5_202 rfl dX5_count_132 ?_
    refine x_as (aF A 350) t11 ?_
    exact hret _ _ _ _ dX5_count_135 ⟨(by unfold qCount; rw [if_neg (by decide), if_neg (by decide), if_neg (by decide), if_neg (by decide), if_neg (by decide), if_neg (by decide), if_pos rfl]; all_goals rfl), PC_same hR⟩
  by_cases s1_7 : y = 7
  · subst s1_7
    refine x_tableIn (pc := 1) hc dX5_count_1 (by decide) (by decide) rfl 136 (by decide) ?_
    refine x_aload_n (pc := 136) hc dX5_count_136 0 rfl ?_
    refine x_get (pc := 137) hc cfM kcX5 4 (by decide) fl_X5_31 rfl dX5_count_137 ?_
    refine x_ar b eb.symm ?_
    refine x_callVr (pc := 140) hc cl_X5_82 (cfS hb) kcX3 [] (m_X3_yearOfNow hI (kl K) G b ((yN (aF A))) hb (by omega) u5) rfl rfl (by simp [Value.category]) rfl rfl ⟨by decide, by decide⟩ dX5_count_140 (fun r140 Gc140 q140 => ?_)
    obtain ⟨er140, eGc140⟩ := q140
    rw [eGc140]
    subst er140
    refine x_get (pc := 143) hc (cfY (isY_of hb (by omega))) kcX4 4 (by decide) fl_X5_205 rfl dX5_count_143 ?_
    refine x_as (sSum (nowM (aF A)) 20) y4 ?_
    exact hret _ _ _ _ dX5_count_146 ⟨(by unfold qCount; rw [if_neg (by decide), if_neg (by decide), if_neg (by decide), if_neg (by decide), if_neg (by decide), if_neg (by decide), if_neg (by decide), if_pos rfl]; all_goals rfl), PC_same hR⟩
  by_cases s1_8 : y = 8
  · subst s1_8
    refine x_tableIn (pc := 1) hc dX5_count_1 (by decide) (by decide) rfl 147 (by decide) ?_
    refine x_aload_n (pc := 147) hc dX5_count_147 0 rfl ?_
    refine x_get (pc := 148) hc cfM kcX5 4 (by decide) fl_X5_31 rfl dX5_count_148 ?_
    refine x_ar b eb.symm ?_
    refine x_callVi (pc := 151) hc cl_X5_169 (cfS hb) kcX3 [] (m_X3_knownYears hI (kl K) G b (yN (aF A)) hb (by omega) u5) rfl rfl (by simp [Value.category]) rfl rfl ⟨by decide, by decide⟩ dX5_count_151 (fun r151 Gc151 q151 => ?_)
    obtain ⟨er151, eGc151⟩ := q151
    rw [eGc151]
    subst er151
    refine x_as (nI (kN (aF A))) rfl ?_
    refine x_if_le (pc := 154) hc dX5_count_154 171 (by decide) (fun c154 => ?_) (fun c154 => ?_)
    · have c154 : kN (aF A) ≤ 0 := (nI_leI (a := kN (aF A)) (b := 0) (by omega) (by omega)).mp c154
      refine x_bipush (v := (-5)) (pc := 171) hc dX5_count_171 (by decide) ?_
      exact hret _ _ _ _ dX5_count_173 ⟨(by unfold qCount; rw [if_neg (by decide), if_neg (by decide), if_neg (by decide), if_neg (by decide), if_neg (by decide), if_neg (by decide), if_neg (by decide), if_neg (by decide), if_pos rfl, if_pos (by rw [v3, show min (yN (aF A)) 4 = 0 by unfold kN at c154; omega]; rfl)]; all_goals rfl), PC_same hR⟩
    · have c154 : ¬ kN (aF A) ≤ 0 := fun h9 => c154 ((nI_leI (a := kN (aF A)) (b := 0) (by omega) (by omega)).mpr h9)
      refine x_aload_n (pc := 157) hc dX5_count_157 0 rfl ?_
      refine x_get (pc := 158) hc cfM kcX5 4 (by decide) fl_X5_31 rfl dX5_count_158 ?_
      refine x_ar b eb.symm ?_
      refine x_iconst (v := 0) (pc := 161) hc dX5_count_161 (by decide) ?_
      refine x_callVr (pc := 162) hc cl_X5_172 (cfS hb) kcX3 [.int 0] (m_X3_endedYear hI (kl K) G b (yN (aF A)) 0 hb (by omega) u5 (by omega)) rfl rfl (by simp [Value.category]) rfl rfl ⟨by decide, by decide⟩ dX5_count_162 (fun r162 Gc162 q162 => ?_)
      obtain ⟨er162, eGc162⟩ := q162
      rw [eGc162]
      subst er162
      refine x_get (pc := 165) hc (cfY (isY_of hb (by omega))) kcX4 4 (by decide) fl_X5_205 rfl dX5_count_165 ?_
      refine x_as (sSum (okM (aF A) 0) 20) (so 0 (by omega)).2 ?_
      refine x_goto (pc := 168) hc dX5_count_168 173 (by decide) ?_
      exact hret _ _ _ _ dX5_count_173 ⟨(by unfold qCount; rw [if_neg (by decide), if_neg (by decide), if_neg (by decide), if_neg (by decide), if_neg (by decide), if_neg (by decide), if_neg (by decide), if_neg (by decide), if_pos rfl, if_neg (by rw [v3]; exact fun q => by have := (nI_eq (a := min (yN (aF A)) 4) (b := 0) (by omega) (by omega)).mp q; unfold kN at c154; omega)]; all_goals rfl), PC_same hR⟩
  by_cases s1_9 : y = 9
  · subst s1_9
    refine x_tableIn (pc := 1) hc dX5_count_1 (by decide) (by decide) rfl 174 (by decide) ?_
    refine x_aload_n (pc := 174) hc dX5_count_174 0 rfl ?_
    refine x_get (pc := 175) hc cfM kcX5 4 (by decide) fl_X5_31 rfl dX5_count_175 ?_
    refine x_ar b eb.symm ?_
    refine x_get (pc := 178) hc (cfS hb) kcX3 12 (by decide) fl_X5_208 rfl dX5_count_178 ?_
    refine x_as (aF A 351) t12 ?_
    refine x_ldc (pc := 181) hc dX5_count_181 kc_X5_209 ?_
    refine x_iadd (pc := 183) hc dX5_count_183 ?_
    exact hret _ _ _ _ dX5_count_184 ⟨(by unfold qCount; rw [if_neg (by decide), if_neg (by decide), if_neg (by decide), if_neg (by decide), if_neg (by decide), if_neg (by decide), if_neg (by decide), if_neg (by decide), if_neg (by decide), if_pos rfl]; all_goals rfl), PC_same hR⟩
  by_cases s1_10 : y = 10
  · subst s1_10
    refine x_tableIn (pc := 1) hc dX5_count_1 (by decide) (by decide) rfl 185 (by decide) ?_
    refine x_aload_n (pc := 185) hc dX5_count_185 0 rfl ?_
    refine x_get (pc := 186) hc cfM kcX5 5 (by decide) fl_X5_34 rfl dX5_count_186 ?_
    refine x_as (nI (aN A)) h3 ?_
    exact hret _ _ _ _ dX5_count_189 ⟨(by unfold qCount; rw [if_neg (by decide), if_neg (by decide), if_neg (by decide), if_neg (by decide), if_neg (by decide), if_neg (by decide), if_neg (by decide), if_neg (by decide), if_neg (by decide), if_neg (by decide), if_pos rfl]; all_goals rfl), PC_same hR⟩
  by_cases s1_11 : y = 11
  · subst s1_11
    refine x_tableIn (pc := 1) hc dX5_count_1 (by decide) (by decide) rfl 190 (by decide) ?_
    refine x_aload_n (pc := 190) hc dX5_count_190 0 rfl ?_
    refine x_get (pc := 191) hc cfM kcX5 0 (by decide) fl_X5_12 rfl dX5_count_191 ?_
    refine x_get (pc := 194) hc cfT kcX0 1 (by decide) fl_X5_143 rfl dX5_count_194 ?_
    refine x_as (nI (aL A)) h7.1 ?_
    exact hret _ _ _ _ dX5_count_197 ⟨(by unfold qCount; rw [if_neg (by decide), if_neg (by decide), if_neg (by decide), if_neg (by decide), if_neg (by decide), if_neg (by decide), if_neg (by decide), if_neg (by decide), if_neg (by decide), if_neg (by decide), if_neg (by decide), if_pos rfl]; all_goals rfl), PC_same hR⟩
  by_cases s1_12 : y = 12
  · subst s1_12
    refine x_tableIn (pc := 1) hc dX5_count_1 (by decide) (by decide) rfl 198 (by decide) ?_
    refine x_aload_n (pc := 198) hc dX5_count_198 0 rfl ?_
    refine x_get (pc := 199) hc cfM kcX5 4 (by decide) fl_X5_31 rfl dX5_count_199 ?_
    refine x_ar b eb.symm ?_
    refine x_get (pc := 202) hc (cfS hb) kcX3 0 (by decide) fl_X5_122 rfl dX5_count_202 ?_
    refine x_iconst (v := 0) (pc := 205) hc dX5_count_205 (by decide) ?_
    refine x_as (nI 0) rfl ?_
    refine x_iald (pc := 206) hc (afS hb) (vp_in_nI (by omega) (by decide)) dX5_count_206 ?_
    refine x_as (G (b + 1) 0) (congrArg _ (nI_clamp (by omega))) ?_
    refine x_as (aF A (303 + 0)) (s1 0 (by omega)) ?_
    refine x_sipush (v := 1000) (pc := 207) hc dX5_count_207 (by decide) ?_
    refine x_iadd (pc := 210) hc dX5_count_210 ?_
    exact hret _ _ _ _ dX5_count_211 ⟨(by unfold qCount; rw [if_neg (by decide), if_neg (by decide), if_neg (by decide), if_neg (by decide), if_neg (by decide), if_neg (by decide), if_neg (by decide), if_neg (by decide), if_neg (by decide), if_neg (by decide), if_neg (by decide), if_neg (by decide), if_neg (by decide)]; all_goals rfl), PC_same hR⟩
  by_cases s1_13 : y = 13
  · subst s1_13
    refine x_tableIn (pc := 1) hc dX5_count_1 (by decide) (by decide) rfl 212 (by decide) ?_
    refine x_aload_n (pc := 212) hc dX5_count_212 0 rfl ?_
    refine x_get (pc := 213) hc cfM kcX5 4 (by decide) fl_X5_31 rfl dX5_count_213 ?_
    refine x_ar b eb.symm ?_
    refine x_get (pc := 216) hc (cfS hb) kcX3 0 (by decide) fl_X5_122 rfl dX5_count_216 ?_
    refine x_iconst (v := 1) (pc := 219) hc dX5_count_219 (by decide) ?_
    refine x_as (nI 1) rfl ?_
    refine x_iald (pc := 220) hc (afS hb) (vp_in_nI (by omega) (by decide)) dX5_count_220 ?_
    refine x_as (G (b + 1) 1) (congrArg _ (nI_clamp (by omega))) ?_
    refine x_as (aF A (303 + 1)) (s1 1 (by omega)) ?_
    refine x_sipush (v := 1000) (pc := 221) hc dX5_count_221 (by decide) ?_
    refine x_iadd (pc := 224) hc dX5_count_224 ?_
    exact hret _ _ _ _ dX5_count_225 ⟨(by unfold qCount; rw [if_neg (by decide), if_neg (by decide), if_neg (by decide), if_neg (by decide), if_neg (by decide), if_neg (by decide), if_neg (by decide), if_neg (by decide), if_neg (by decide), if_neg (by decide), if_neg (by decide), if_neg (by decide), if_neg (by decide)]; all_goals rfl), PC_same hR⟩
  by_cases s1_14 : y = 14
  · subst s1_14
    refine x_tableIn (pc := 1) hc dX5_count_1 (by decide) (by decide) rfl 226 (by decide) ?_
    refine x_aload_n (pc := 226) hc dX5_count_226 0 rfl ?_
    refine x_get (pc := 227) hc cfM kcX5 4 (by decide) fl_X5_31 rfl dX5_count_227 ?_
    refine x_ar b eb.symm ?_
    refine x_get (pc := 230) hc (cfS hb) kcX3 0 (by decide) fl_X5_122 rfl dX5_count_230 ?_
    refine x_iconst (v := 2) (pc := 233) hc dX5_count_233 (by decide) ?_
    refine x_as (nI 2) rfl ?_
    refine x_iald (pc := 234) hc (afS hb) (vp_in_nI (by omega) (by decide)) dX5_count_234 ?_
    refine x_as (G (b + 1) 2) (congrArg _ (nI_clamp (by omega))) ?_
    refine x_as (aF A (303 + 2)) (s1 2 (by omega)) ?_
    refine x_sipush (v := 1000) (pc := 235) hc dX5_count_235 (by decide) ?_
    refine x_iadd (pc := 238) hc dX5_count_238 ?_
    exact hret _ _ _ _ dX5_count_239 ⟨(by unfold qCount; rw [if_neg (by decide), if_neg (by decide), if_neg (by decide), if_neg (by decide), if_neg (by decide), if_neg (by decide), if_neg (by decide), if_neg (by decide), if_neg (by decide), if_neg (by decide), if_neg (by decide), if_neg (by decide), if_neg (by decide)]; all_goals rfl), PC_same hR⟩
  by_cases s1_15 : y = 15
  · subst s1_15
    refine x_tableIn (pc := 1) hc dX5_count_1 (by decide) (by decide) rfl 240 (by decide) ?_
    refine x_aload_n (pc := 240) hc dX5_count_240 0 rfl ?_
    refine x_get (pc := 241) hc cfM kcX5 4 (by decide) fl_X5_31 rfl dX5_count_241 ?_
    refine x_ar b eb.symm ?_
    refine x_get (pc := 244) hc (cfS hb) kcX3 0 (by decide) fl_X5_122 rfl dX5_count_244 ?_
    refine x_iconst (v := 3) (pc := 247) hc dX5_count_247 (by decide) ?_
    refine x_as (nI 3) rfl ?_
    refine x_iald (pc := 248) hc (afS hb) (vp_in_nI (by omega) (by decide)) dX5_count_248 ?_
    refine x_as (G (b + 1) 3) (congrArg _ (nI_clamp (by omega))) ?_
    refine x_as (aF A (303 + 3)) (s1 3 (by omega)) ?_
    refine x_sipush (v := 1000) (pc := 249) hc dX5_count_249 (by decide) ?_
    refine x_iadd (pc := 252) hc dX5_count_252 ?_
    exact hret _ _ _ _ dX5_count_253 ⟨(by unfold qCount; rw [if_neg (by decide), if_neg (by decide), if_neg (by decide), if_neg (by decide), if_neg (by decide), if_neg (by decide), if_neg (by decide), if_neg (by decide), if_neg (by decide), if_neg (by decide), if_neg (by decide), if_neg (by decide), if_neg (by decide)]; all_goals rfl), PC_same hR⟩
  have t1_0 : y.toInt ≠ 0 := fun z => s1_0 (Int32.toInt_inj.mp z)
  have t1_1 : y.toInt ≠ 1 := fun z => s1_1 (Int32.toInt_inj.mp z)
  have t1_2 : y.toInt ≠ 2 := fun z => s1_2 (Int32.toInt_inj.mp z)
  have t1_3 : y.toInt ≠ 3 := fun z => s1_3 (Int32.toInt_inj.mp z)
  have t1_4 : y.toInt ≠ 4 := fun z => s1_4 (Int32.toInt_inj.mp z)
  have t1_5 : y.toInt ≠ 5 := fun z => s1_5 (Int32.toInt_inj.mp z)
  have t1_6 : y.toInt ≠ 6 := fun z => s1_6 (Int32.toInt_inj.mp z)
  have t1_7 : y.toInt ≠ 7 := fun z => s1_7 (Int32.toInt_inj.mp z)
  have t1_8 : y.toInt ≠ 8 := fun z => s1_8 (Int32.toInt_inj.mp z)
  have t1_9 : y.toInt ≠ 9 := fun z => s1_9 (Int32.toInt_inj.mp z)
  have t1_10 : y.toInt ≠ 10 := fun z => s1_10 (Int32.toInt_inj.mp z)
  have t1_11 : y.toInt ≠ 11 := fun z => s1_11 (Int32.toInt_inj.mp z)
  have t1_12 : y.toInt ≠ 12 := fun z => s1_12 (Int32.toInt_inj.mp z)
  have t1_13 : y.toInt ≠ 13 := fun z => s1_13 (Int32.toInt_inj.mp z)
  have t1_14 : y.toInt ≠ 14 := fun z => s1_14 (Int32.toInt_inj.mp z)
  have t1_15 : y.toInt ≠ 15 := fun z => s1_15 (Int32.toInt_inj.mp z)
  refine x_tableOut (pc := 1) hc dX5_count_1 (by omega) 254 (by decide) ?_
  refine x_bipush (v := (-2)) (pc := 254) hc dX5_count_254 (by decide) ?_
  exact hret _ _ _ _ dX5_count_256 ⟨(by unfold qCount; rw [if_neg s1_0, if_neg s1_1, if_neg s1_2, if_neg s1_3, if_neg s1_4, if_neg s1_5, if_neg s1_6, if_neg s1_7, if_neg s1_8, if_neg s1_9, if_neg s1_10, if_neg s1_11, if_pos (inB_d3 s1_12 s1_13 s1_14 s1_15)]; all_goals rfl), PC_same hR⟩
set_option maxHeartbeats 4000000 in
set_option maxRecDepth 100000 in
theorem C_past {w : WT} (hI : xI w) (l : Launch) (G : GS) (a x y : Int32) (A : AT) (B : Nat) (hR : RC G A) (hV : AV A B) (hZ : AZ A) (hB : B + 1 < 2 ^ 30) : Mi w l yX5_past cX5_past 5 (some .int) ⟨2, 0, 0, 50⟩ [.ref (w.2.2 0), .int a, .int x, .int y] G (fun v9 G' => v9 = qPast A a x y ∧ PCq G G' A) := by
  refine mk_i (L0 := [(0, .ref (w.2.2 0)), (1, .int a), (2, .int x), (3, .int y)]) hI (by decide +kernel) rfl (Nat.le_of_ble_eq_true rfl) (fun _ _ _ => rfl) (fun K hc hret => ?_)
  obtain ⟨b, eb⟩ : ∃ b, b = stb (G 0 4) := ⟨_, rfl⟩
  obtain ⟨h1, h2, h3, h4, h5, h6, h7, h8⟩ := id hR
  rw [← eb] at h2
  have hb : isB b := by rw [eb]; exact h1.1.2.2.2.2
  have hlb := isB_lt hb
  have hS0 := h2
  obtain ⟨s1, ⟨t4, t5, t6, t7, t8, t9, t10, t11, t12⟩, s3, s4, ⟨y1, y2, y3, y4⟩, so⟩ := h2
  have hRV := hV.2.1
  obtain ⟨⟨d1, d2⟩, ⟨v1, v2, v3⟩, ⟨r1, r2⟩, ho, ⟨c1, c2, c3⟩, hb4⟩ := id hRV
  have hd20 := Nat.le_of_lt d1
  have hn4 := hV.1
  have u4 : G b 4 = nI (cN (aF A)) := t4.trans c2
  have u5 : G b 5 = nI (yN (aF A)) := t5.trans v2
  have u6 : G b 6 = nI (dN (aF A)) := t6.trans d2
  have hkN : kN (aF A) ≤ 4 := by unfold kN; omega
  have hkY : kN (aF A) ≤ yN (aF A) := by unfold kN; omega
  refine x_iload_n (pc := 0) hc dX5_past_0 1 rfl ?_
  refine x_aload_n (pc := 1) hc dX5_past_1 0 rfl ?_
  refine x_get (pc := 2) hc cfM kcX5 4 (by decide) fl_X5_31 rfl dX5_past_2 ?_
  refine x_ar b eb.symm ?_
  refine x_callVi (pc := 5) hc cl_X5_169 (cfS hb) kcX3 [] (m_X3_knownYears hI (kl K) G b (yN (aF A)) hb (by omega) u5) rfl rfl (by simp [Value.category]) rfl rfl ⟨by decide, by decide⟩ dX5_past_5 (fun r5 Gc5 q5 => ?_)
  obtain ⟨er5, eGc5⟩ := q5
  rw [eGc5]
  subst er5
  refine x_as (nI (kN (aF A))) rfl ?_
  refine x_callSi (pc := 8) hc cl_X5_76 [.int a, .int (nI (kN (aF A)))] (m_X5_isIndex hI (kl K) G a (nI (kN (aF A)))) rfl rfl (by simp [Value.category]) rfl rfl ⟨by decide, by decide⟩ dX5_past_8 (fun r8 Gc8 q8 => ?_)
  obtain ⟨er8, eGc8⟩ := q8
  rw [eGc8]
  subst er8
  refine x_as (sB a (kN (aF A))) (ix_c _ (by omega)) ?_
  refine x_if_eq (pc := 11) hc dX5_past_11 23 (by decide) (fun c11 => ?_) (fun c11 => ?_)
  · refine x_iconst (v := (-1)) (pc := 23) hc dX5_past_23 (by decide) ?_
    exact hret _ _ _ _ dX5_past_24 ⟨(by unfold qPast; rw [if_pos (show knB (aF A) _ _ = 0 from b01_neg (fun z => z.1 c11))]), PC_same hR⟩
  · refine x_iload_n (pc := 14) hc dX5_past_14 2 rfl ?_
    refine x_bipush (v := 20) (pc := 15) hc dX5_past_15 (by decide) ?_
    refine x_callSi (pc := 17) hc cl_X5_76 [.int x, .int 20] (m_X5_isIndex hI (kl K) G x 20) rfl rfl (by simp [Value.category]) rfl rfl ⟨by decide, by decide⟩ dX5_past_17 (fun r17 Gc17 q17 => ?_)
    obtain ⟨er17, eGc17⟩ := q17
    rw [eGc17]
    subst er17
    refine x_as (inB x 0 19) (ix_b _ rfl) ?_
    refine x_if_ne (pc := 20) hc dX5_past_20 25 (by decide) (fun c20 => ?_) (fun c20 => ?_)
    · obtain ⟨i, hi, rfl⟩ := sB_f (by omega) c11
      obtain ⟨d, hd, rfl⟩ := inB_nat (n := 19) rfl c20
      have zi : (nI i).toNatClampNeg = i := nI_clamp (by omega)
      have zd : (nI d).toNatClampNeg = d := nI_clamp (by omega)
      refine x_aload_n (pc := 25) hc dX5_past_25 0 rfl ?_
      refine x_get (pc := 26) hc cfM kcX5 4 (by decide) fl_X5_31 rfl dX5_past_26 ?_
      refine x_ar b eb.symm ?_
      refine x_iload_n (pc := 29) hc dX5_past_29 1 rfl ?_
      refine x_callVr (pc := 30) hc cl_X5_172 (cfS hb) kcX3 [.int (nI i)] (m_X3_endedYear hI (kl K) G b (yN (aF A)) i hb (by omega) u5 (by omega)) rfl rfl (by simp [Value.category]) rfl rfl ⟨by decide, by decide⟩ dX5_past_30 (fun r30 Gc30 q30 => ?_)
      obtain ⟨er30, eGc30⟩ := q30
      rw [eGc30]
      subst er30
      refine x_astore (pc := 33) (L' := [(4, .ref (w.2.2 (b + (3 + 5 * ((yN (aF A) - 1 - i) % 5))))), (0, .ref (w.2.2 0)), (1, .int (nI i)), (2, .int (nI d)), (3, .int y)]) hc dX5_past_33 (by decide) rfl ?_
      refine x_iload_n (pc := 35) hc dX5_past_35 4 rfl ?_
      by_cases s36_0 : y = 0
      · subst s36_0
        refine x_lookup (pc := 36) hc dX5_past_36 (by decide) rfl 64 (by decide) ?_
        refine x_aload (pc := 64) hc dX5_past_64 0 rfl ?_
        refine x_get (pc := 66) hc (cfY (isY_of hb (by omega))) kcX4 2 (by decide) fl_X5_155 rfl dX5_past_66 ?_
        refine x_iload_n (pc := 69) hc dX5_past_69 3 rfl ?_
        refine x_iald (pc := 70) hc (afY (isY_of hb (by omega)) (i := 3) (by decide) (by decide)) (vp_in_nI (by omega) (by decide)) dX5_past_70 ?_
        refine x_as (G (b + (3 + 5 * ((yN (aF A) - 1 - i) % 5)) + 3) d) (congrArg _ (nI_clamp (by omega))) ?_
        refine x_as (aF A (60 + 60 * i + 20 * 0 + d)) (by rw [show 60 + 60 * i + 20 * 0 + d = 60 + 60 * i + d by omega]; exact ((so i hi).1 d (by omega)).2.2.1) ?_
        refine x_sipush (v := 1000) (pc := 71) hc dX5_past_71 (by decide) ?_
        refine x_iadd (pc := 74) hc dX5_past_74 ?_
        exact hret _ _ _ _ dX5_past_75 ⟨(by unfold qPast; rw [if_neg (by rw [show knB (aF A) _ _ = 1 from b01_pos ⟨c11, c20⟩]; decide), if_neg (by decide), zi, zd]; all_goals rfl), PC_same hR⟩
      by_cases s36_1 : y = 1
      · subst s36_1
        refine x_lookup (pc := 36) hc dX5_past_36 (by decide) rfl 76 (by decide) ?_
        refine x_aload (pc := 76) hc dX5_past_76 0 rfl ?_
        refine x_get (pc := 78) hc (cfY (isY_of hb (by omega))) kcX4 3 (by decide) fl_X5_158 rfl dX5_past_78 ?_
        refine x_iload_n (pc := 81) hc dX5_past_81 3 rfl ?_
        refine x_iald (pc := 82) hc (afY (isY_of hb (by omega)) (i := 4) (by decide) (by decide)) (vp_in_nI (by omega) (by decide)) dX5_past_82 ?_
        refine x_as (G (b + (3 + 5 * ((yN (aF A) - 1 - i) % 5)) + 4) d) (congrArg _ (nI_clamp (by omega))) ?_
        refine x_as (aF A (60 + 60 * i + 20 * 1 + d)) (by rw [show 60 + 60 * i + 20 * 1 + d = 80 + 60 * i + d by omega]; exact ((so i hi).1 d (by omega)).2.2.2) ?_
        refine x_sipush (v := 1000) (pc := 83) hc dX5_past_83 (by decide) ?_
        refine x_iadd (pc := 86) hc dX5_past_86 ?_
        exact hret _ _ _ _ dX5_past_87 ⟨(by unfold qPast; rw [if_neg (by rw [show knB (aF A) _ _ = 1 from b01_pos ⟨c11, c20⟩]; decide), if_neg (by decide), zi, zd]; all_goals rfl), PC_same hR⟩
      have t36_0 : y.toInt ≠ 0 := fun z => s36_0 (Int32.toInt_inj.mp z)
      have t36_1 : y.toInt ≠ 1 := fun z => s36_1 (Int32.toInt_inj.mp z)
      refine x_lookup (pc := 36) (off := 52) hc dX5_past_36 (by decide) (by simp [Op.lookupswitch.offset, Ne.symm t36_0, t36_0, Ne.symm t36_1, t36_1]) 88 (by decide) ?_
      refine x_bipush (v := (-2)) (pc := 88) hc dX5_past_88 (by decide) ?_
      exact hret _ _ _ _ dX5_past_90 ⟨(by unfold qPast; rw [if_neg (by rw [show knB (aF A) _ _ = 1 from b01_pos ⟨c11, c20⟩]; decide), if_pos (inB_d1 s36_0 s36_1)]), PC_same hR⟩
    · refine x_iconst (v := (-1)) (pc := 23) hc dX5_past_23 (by decide) ?_
      exact hret _ _ _ _ dX5_past_24 ⟨(by unfold qPast; rw [if_pos (show knB (aF A) _ _ = 0 from b01_neg (fun z => z.2 c20))]), PC_same hR⟩
set_option maxHeartbeats 4000000 in
set_option maxRecDepth 100000 in
theorem C_mean {w : WT} (hI : xI w) (l : Launch) (G : GS) (a x y : Int32) (A : AT) (B : Nat) (hR : RC G A) (hV : AV A B) (hZ : AZ A) (hB : B + 1 < 2 ^ 30) : Mi w l yX5_mean cX5_mean 5 (some .int) ⟨2, 0, 0, 57⟩ [.ref (w.2.2 0), .int a, .int x, .int y] G (fun v9 G' => v9 = qMean A a x y ∧ PCq G G' A) := by
  refine mk_i (L0 := [(0, .ref (w.2.2 0)), (1, .int a), (2, .int x), (3, .int y)]) hI (by decide +kernel) rfl (Nat.le_of_ble_eq_true rfl) (fun _ _ _ => rfl) (fun K hc hret => ?_)
  obtain ⟨b, eb⟩ : ∃ b, b = stb (G 0 4) := ⟨_, rfl⟩
  obtain ⟨h1, h2, h3, h4, h5, h6, h7, h8⟩ := id hR
  rw [← eb] at h2
  have hb : isB b := by rw [eb]; exact h1.1.2.2.2.2
  have hlb := isB_lt hb
  have hS0 := h2
  obtain ⟨s1, ⟨t4, t5, t6, t7, t8, t9, t10, t11, t12⟩, s3, s4, ⟨y1, y2, y3, y4⟩, so⟩ := h2
  have hRV := hV.2.1
  obtain ⟨⟨d1, d2⟩, ⟨v1, v2, v3⟩, ⟨r1, r2⟩, ho, ⟨c1, c2, c3⟩, hb4⟩ := id hRV
  have hd20 := Nat.le_of_lt d1
  have hn4 := hV.1
  have u4 : G b 4 = nI (cN (aF A)) := t4.trans c2
  have u5 : G b 5 = nI (yN (aF A)) := t5.trans v2
  have u6 : G b 6 = nI (dN (aF A)) := t6.trans d2
  have hkN : kN (aF A) ≤ 4 := by unfold kN; omega
  have hkY : kN (aF A) ≤ yN (aF A) := by unfold kN; omega
  refine x_iload_n (pc := 0) hc dX5_mean_0 1 rfl ?_
  refine x_aload_n (pc := 1) hc dX5_mean_1 0 rfl ?_
  refine x_get (pc := 2) hc cfM kcX5 4 (by decide) fl_X5_31 rfl dX5_mean_2 ?_
  refine x_ar b eb.symm ?_
  refine x_callVi (pc := 5) hc cl_X5_169 (cfS hb) kcX3 [] (m_X3_knownYears hI (kl K) G b (yN (aF A)) hb (by omega) u5) rfl rfl (by simp [Value.category]) rfl rfl ⟨by decide, by decide⟩ dX5_mean_5 (fun r5 Gc5 q5 => ?_)
  obtain ⟨er5, eGc5⟩ := q5
  rw [eGc5]
  subst er5
  refine x_as (nI (kN (aF A))) rfl ?_
  refine x_callSi (pc := 8) hc cl_X5_76 [.int a, .int (nI (kN (aF A)))] (m_X5_isIndex hI (kl K) G a (nI (kN (aF A)))) rfl rfl (by simp [Value.category]) rfl rfl ⟨by decide, by decide⟩ dX5_mean_8 (fun r8 Gc8 q8 => ?_)
  obtain ⟨er8, eGc8⟩ := q8
  rw [eGc8]
  subst er8
  refine x_as (sB a (kN (aF A))) (ix_c _ (by omega)) ?_
  refine x_if_eq (pc := 11) hc dX5_mean_11 23 (by decide) (fun c11 => ?_) (fun c11 => ?_)
  · refine x_iconst (v := (-1)) (pc := 23) hc dX5_mean_23 (by decide) ?_
    exact hret _ _ _ _ dX5_mean_24 ⟨(by unfold qMean; rw [if_pos (show knB (aF A) _ _ = 0 from b01_neg (fun z => z.1 c11))]), PC_same hR⟩
  · refine x_iload_n (pc := 14) hc dX5_mean_14 2 rfl ?_
    refine x_bipush (v := 20) (pc := 15) hc dX5_mean_15 (by decide) ?_
    refine x_callSi (pc := 17) hc cl_X5_76 [.int x, .int 20] (m_X5_isIndex hI (kl K) G x 20) rfl rfl (by simp [Value.category]) rfl rfl ⟨by decide, by decide⟩ dX5_mean_17 (fun r17 Gc17 q17 => ?_)
    obtain ⟨er17, eGc17⟩ := q17
    rw [eGc17]
    subst er17
    refine x_as (inB x 0 19) (ix_b _ rfl) ?_
    refine x_if_ne (pc := 20) hc dX5_mean_20 25 (by decide) (fun c20 => ?_) (fun c20 => ?_)
    · obtain ⟨i, hi, rfl⟩ := sB_f (by omega) c11
      obtain ⟨d, hd, rfl⟩ := inB_nat (n := 19) rfl c20
      have zi : (nI i).toNatClampNeg = i := nI_clamp (by omega)
      have zd : (nI d).toNatClampNeg = d := nI_clamp (by omega)
      refine x_aload_n (pc := 25) hc dX5_mean_25 0 rfl ?_
      refine x_get (pc := 26) hc cfM kcX5 4 (by decide) fl_X5_31 rfl dX5_mean_26 ?_
      refine x_ar b eb.symm ?_
      refine x_iload_n (pc := 29) hc dX5_mean_29 1 rfl ?_
      refine x_callVr (pc := 30) hc cl_X5_172 (cfS hb) kcX3 [.int (nI i)] (m_X3_endedYear hI (kl K) G b (yN (aF A)) i hb (by omega) u5 (by omega)) rfl rfl (by simp [Value.category]) rfl rfl ⟨by decide, by decide⟩ dX5_mean_30 (fun r30 Gc30 q30 => ?_)
      obtain ⟨er30, eGc30⟩ := q30
      rw [eGc30]
      subst er30
      refine x_astore (pc := 33) (L' := [(4, .ref (w.2.2 (b + (3 + 5 * ((yN (aF A) - 1 - i) % 5))))), (0, .ref (w.2.2 0)), (1, .int (nI i)), (2, .int (nI d)), (3, .int y)]) hc dX5_mean_33 (by decide) rfl ?_
      refine x_iload_n (pc := 35) hc dX5_mean_35 4 rfl ?_
      by_cases s36_0 : y = 0
      · subst s36_0
        refine x_lookup (pc := 36) hc dX5_mean_36 (by decide) rfl 64 (by decide) ?_
        refine x_aload (pc := 64) hc dX5_mean_64 0 rfl ?_
        refine x_iload_n (pc := 66) hc dX5_mean_66 3 rfl ?_
        refine x_aload_n (pc := 67) hc dX5_mean_67 1 rfl ?_
        refine x_get (pc := 68) hc cfM kcX5 4 (by decide) fl_X5_31 rfl dX5_mean_68 ?_
        refine x_ar b eb.symm ?_
        refine x_get (pc := 71) hc (cfS hb) kcX3 0 (by decide) fl_X5_122 rfl dX5_mean_71 ?_
        refine x_iconst (v := 0) (pc := 74) hc dX5_mean_74 (by decide) ?_
        refine x_as (nI 0) rfl ?_
        refine x_iald (pc := 75) hc (afS hb) (vp_in_nI (by omega) (by decide)) dX5_mean_75 ?_
        refine x_as (G (b + 1) 0) (congrArg _ (nI_clamp (by omega))) ?_
        refine x_as (nI (rN (aF A))) ((s1 0 (by omega)).trans r2) ?_
        refine x_callVi (pc := 76) hc cl_X5_176 (cfY (isY_of hb (by omega))) kcX4 [.int (nI d), .int (nI (rN (aF A)))] (m_X4_meanByDays hI (kl K) G (b + (3 + 5 * ((yN (aF A) - 1 - i) % 5))) d (rN (aF A)) (isY_of hb (by omega)) (by omega) (by omega)) rfl rfl (by simp [Value.category]) rfl rfl ⟨by decide, by decide⟩ dX5_mean_76 (fun r76 Gc76 q76 => ?_)
        obtain ⟨er76, eGc76⟩ := q76
        rw [eGc76]
        subst er76
        refine x_as (mean (okM (aF A) i) d (rN (aF A))) (mean_congr _ _ (fun j hj => ((so i hi).1 j hj).2.2.2)) ?_
        refine x_sipush (v := 1000) (pc := 79) hc dX5_mean_79 (by decide) ?_
        refine x_iadd (pc := 82) hc dX5_mean_82 ?_
        exact hret _ _ _ _ dX5_mean_83 ⟨(by unfold qMean; rw [if_neg (by rw [show knB (aF A) _ _ = 1 from b01_pos ⟨c11, c20⟩]; decide), if_neg (by decide), if_pos rfl, zi, zd]; all_goals rfl), PC_same hR⟩
      by_cases s36_1 : y = 1
      · subst s36_1
        refine x_lookup (pc := 36) hc dX5_mean_36 (by decide) rfl 84 (by decide) ?_
        refine x_aload (pc := 84) hc dX5_mean_84 0 rfl ?_
        refine x_iload_n (pc := 86) hc dX5_mean_86 3 rfl ?_
        refine x_aload_n (pc := 87) hc dX5_mean_87 1 rfl ?_
        refine x_get (pc := 88) hc cfM kcX5 4 (by decide) fl_X5_31 rfl dX5_mean_88 ?_
        refine x_ar b eb.symm ?_
        refine x_get (pc := 91) hc (cfS hb) kcX3 0 (by decide) fl_X5_122 rfl dX5_mean_91 ?_
        refine x_iconst (v := 0) (pc := 94) hc dX5_mean_94 (by decide) ?_
        refine x_as (nI 0) rfl ?_
        refine x_iald (pc := 95) hc (afS hb) (vp_in_nI (by omega) (by decide)) dX5_mean_95 ?_
        refine x_as (G (b + 1) 0) (congrArg _ (nI_clamp (by omega))) ?_
        refine x_as (nI (rN (aF A))) ((s1 0 (by omega)).trans r2) ?_
        refine x_callVi (pc := 96) hc cl_X5_180 (cfY (isY_of hb (by omega))) kcX4 [.int (nI d), .int (nI (rN (aF A)))] (m_X4_meanBySums hI (kl K) G (b + (3 + 5 * ((yN (aF A) - 1 - i) % 5))) d (rN (aF A)) (isY_of hb (by omega)) (by omega) (by omega)) rfl rfl (by simp [Value.category]) rfl rfl ⟨by decide, by decide⟩ dX5_mean_96 (fun r96 Gc96 q96 => ?_)
        obtain ⟨er96, eGc96⟩ := q96
        rw [eGc96]
        subst er96
        refine x_as (meanS (okM (aF A) i) d (rN (aF A))) (meanS_congr _ _ (by omega) (fun j hj => ((so i hi).1 j hj).2.2.2)) ?_
        refine x_sipush (v := 1000) (pc := 99) hc dX5_mean_99 (by decide) ?_
        refine x_iadd (pc := 102) hc dX5_mean_102 ?_
        exact hret _ _ _ _ dX5_mean_103 ⟨(by unfold qMean; rw [if_neg (by rw [show knB (aF A) _ _ = 1 from b01_pos ⟨c11, c20⟩]; decide), if_neg (by decide), if_neg (by decide), zi, zd]; all_goals rfl), PC_same hR⟩
      have t36_0 : y.toInt ≠ 0 := fun z => s36_0 (Int32.toInt_inj.mp z)
      have t36_1 : y.toInt ≠ 1 := fun z => s36_1 (Int32.toInt_inj.mp z)
      refine x_lookup (pc := 36) (off := 68) hc dX5_mean_36 (by decide) (by simp [Op.lookupswitch.offset, Ne.symm t36_0, t36_0, Ne.symm t36_1, t36_1]) 104 (by decide) ?_
      refine x_bipush (v := (-2)) (pc := 104) hc dX5_mean_104 (by decide) ?_
      exact hret _ _ _ _ dX5_mean_106 ⟨(by unfold qMean; rw [if_neg (by rw [show knB (aF A) _ _ = 1 from b01_pos ⟨c11, c20⟩]; decide), if_pos (inB_d1 s36_0 s36_1)]), PC_same hR⟩
    · refine x_iconst (v := (-1)) (pc := 23) hc dX5_mean_23 (by decide) ?_
      exact hret _ _ _ _ dX5_mean_24 ⟨(by unfold qMean; rw [if_pos (show knB (aF A) _ _ = 0 from b01_neg (fun z => z.2 c20))]), PC_same hR⟩
set_option maxHeartbeats 4000000 in
set_option maxRecDepth 100000 in
theorem C_nextBase {w : WT} (hI : xI w) (l : Launch) (G : GS) (x : Int32) (A : AT) (B : Nat) (hR : RC G A) (hV : AV A B) (hZ : AZ A) (hB : B + 1 < 2 ^ 30) : Mi w l yX5_nextBase cX5_nextBase 4 (some .int) ⟨3, 0, 0, 72⟩ [.ref (w.2.2 0), .int x] G (fun v9 G' => v9 = qNext A x ∧ PCq G G' A) := by
  refine mk_i (L0 := [(0, .ref (w.2.2 0)), (1, .int x)]) hI (by decide +kernel) rfl (Nat.le_of_ble_eq_true rfl) (fun _ _ _ => rfl) (fun K hc hret => ?_)
  obtain ⟨b, eb⟩ : ∃ b, b = stb (G 0 4) := ⟨_, rfl⟩
  obtain ⟨h1, h2, h3, h4, h5, h6, h7, h8⟩ := id hR
  rw [← eb] at h2
  have hb : isB b := by rw [eb]; exact h1.1.2.2.2.2
  have hlb := isB_lt hb
  have hS0 := h2
  obtain ⟨s1, ⟨t4, t5, t6, t7, t8, t9, t10, t11, t12⟩, s3, s4, ⟨y1, y2, y3, y4⟩, so⟩ := h2
  have hRV := hV.2.1
  obtain ⟨⟨d1, d2⟩, ⟨v1, v2, v3⟩, ⟨r1, r2⟩, ho, ⟨c1, c2, c3⟩, hb4⟩ := id hRV
  have hd20 := Nat.le_of_lt d1
  have hn4 := hV.1
  have u4 : G b 4 = nI (cN (aF A)) := t4.trans c2
  have u5 : G b 5 = nI (yN (aF A)) := t5.trans v2
  have u6 : G b 6 = nI (dN (aF A)) := t6.trans d2
  refine x_iload_n (pc := 0) hc dX5_nextBase_0 1 rfl ?_
  refine x_bipush (v := 20) (pc := 1) hc dX5_nextBase_1 (by decide) ?_
  refine x_callSi (pc := 3) hc cl_X5_76 [.int x, .int 20] (m_X5_isIndex hI (kl K) G x 20) rfl rfl (by simp [Value.category]) rfl rfl ⟨by decide, by decide⟩ dX5_nextBase_3 (fun r3 Gc3 q3 => ?_)
  obtain ⟨er3, eGc3⟩ := q3
  rw [eGc3]
  subst er3
  refine x_as (inB x 0 19) (ix_b _ rfl) ?_
  refine x_if_ne (pc := 6) hc dX5_nextBase_6 11 (by decide) (fun c6 => ?_) (fun c6 => ?_)
  · obtain ⟨d, hd, rfl⟩ := inB_nat (n := 19) rfl c6
    have zd : (nI d).toNatClampNeg = d := nI_clamp (by omega)
    refine x_aload_n (pc := 11) hc dX5_nextBase_11 0 rfl ?_
    refine x_get (pc := 12) hc cfM kcX5 4 (by decide) fl_X5_31 rfl dX5_nextBase_12 ?_
    refine x_ar b eb.symm ?_
    refine x_callVr (pc := 15) hc cl_X5_82 (cfS hb) kcX3 [] (m_X3_yearOfNow hI (kl K) G b ((yN (aF A))) hb (by omega) u5) rfl rfl (by simp [Value.category]) rfl rfl ⟨by decide, by decide⟩ dX5_nextBase_15 (fun r15 Gc15 q15 => ?_)
    obtain ⟨er15, eGc15⟩ := q15
    rw [eGc15]
    subst er15
    refine x_astore_n (pc := 18) (L' := [(2, .ref (w.2.2 (b + (3 + 5 * ((yN (aF A)) % 5))))), (0, .ref (w.2.2 0)), (1, .int (nI d))]) hc dX5_nextBase_18 (by decide) rfl ?_
    refine x_aload_n (pc := 19) hc dX5_nextBase_19 0 rfl ?_
    refine x_iload_n (pc := 20) hc dX5_nextBase_20 2 rfl ?_
    refine x_aload_n (pc := 21) hc dX5_nextBase_21 1 rfl ?_
    refine x_get (pc := 22) hc cfM kcX5 4 (by decide) fl_X5_31 rfl dX5_nextBase_22 ?_
    refine x_ar b eb.symm ?_
    refine x_get (pc := 25) hc (cfS hb) kcX3 0 (by decide) fl_X5_122 rfl dX5_nextBase_25 ?_
    refine x_iconst (v := 0) (pc := 28) hc dX5_nextBase_28 (by decide) ?_
    refine x_as (nI 0) rfl ?_
    refine x_iald (pc := 29) hc (afS hb) (vp_in_nI (by omega) (by decide)) dX5_nextBase_29 ?_
    refine x_as (G (b + 1) 0) (congrArg _ (nI_clamp (by omega))) ?_
    refine x_as (nI (rN (aF A))) ((s1 0 (by omega)).trans r2) ?_
    refine x_callVi (pc := 30) hc cl_X5_176 (cfY (isY_of hb (by omega))) kcX4 [.int (nI d), .int (nI (rN (aF A)))] (m_X4_meanByDays hI (kl K) G (b + (3 + 5 * ((yN (aF A)) % 5))) d (rN (aF A)) (isY_of hb (by omega)) (by omega) (by omega)) rfl rfl (by simp [Value.category]) rfl rfl ⟨by decide, by decide⟩ dX5_nextBase_30 (fun r30 Gc30 q30 => ?_)
    obtain ⟨er30, eGc30⟩ := q30
    rw [eGc30]
    subst er30
    refine x_as (mean (nowM (aF A)) d (rN (aF A))) (mean_congr _ _ (fun j hj => y3 j hj)) ?_
    refine x_nm (fun x33 ex33 => ?_)
    refine x_istore_n (pc := 33) (L' := [(3, .int x33), (2, .ref (w.2.2 (b + (3 + 5 * ((yN (aF A)) % 5))))), (0, .ref (w.2.2 0)), (1, .int (nI d))]) hc dX5_nextBase_33 (by decide) rfl ?_
    refine x_aload_n (pc := 34) hc dX5_nextBase_34 1 rfl ?_
    refine x_get (pc := 35) hc (cfY (isY_of hb (by omega))) kcX4 0 (by decide) fl_X5_86 rfl dX5_nextBase_35 ?_
    refine x_iload_n (pc := 38) hc dX5_nextBase_38 3 rfl ?_
    refine x_iald (pc := 39) hc (afY (isY_of hb (by omega)) (i := 1) (by decide) (by decide)) (vp_in_nI (by omega) (by decide)) dX5_nextBase_39 ?_
    refine x_as (G (b + (3 + 5 * ((yN (aF A)) % 5)) + 1) d) (congrArg _ (nI_clamp (by omega))) ?_
    refine x_as (aF A d) (y1 d (by omega)) ?_
    refine x_iload_n (pc := 40) hc dX5_nextBase_40 0 rfl ?_
    refine x_aload_n (pc := 41) hc dX5_nextBase_41 2 rfl ?_
    refine x_get (pc := 42) hc cfM kcX5 4 (by decide) fl_X5_31 rfl dX5_nextBase_42 ?_
    refine x_ar b eb.symm ?_
    refine x_get (pc := 45) hc (cfS hb) kcX3 0 (by decide) fl_X5_122 rfl dX5_nextBase_45 ?_
    refine x_iconst (v := 1) (pc := 48) hc dX5_nextBase_48 (by decide) ?_
    refine x_as (nI 1) rfl ?_
    refine x_iald (pc := 49) hc (afS hb) (vp_in_nI (by omega) (by decide)) dX5_nextBase_49 ?_
    refine x_as (G (b + 1) 1) (congrArg _ (nI_clamp (by omega))) ?_
    refine x_as (aF A 304) (s1 1 (by omega)) ?_
    refine x_callSi (pc := 50) hc cl_X5_211 [.int (aF A d), .int x33, .int (aF A 304)] (m_X5_mended hI (kl K) G (aF A d) x33 (aF A 304)) rfl rfl (by simp [Value.category]) rfl rfl ⟨by decide, by decide⟩ dX5_nextBase_50 (fun r50 Gc50 q50 => ?_)
    obtain ⟨er50, eGc50⟩ := q50
    rw [eGc50]
    subst er50
    refine x_sipush (v := 1000) (pc := 53) hc dX5_nextBase_53 (by decide) ?_
    refine x_iadd (pc := 56) hc dX5_nextBase_56 ?_
    exact hret _ _ _ _ dX5_nextBase_57 ⟨(by
        subst ex33
        unfold qNext
        rw [if_neg c6, zd]), PC_same hR⟩
  · refine x_iconst (v := (-1)) (pc := 9) hc dX5_nextBase_9 (by decide) ?_
    exact hret _ _ _ _ dX5_nextBase_10 ⟨(by unfold qNext; rw [if_pos c6]), PC_same hR⟩
set_option maxHeartbeats 4000000 in
set_option maxRecDepth 100000 in
theorem C_ifMeasured {w : WT} (hI : xI w) (l : Launch) (G : GS) (x v : Int32) (A : AT) (B : Nat) (hR : RC G A) (hV : AV A B) (hZ : AZ A) (hB : B + 1 < 2 ^ 30) : Mi w l yX5_ifMeasured cX5_ifMeasured 5 (some .int) ⟨3, 0, 0, 73⟩ [.ref (w.2.2 0), .int x, .int v] G (fun v9 G' => v9 = qIf A x v ∧ PCq G G' A) := by
  refine mk_i (L0 := [(0, .ref (w.2.2 0)), (1, .int x), (2, .int v)]) hI (by decide +kernel) rfl (Nat.le_of_ble_eq_true rfl) (fun _ _ _ => rfl) (fun K hc hret => ?_)
  obtain ⟨b, eb⟩ : ∃ b, b = stb (G 0 4) := ⟨_, rfl⟩
  obtain ⟨h1, h2, h3, h4, h5, h6, h7, h8⟩ := id hR
  rw [← eb] at h2
  have hb : isB b := by rw [eb]; exact h1.1.2.2.2.2
  have hlb := isB_lt hb
  have hS0 := h2
  obtain ⟨s1, ⟨t4, t5, t6, t7, t8, t9, t10, t11, t12⟩, s3, s4, ⟨y1, y2, y3, y4⟩, so⟩ := h2
  have hRV := hV.2.1
  obtain ⟨⟨d1, d2⟩, ⟨v1, v2, v3⟩, ⟨r1, r2⟩, ho, ⟨c1, c2, c3⟩, hb4⟩ := id hRV
  have hd20 := Nat.le_of_lt d1
  have hn4 := hV.1
  have u4 : G b 4 = nI (cN (aF A)) := t4.trans c2
  have u5 : G b 5 = nI (yN (aF A)) := t5.trans v2
  have u6 : G b 6 = nI (dN (aF A)) := t6.trans d2
  refine x_iload_n (pc := 0) hc dX5_ifMeasured_0 1 rfl ?_
  refine x_iconst (v := 4) (pc := 1) hc dX5_ifMeasured_1 (by decide) ?_
  refine x_callSi (pc := 2) hc cl_X5_76 [.int x, .int 4] (m_X5_isIndex hI (kl K) G x 4) rfl rfl (by simp [Value.category]) rfl rfl ⟨by decide, by decide⟩ dX5_ifMeasured_2 (fun r2 Gc2 q2 => ?_)
  obtain ⟨er2, eGc2⟩ := q2
  rw [eGc2]
  subst er2
  refine x_as (inB x 0 3) (ix_b _ rfl) ?_
  refine x_if_ne (pc := 5) hc dX5_ifMeasured_5 10 (by decide) (fun c5 => ?_) (fun c5 => ?_)
  · obtain ⟨k, hk, rfl⟩ := inB_nat (n := 3) rfl c5
    have zk : (nI k).toNatClampNeg = k := nI_clamp (by omega)
    refine x_iload_n (pc := 10) hc dX5_ifMeasured_10 2 rfl ?_
    refine x_bipush (v := 40) (pc := 11) hc dX5_ifMeasured_11 (by decide) ?_
    refine x_callSi (pc := 13) hc cl_X5_42 [.int v, .int 40] (m_X5_isWithin hI (kl K) G v 40) rfl rfl (by simp [Value.category]) rfl rfl ⟨by decide, by decide⟩ dX5_ifMeasured_13 (fun r13 Gc13 q13 => ?_)
    obtain ⟨er13, eGc13⟩ := q13
    rw [eGc13]
    subst er13
    refine x_if_ne (pc := 16) hc dX5_ifMeasured_16 22 (by decide) (fun c16 => ?_) (fun c16 => ?_)
    · refine x_aload_n (pc := 22) hc dX5_ifMeasured_22 0 rfl ?_
      refine x_get (pc := 23) hc cfM kcX5 4 (by decide) fl_X5_31 rfl dX5_ifMeasured_23 ?_
      refine x_ar b eb.symm ?_
      refine x_get (pc := 26) hc (cfS hb) kcX3 3 (by decide) fl_X5_125 rfl dX5_ifMeasured_26 ?_
      refine x_iload_n (pc := 29) hc dX5_ifMeasured_29 1 rfl ?_
      refine x_aald (pc := 30) hc (rfR hb) rfl (vp_in_nI (by omega) (by decide)) (b + (35 + k)) (by rw [nI_clamp (by omega)]) dX5_ifMeasured_30 ?_
      refine x_astore_n (pc := 31) (L' := [(3, .ref (w.2.2 (b + (35 + k)))), (0, .ref (w.2.2 0)), (1, .int (nI k)), (2, .int v)]) hc dX5_ifMeasured_31 (by decide) rfl ?_
      refine x_aload_n (pc := 32) hc dX5_ifMeasured_32 1 rfl ?_
      refine x_get (pc := 33) hc cfM kcX5 4 (by decide) fl_X5_31 rfl dX5_ifMeasured_33 ?_
      refine x_ar b eb.symm ?_
      refine x_aload_n (pc := 36) hc dX5_ifMeasured_36 1 rfl ?_
      refine x_get (pc := 37) hc cfM kcX5 4 (by decide) fl_X5_31 rfl dX5_ifMeasured_37 ?_
      refine x_ar b eb.symm ?_
      refine x_aload_n (pc := 40) hc dX5_ifMeasured_40 1 rfl ?_
      refine x_get (pc := 41) hc cfM kcX5 4 (by decide) fl_X5_31 rfl dX5_ifMeasured_41 ?_
      refine x_ar b eb.symm ?_
      refine x_get (pc := 44) hc (cfS hb) kcX3 6 (by decide) fl_X5_79 rfl dX5_ifMeasured_44 ?_
      refine x_as (nI (dN (aF A))) u6 ?_
      refine x_callVi (pc := 47) hc cl_X5_152 (cfS hb) kcX3 [.int (nI (dN (aF A)))] (m_X3_foretoldOf hI (kl K) G (dN (aF A)) b (aF A) B hb hS0 hRV (by omega) d1) rfl rfl (by simp [Value.category]) rfl rfl ⟨by decide, by decide⟩ dX5_ifMeasured_47 (fun r47 Gc47 q47 => ?_)
      obtain ⟨er47, eGc47⟩ := q47
      rw [eGc47]
      subst er47
      refine x_as (rTold (aF A) (dN (aF A))) (by unfold rToldOf; rw [if_neg (by rw [d2]; exact Int32.lt_irrefl)]) ?_
      refine x_callVi (pc := 50) hc cl_X5_161 (cfS hb) kcX3 [.int (rTold (aF A) (dN (aF A)))] (m_X3_isFrostForetold hI (kl K) G b (rTold (aF A) (dN (aF A))) hb) rfl rfl (by simp [Value.category]) rfl rfl ⟨by decide, by decide⟩ dX5_ifMeasured_50 (fun r50 Gc50 q50 => ?_)
      obtain ⟨er50, eGc50⟩ := q50
      rw [eGc50]
      subst er50
      refine x_as (rT (aF A) (dN (aF A))) (congrArg (fun q => b01 (rTold (aF A) (dN (aF A)) ≤ q)) (s1 2 (by omega))) ?_
      refine x_nm (fun x53 ex53 => ?_)
      refine x_istore (pc := 53) (L' := [(4, .int x53), (3, .ref (w.2.2 (b + (35 + k)))), (0, .ref (w.2.2 0)), (1, .int (nI k)), (2, .int v)]) hc dX5_ifMeasured_53 (by decide) rfl ?_
      refine x_aload_n (pc := 55) hc dX5_ifMeasured_55 1 rfl ?_
      refine x_get (pc := 56) hc (cfD (isR_of hb (by omega))) kcX1 0 (by decide) fl_X5_134 rfl dX5_ifMeasured_56 ?_
      refine x_as (aF A (328 + 5 * k + 0)) (s4 k (by omega) 0 (by omega)) ?_
      refine x_aload_n (pc := 59) hc dX5_ifMeasured_59 1 rfl ?_
      refine x_get (pc := 60) hc (cfD (isR_of hb (by omega))) kcX1 1 (by decide) fl_X5_129 rfl dX5_ifMeasured_60 ?_
      refine x_as (aF A (328 + 5 * k + 1)) (s4 k (by omega) 1 (by omega)) ?_
      refine x_iadd (pc := 63) hc dX5_ifMeasured_63 ?_
      refine x_aload_n (pc := 64) hc dX5_ifMeasured_64 1 rfl ?_
      refine x_iload_n (pc := 65) hc dX5_ifMeasured_65 4 rfl ?_
      refine x_callSi (pc := 66) hc cl_X5_222 [.int v] (m_X5_isFrost hI (kl K) G v) rfl rfl (by simp [Value.category]) rfl rfl ⟨by decide, by decide⟩ dX5_ifMeasured_66 (fun r66 Gc66 q66 => ?_)
      obtain ⟨er66, eGc66⟩ := q66
      rw [eGc66]
      subst er66
      refine x_iload (pc := 69) hc dX5_ifMeasured_69 0 rfl ?_
      refine x_aload_n (pc := 71) hc dX5_ifMeasured_71 2 rfl ?_
      refine x_get (pc := 72) hc cfM kcX5 4 (by decide) fl_X5_31 rfl dX5_ifMeasured_72 ?_
      refine x_ar b eb.symm ?_
      refine x_get (pc := 75) hc (cfS hb) kcX3 0 (by decide) fl_X5_122 rfl dX5_ifMeasured_75 ?_
      refine x_iconst (v := 3) (pc := 78) hc dX5_ifMeasured_78 (by decide) ?_
      refine x_as (nI 3) rfl ?_
      refine x_iald (pc := 79) hc (afS hb) (vp_in_nI (by omega) (by decide)) dX5_ifMeasured_79 ?_
      refine x_as (G (b + 1) 3) (congrArg _ (nI_clamp (by omega))) ?_
      refine x_as (aF A 306) (s1 3 (by omega)) ?_
      refine x_callVi (pc := 80) hc cl_X5_225 (cfD (isR_of hb (by omega))) kcX1 [.int (b01 (v ≤ 0)), .int x53, .int (aF A 306)] (m_X1_winnings hI (kl K) G (b + (35 + k)) (b01 (v ≤ 0)) x53 (aF A 306) (isR_of hb (by omega))) rfl rfl (by simp [Value.category]) rfl rfl ⟨by decide, by decide⟩ dX5_ifMeasured_80 (fun r80 Gc80 q80 => ?_)
      obtain ⟨er80, eGc80⟩ := q80
      rw [eGc80]
      subst er80
      refine x_as (wiN (aF A (328 + 5 * k + 1)) (aF A (328 + 5 * k + 2)) (b01 (v ≤ 0)) x53 (aF A 306)) (by
        have q1 : G (b + (35 + k)) 1 = aF A (328 + 5 * k + 1) := s4 k (by omega) 1 (by omega)
        have q2 : G (b + (35 + k)) 2 = aF A (328 + 5 * k + 2) := s4 k (by omega) 2 (by omega)
        rw [q1, q2]) ?_
      refine x_iadd (pc := 83) hc dX5_ifMeasured_83 ?_
      exact hret _ _ _ _ dX5_ifMeasured_84 ⟨(by
          subst ex53
          unfold qIf
          rw [if_neg c5, if_neg c16, zk, qIf_eq (by omega) hRV (by omega)]
          all_goals rfl), PC_same hR⟩
    · refine x_bipush (v := (-2)) (pc := 19) hc dX5_ifMeasured_19 (by decide) ?_
      exact hret _ _ _ _ dX5_ifMeasured_21 ⟨(by unfold qIf; rw [if_neg c5, if_pos c16]), PC_same hR⟩
  · refine x_iconst (v := (-1)) (pc := 8) hc dX5_ifMeasured_8 (by decide) ?_
    exact hret _ _ _ _ dX5_ifMeasured_9 ⟨(by unfold qIf; rw [if_pos c5]), PC_same hR⟩
