/-! THE REST OF THE YEAR, AS FORETOLD -/
def nb (f : Nat → Int32) (i : Nat) : Int32 := bnd (f i + mean (nowM f) i (rN f) * f 304 / 100) + 1000
def NX (f D : Nat → Int32) (n : Nat) : Prop := ∀ i, i < n → D i = nb f i ∧ D (20 + i) = rToldOf f i + 1000
theorem NX_up {f D : Nat → Int32} {k : Nat} (h : NX f D k) (hk : k < 20) : NX f (upd (upd D k (nb f k)) (20 + k) (rToldOf f k + 1000)) (k + 1) := by
  intro i hi
  by_cases e : i = k
  · subst e
    exact ⟨by rw [upd_n _ _ (by omega), upd_s], upd_s _ _ _⟩
  · obtain ⟨h1, h2⟩ := h i (by omega)
    exact ⟨by rw [upd_n _ _ (by omega), upd_n _ _ (by omega)]; exact h1, by rw [upd_n _ _ (by omega), upd_n _ _ (by omega)]; exact h2⟩
/-- m days on, each as foretold -/
def NIn (f g : Nat → Int32) (m : Nat) : Prop := dN g = dN f + m ∧ g 300 = nI (dN f + m) ∧ g 301 = nI (yN f) ∧ (∀ i, i < 20 → g i = f i) ∧ (∀ i, 303 ≤ i → i < 328 → g i = f i) ∧ (∀ j, j < 20 → nowM g j = nowM f j) ∧ (cN f = 0 → ∀ j, j < dN f + m → g (20 + j) = rToldOf f j)
def NFin (f g : Nat → Int32) : Prop := g 301 = nI (yN f + 1) ∧ 0 < kN g ∧ (∀ k, k < 20 → g k + 1000 = nb f k) ∧ (cN f = 0 → ∀ k, k < 20 → g (60 + k) - g (80 + k) = rToldOf f k)
def NR (f g : Nat → Int32) (m : Nat) : Prop := (dN f + m < 20 → NIn f g m) ∧ (dN f + m = 20 → NFin f g)
theorem NIn_0 {f : Nat → Int32} {B : Nat} (hV : RV f B) : NIn f f 0 := ⟨rfl, hV.1.2, hV.2.1.2.1, fun _ _ => rfl, fun _ _ _ => rfl, fun _ _ => rfl, fun _ j hj => by
  unfold rToldOf
  rw [if_pos (by rw [hV.1.2]; exact nI_lt (by omega) (by have := hV.1.1; omega))]⟩
theorem NIn_told {f g : Nat → Int32} {B m : Nat} (hV : RV f B) (h : NIn f g m) (hm : dN f + m < 20) (hc : cN f = 0) : rTold g (dN g) = rToldOf f (dN g) := by
  obtain ⟨h1, h2, h3, h4, h5, h6, h7⟩ := h
  unfold rToldOf
  rw [if_neg (by rw [hV.1.2]; exact nI_nlt (by omega) (by omega))]
  unfold rTold
  have e1 : (g 307).toNatClampNeg = 0 := by rw [h5 307 (by omega) (by omega)]; exact hc
  have e2 : (f 307).toNatClampNeg = 0 := hc
  rw [e1, e2]
  show bnd (g (dN g)) = bnd (f (dN g))
  rw [h4 (dN g) (by omega)]
theorem i32_vv (a : Int32) : a - a = 0 := Int32.sub_self a
theorem NR_step {f g : Nat → Int32} {B B' m : Nat} (hV : RV f B) (hW : RV g B') (hB : B' + 1 < 2 ^ 31) (hy : yN f < 2 ^ 30) (h : NIn f g m) (hm : dN f + m < 20) : NR f (rMeas g (rTold g (dN g)) (dN g) (rN g)) (m + 1) := by
  have hd := hW.1.1
  have ht := NIn_told hV h hm
  obtain ⟨h1, h2, h3, h4, h5, h6, h7⟩ := h
  refine ⟨fun hlt => ?_, fun heq => ?_⟩
  · have e19 : ¬ dN g = 19 := by omega
    have eM : rMeas g (rTold g (dN g)) (dN g) (rN g) = rGo g (rTold g (dN g)) (dN g) := by
      unfold rMeas
      rw [if_neg (by omega)]
    rw [eM]
    have e300 := rGo_300 g (rTold g (dN g)) (dN g)
    have eD : dN (rGo g (rTold g (dN g)) (dN g)) = dN g + 1 := dN_eq e300 (by omega)
    refine ⟨by rw [eD]; omega, by rw [e300, h1]; rfl, by rw [rGo_mid g _ hd (by omega) (by omega)]; exact h3, fun i hi => ?_, fun i u1 u2 => ?_, fun j hj => ?_, fun hc j hj => ?_⟩
    · rw [rGo_lo g _ (by omega), upd_n _ _ (by omega), upd_n _ _ (by omega)]
      exact h4 i hi
    · rw [rGo_mid g _ hd (by omega) (by omega)]
      exact h5 i u1 u2
    · rw [← h6 j hj]
      unfold nowM
      rw [eD, rGo_lo g _ (by omega), rGo_lo g _ (by omega)]
      by_cases e : j = dN g
      · rw [if_pos (by omega), if_neg (by omega), e, upd_s, upd_n _ _ (by omega), upd_s, i32_vv]
      · by_cases e2 : j < dN g
        · rw [if_pos (by omega), if_pos e2, upd_n _ _ (by omega), upd_n _ _ (by omega), upd_n _ _ (by omega), upd_n _ _ (by omega)]
        · rw [if_neg (by omega), if_neg e2]
    · rw [rGo_lo g _ (by omega), upd_n _ _ (by omega)]
      by_cases e : j = dN g
      · rw [e, upd_s]
        exact ht hc
      · rw [upd_n _ _ (by omega)]
        exact h7 hc j (by omega)
  · have e19 : dN g = 19 := by omega
    refine ⟨?_, ?_, fun k hk => ?_, fun hc k hk => ?_⟩
    · rw [rG_301 hW, if_pos e19, h3]
      exact nI_1 _
    · unfold rMeas kN
      rw [if_pos (by omega), yN_end hW hB]
      omega
    · rw [rG_end hW e19 hk, h4 k hk, h5 304 (by omega) (by omega)]
      have er : rN g = rN f := by unfold rN; rw [h5 303 (by omega) (by omega)]
      rw [er, mean_congr (m := lastM g (rTold g (dN g))) (m' := nowM f) k (rN f) (fun j hj => ?_)]
      · rfl
      · rw [← h6 j hj]
        unfold lastM
        by_cases e : j < 19
        · rw [if_pos e]
        · rw [if_neg e, e19, i32_vv]
          unfold nowM
          rw [if_neg (by omega)]
    · rw [rG_past hW e19 hk]
      by_cases e : k = dN g
      · rw [if_pos e, e]
        exact ht hc
      · rw [if_neg e]
        exact h7 hc k (by omega)
theorem NR_out {f g : Nat → Int32} {m : Nat} (hm : dN f + m ≤ 20) (h : NR f g m) (hn : g 301 ≠ nI (yN f)) : dN f + m = 20 := by
  by_cases e : dN f + m = 20
  · exact e
  · exact absurd (h.1 (by omega)).2.2.1 hn
theorem NR_in {f g : Nat → Int32} {m : Nat} (hy : yN f < 2 ^ 30) (hm : dN f + m ≤ 20) (h : NR f g m) (hn : g 301 = nI (yN f)) : dN f + m < 20 := by
  by_cases e : dN f + m = 20
  · have h2 := (h.2 e).1
    rw [hn] at h2
    have := (nI_eq (by omega) (by omega)).mp h2
    omega
  · omega
theorem meas_0 (A : AT) : qMeasure A (rTold (aF A) (dN (aF A))) = 1000 := by
  rw [meas_q (inR_told _ _), i32_vv]
  rfl
theorem plain_eq {c : Nat} (h : c ≤ 5) : (if nI c = 0 then (1 : Int32) else 0) = b01 (c = 0) := by
  have l : (nI c = 0) ↔ c = 0 := nI_eq (a := c) (b := 0) (by omega) (by omega)
  unfold b01
  by_cases e : c = 0
  · rw [if_pos (l.mpr e), if_pos e]
  · rw [if_neg (fun z => e (l.mp z)), if_neg e]
theorem rest_q {A : AT} (h : aK A = 1) : qRestore A = aS A 353 := by
  unfold qRestore
  rw [if_neg (by rw [h]; decide)]
theorem tMeas_KS (A : AT) (v : Int32) : aK (tMeasure A v) = aK A ∧ aS (tMeasure A v) = aS A := by
  unfold tMeasure
  split
  · exact ⟨rfl, rfl⟩
  · exact ⟨rfl, rfl⟩
set_option maxHeartbeats 4000000 in
set_option maxRecDepth 100000 in
theorem l_isNext {w : WT} (hI : xI w) (l : Launch) (A : AT) (D : Nat → Int32) (B : Nat) (hG : LG A B) (hB9 : B + 200000 < 2 ^ 30) : LMi w l yL_isNext cL_isNext 6 (some .boolean) ⟨7, 0, 0, 162⟩ [.ref (w.2.2 0), .ref (w.2.2 239)] A D (fun r A' D' => r = 1 ∧ LG A' (B + 200000)) := by
  refine mk_l (L0 := [(0, .ref (w.2.2 0)), (1, .ref (w.2.2 239))]) hI (by decide +kernel) rfl (Nat.le_of_ble_eq_true rfl) (fun v A9 D9 h => by rw [h.1]; rfl) (fun K hc hret => ?_)
  have hV := hG.1.1
  have hZ := hG.1.2
  have hB : B + 1 < 2 ^ 30 := by omega
  refine l_aload_n (pc := 0) hc dL_isNext_0 0 rfl ?_
  refine l_q (pc := 1) (A' := (tKeep A )) hc cl_L_52 rfl [] (fun G hG9 => C_keep hI (kl K) G  A B hG9 hV hZ hB) rfl rfl (by simp [Value.category]) rfl rfl ⟨by decide, by decide⟩ dL_isNext_1 ?_
  refine l_An (fun A1 eA1 => ?_)
  have hG1 : LG A1 (B + 7000) := by rw [eA1]; exact LG_keep hG
  have hV1 := hG1.1.1
  have hZ1 := hG1.1.2
  obtain ⟨hd, e300⟩ := hV1.2.1.1
  obtain ⟨hyB, e301, e302⟩ := hV1.2.1.2.1
  obtain ⟨hr9, e303⟩ := hV1.2.1.2.2.1
  obtain ⟨hc5, e307, hfe⟩ := hV1.2.1.2.2.2.2.1
  have hk4 := kN4 (aF A1)
  have hK1 : aK A1 = 1 := by rw [eA1]; rfl
  have hS1 : aS A1 = aF A1 := by rw [eA1]; rfl
  have hB1 : B + 7000 + 1 < 2 ^ 30 := by omega
  refine l_as (aF A1 353) (by rw [eA1]; rfl) ?_
  refine l_istore_n (pc := 4) (L' := [(2, .int (aF A1 353)), (0, .ref (w.2.2 0)), (1, .ref (w.2.2 239))]) hc dL_isNext_4 (by decide) rfl ?_
  refine l_aload_n (pc := 5) hc dL_isNext_5 1 rfl ?_
  refine l_iconst (v := 0) (pc := 6) hc dL_isNext_6 (by decide) ?_
  refine l_q (pc := 7) hc cl_L_8 rfl [.int 0] (fun G hG9 => C_count hI (kl K) G 0 A1 (B + 7000) hG9 hV1 hZ1 hB1) rfl rfl (by simp [Value.category]) rfl rfl ⟨by decide, by decide⟩ dL_isNext_7 ?_
  refine l_as (nI (yN (aF A1))) ((qc_0 A1).trans e301) ?_
  refine l_istore_n (pc := 10) (L' := [(3, .int (nI (yN (aF A1)))), (2, .int (aF A1 353)), (0, .ref (w.2.2 0)), (1, .ref (w.2.2 239))]) hc dL_isNext_10 (by decide) rfl ?_
  refine l_iconst (v := 0) (pc := 11) hc dL_isNext_11 (by decide) ?_
  refine l_istore (pc := 12) (L' := [(4, .int 0), (3, .int (nI (yN (aF A1)))), (2, .int (aF A1 353)), (0, .ref (w.2.2 0)), (1, .ref (w.2.2 239))]) hc dL_isNext_12 (by decide) rfl ?_
  have loop14 : ∀ (n14 : Nat) (k : Nat) (Dx : Nat → Int32), k ≤ 20 → 21 ≤ k + n14 → NX (aF A1) Dx k → LX w K 6 A1 Dx 14 [(4, .int (nI k)), (3, .int (nI (yN (aF A1)))), (2, .int (aF A1 353)), (1, .ref (w.2.2 239)), (0, .ref (w.2.2 0))] [] := by
    intro n14
    induction n14 with
    | zero => intro k Dx hk hn hX; omega
    | succ n14 ih14 =>
      intro k Dx hk hn hX
      refine l_iload (pc := 14) hc dL_isNext_14 0 rfl ?_
      refine l_bipush (v := 20) (pc := 16) hc dL_isNext_16 (by decide) ?_
      refine l_icmp_ge (pc := 18) hc dL_isNext_18 51 (by decide) (fun c18 => ?_) (fun c18 => ?_)
      · have oc18 := c18
        have c18 : 20 ≤ k := (nI_leI (a := 20) (b := k) (by omega) (by omega)).mp c18
        refine l_aload_n (pc := 51) hc dL_isNext_51 4 rfl ?_
        refine l_iconst (v := 3) (pc := 52) hc dL_isNext_52 (by decide) ?_
        refine l_q (pc := 53) hc cl_L_8 rfl [.int 3] (fun G hG9 => C_count hI (kl K) G 3 A1 (B + 7000) hG9 hV1 hZ1 hB1) rfl rfl (by simp [Value.category]) rfl rfl ⟨by decide, by decide⟩ dL_isNext_53 ?_
        refine l_as (nI (cN (aF A1))) ((qc_3 A1).trans e307) ?_
        have j64 : ∀ v64 : Int32, v64 = (if (nI (cN (aF A1))) = 0 then 1 else 0) → LX w K 6 A1 Dx 64 [(4, .int (nI k)), (3, .int (nI (yN (aF A1)))), (2, .int (aF A1 353)), (1, .ref (w.2.2 239)), (0, .ref (w.2.2 0))] [.int v64] := by
          intro v64 hv64
          refine l_as (b01 (cN (aF A1) = 0)) (hv64.trans (plain_eq (by omega))) ?_
          refine l_istore (pc := 64) (L' := [(4, .int (b01 (cN (aF A1) = 0))), (3, .int (nI (yN (aF A1)))), (2, .int (aF A1 353)), (1, .ref (w.2.2 239)), (0, .ref (w.2.2 0))]) hc dL_isNext_64 (by decide) rfl ?_
          have loop66 : ∀ (n66 : Nat) (Am : AT) (m : Nat), dN (aF A1) + m ≤ 20 → 21 ≤ dN (aF A1) + m + n66 → LG Am (B + 7000 + 7000 * m) → (aK Am = 1 ∧ aS Am = aF A1) → NR (aF A1) (aF Am) m → LX w K 6 Am Dx 66 [(4, .int (b01 (cN (aF A1) = 0))), (3, .int (nI (yN (aF A1)))), (2, .int (aF A1 353)), (1, .ref (w.2.2 239)), (0, .ref (w.2.2 0))] [] := by
            intro n66
            induction n66 with
            | zero => intro Am m hm hmn hGm hKm hNm; omega
            | succ n66 ih66 =>
              intro Am m hm hmn hGm hKm hNm
              have hBm : B + 7000 + 7000 * m + 1 < 2 ^ 30 := by omega
              refine l_aload_n (pc := 66) hc dL_isNext_66 4 rfl ?_
              refine l_iconst (v := 0) (pc := 67) hc dL_isNext_67 (by decide) ?_
              refine l_q (pc := 68) hc cl_L_8 rfl [.int 0] (fun G hG9 => C_count hI (kl K) G 0 Am (B + 7000 + 7000 * m) hG9 hGm.1.1 hGm.1.2 hBm) rfl rfl (by simp [Value.category]) rfl rfl ⟨by decide, by decide⟩ dL_isNext_68 ?_
              refine l_as (aF Am 301) (qc_0 Am) ?_
              refine l_iload_n (pc := 71) hc dL_isNext_71 1 rfl ?_
              refine l_icmp_ne (pc := 72) hc dL_isNext_72 108 (by decide) (fun c72 => ?_) (fun c72 => ?_)
              · have h20 := NR_out hm hNm c72
                have hF := hNm.2 h20
                have hkm : 0 < kN (aF Am) := hF.2.1
                refine l_iconst (v := 0) (pc := 108) hc dL_isNext_108 (by decide) ?_
                refine l_istore (pc := 109) (L' := [(5, .int 0), (4, .int (b01 (cN (aF A1) = 0))), (3, .int (nI (yN (aF A1)))), (2, .int (aF A1 353)), (1, .ref (w.2.2 239)), (0, .ref (w.2.2 0))]) hc dL_isNext_109 (by decide) rfl ?_
                have loop111 : ∀ (n111 : Nat) (k5 : Nat), k5 ≤ 20 → 21 ≤ k5 + n111 → LX w K 6 Am Dx 111 [(5, .int (nI k5)), (4, .int (b01 (cN (aF A1) = 0))), (3, .int (nI (yN (aF A1)))), (2, .int (aF A1 353)), (1, .ref (w.2.2 239)), (0, .ref (w.2.2 0))] [] := by
                  intro n111
                  induction n111 with
                  | zero => intro k5 hk5 hn5; omega
                  | succ n111 ih111 =>
                    intro k5 hk5 hn5
                    refine l_iload (pc := 111) hc dL_isNext_111 0 rfl ?_
                    refine l_bipush (v := 20) (pc := 113) hc dL_isNext_113 (by decide) ?_
                    refine l_icmp_ge (pc := 115) hc dL_isNext_115 176 (by decide) (fun c115 => ?_) (fun c115 => ?_)
                    · have oc115 := c115
                      have c115 : 20 ≤ k5 := (nI_leI (a := 20) (b := k5) (by omega) (by omega)).mp c115
                      refine l_aload_n (pc := 176) hc dL_isNext_176 5 rfl ?_
                      refine l_q (pc := 177) (A' := (tRestore Am )) hc cl_L_58 rfl [] (fun G hG9 => C_restore hI (kl K) G  Am (B + 7000 + 7000 * m) hG9 hGm.1.1 hGm.1.2 hBm) rfl rfl (by simp [Value.category]) rfl rfl ⟨by decide, by decide⟩ dL_isNext_177 ?_
                      refine l_An (fun A3 eA3 => ?_)
                      have hG3 : LG A3 (B + 7000 + 7000 * m + 7000) := by rw [eA3]; exact LG_restore hGm hKm.1 (by rw [hKm.2]; exact hG1.2)
                      refine l_as (aF A1 353) ((rest_q hKm.1).trans (by rw [hKm.2])) ?_
                      refine l_iload_n (pc := 180) hc dL_isNext_180 3 rfl ?_
                      refine l_icmp_ne (pc := 181) hc dL_isNext_181 188 (by decide) (fun c181 => ?_) (fun c181 => ?_)
                      · exact absurd rfl c181
                      · refine l_iconst (v := 1) (pc := 184) hc dL_isNext_184 (by decide) ?_
                        refine l_goto (pc := 185) hc dL_isNext_185 189 (by decide) ?_
                        exact hret _ _ _ _ _ dL_isNext_189 ⟨rfl, LG_mono (by omega) hG3⟩
                    · have oc115 := c115
                      have c115 : ¬ 20 ≤ k5 := fun h9 => c115 ((nI_leI (a := 20) (b := k5) (by omega) (by omega)).mpr h9)
                      refine l_aload_n (pc := 118) hc dL_isNext_118 5 rfl ?_
                      refine l_iload (pc := 119) hc dL_isNext_119 0 rfl ?_
                      refine l_iconst (v := 0) (pc := 121) hc dL_isNext_121 (by decide) ?_
                      refine l_q (pc := 122) hc cl_L_14 rfl [.int (nI k5), .int 0] (fun G hG9 => C_dayOf hI (kl K) G (nI k5) 0 Am (B + 7000 + 7000 * m) hG9 hGm.1.1 hGm.1.2 hBm) rfl rfl (by simp [Value.category]) rfl rfl ⟨by decide, by decide⟩ dL_isNext_122 ?_
                      refine l_as (aF Am k5 + 1000) (qd_0 Am (d := k5) (by omega)) ?_
                      refine l_as (nb (aF A1) k5) (hF.2.2.1 k5 (by omega)) ?_
                      refine l_aload_n (pc := 125) hc dL_isNext_125 4 rfl ?_
                      refine l_iload (pc := 126) hc dL_isNext_126 0 rfl ?_
                      refine l_iald (pc := 128) hc (vp_in_nI (by omega) (by decide)) dL_isNext_128 ?_
                      refine l_as (Dx k5) (congrArg _ (nI_clamp (by omega))) ?_
                      refine l_as (nb (aF A1) k5) (hX k5 (by omega)).1 ?_
                      refine l_icmp_ne (pc := 129) hc dL_isNext_129 168 (by decide) (fun c129 => ?_) (fun c129 => ?_)
                      · exact absurd rfl c129
                      · refine l_iload (pc := 132) hc dL_isNext_132 1 rfl ?_
                        refine l_if_eq (pc := 134) hc dL_isNext_134 170 (by decide) (fun c134 => ?_) (fun c134 => ?_)
                        · refine l_iinc (pc := 170) (L' := [(5, .int (nI (k5 + 1))), (4, .int (b01 (cN (aF A1) = 0))), (3, .int (nI (yN (aF A1)))), (2, .int (aF A1 353)), (1, .ref (w.2.2 239)), (0, .ref (w.2.2 0))]) hc dL_isNext_170 0 rfl (nI (k5 + 1)) (nI_1 _) (by decide) rfl ?_
                          refine l_goto (pc := 173) hc dL_isNext_173 111 (by decide) ?_
                          refine l_loc [0, 1, 2, 3, 4, 5] rfl ?_
                          exact ih111 (k5 + 1) (by omega) (by omega)
                        · have hpl : cN (aF A1) = 0 := b01_f c134
                          refine l_aload_n (pc := 137) hc dL_isNext_137 5 rfl ?_
                          refine l_iconst (v := 0) (pc := 138) hc dL_isNext_138 (by decide) ?_
                          refine l_iload (pc := 139) hc dL_isNext_139 0 rfl ?_
                          refine l_iconst (v := 0) (pc := 141) hc dL_isNext_141 (by decide) ?_
                          refine l_q (pc := 142) hc cl_L_29 rfl [.int 0, .int (nI k5), .int 0] (fun G hG9 => C_past hI (kl K) G 0 (nI k5) 0 Am (B + 7000 + 7000 * m) hG9 hGm.1.1 hGm.1.2 hBm) rfl rfl (by simp [Value.category]) rfl rfl ⟨by decide, by decide⟩ dL_isNext_142 ?_
                          refine l_as (aF Am (60 + k5) + 1000) (qp0_0 Am (d := k5) (by omega) (by omega)) ?_
                          refine l_aload_n (pc := 145) hc dL_isNext_145 5 rfl ?_
                          refine l_iconst (v := 0) (pc := 146) hc dL_isNext_146 (by decide) ?_
                          refine l_iload (pc := 147) hc dL_isNext_147 0 rfl ?_
                          refine l_iconst (v := 1) (pc := 149) hc dL_isNext_149 (by decide) ?_
                          refine l_q (pc := 150) hc cl_L_29 rfl [.int 0, .int (nI k5), .int 1] (fun G hG9 => C_past hI (kl K) G 0 (nI k5) 1 Am (B + 7000 + 7000 * m) hG9 hGm.1.1 hGm.1.2 hBm) rfl rfl (by simp [Value.category]) rfl rfl ⟨by decide, by decide⟩ dL_isNext_150 ?_
                          refine l_as (aF Am (80 + k5) + 1000) (qp0_1 Am (d := k5) (by omega) (by omega)) ?_
                          refine l_isub (pc := 153) hc dL_isNext_153 ?_
                          refine l_as (aF Am (60 + k5) - aF Am (80 + k5)) (i32_cc _ _ _) ?_
                          refine l_sipush (v := 1000) (pc := 154) hc dL_isNext_154 (by decide) ?_
                          refine l_iadd (pc := 157) hc dL_isNext_157 ?_
                          refine l_as (rToldOf (aF A1) k5 + 1000) (congrArg (· + 1000) (hF.2.2.2 hpl k5 (by omega))) ?_
                          refine l_aload_n (pc := 158) hc dL_isNext_158 4 rfl ?_
                          refine l_bipush (v := 20) (pc := 159) hc dL_isNext_159 (by decide) ?_
                          refine l_iload (pc := 161) hc dL_isNext_161 0 rfl ?_
                          refine l_iadd (pc := 163) hc dL_isNext_163 ?_
                          refine l_as (nI (20 + k5)) (nI_add _ _) ?_
                          refine l_iald (pc := 164) hc (vp_in_nI (by omega) (by decide)) dL_isNext_164 ?_
                          refine l_as (Dx (20 + k5)) (congrArg _ (nI_clamp (by omega))) ?_
                          refine l_as (rToldOf (aF A1) k5 + 1000) (hX k5 (by omega)).2 ?_
                          refine l_icmp_eq (pc := 165) hc dL_isNext_165 170 (by decide) (fun c165 => ?_) (fun c165 => ?_)
                          · refine l_iinc (pc := 170) (L' := [(5, .int (nI (k5 + 1))), (4, .int (b01 (cN (aF A1) = 0))), (3, .int (nI (yN (aF A1)))), (2, .int (aF A1 353)), (1, .ref (w.2.2 239)), (0, .ref (w.2.2 0))]) hc dL_isNext_170 0 rfl (nI (k5 + 1)) (nI_1 _) (by decide) rfl ?_
                            refine l_goto (pc := 173) hc dL_isNext_173 111 (by decide) ?_
                            refine l_loc [0, 1, 2, 3, 4, 5] rfl ?_
                            exact ih111 (k5 + 1) (by omega) (by omega)
                          · exact absurd rfl c165
                refine l_loc [0, 1, 2, 3, 4, 5] rfl ?_
                exact loop111 21 0 (by omega) (by omega)
              · have h20 := NR_in (by omega) hm hNm c72
                refine l_aload_n (pc := 75) hc dL_isNext_75 4 rfl ?_
                refine l_aload_n (pc := 76) hc dL_isNext_76 4 rfl ?_
                refine l_iconst (v := 1) (pc := 77) hc dL_isNext_77 (by decide) ?_
                refine l_q (pc := 78) hc cl_L_8 rfl [.int 1] (fun G hG9 => C_count hI (kl K) G 1 Am (B + 7000 + 7000 * m) hG9 hGm.1.1 hGm.1.2 hBm) rfl rfl (by simp [Value.category]) rfl rfl ⟨by decide, by decide⟩ dL_isNext_78 ?_
                refine l_as (nI (dN (aF A1) + m)) ((qc_1 Am).trans (hNm.1 h20).2.1) ?_
                refine l_iconst (v := 1) (pc := 81) hc dL_isNext_81 (by decide) ?_
                refine l_q (pc := 82) hc cl_L_14 rfl [.int (nI (dN (aF A1) + m)), .int 1] (fun G hG9 => C_dayOf hI (kl K) G (nI (dN (aF A1) + m)) 1 Am (B + 7000 + 7000 * m) hG9 hGm.1.1 hGm.1.2 hBm) rfl rfl (by simp [Value.category]) rfl rfl ⟨by decide, by decide⟩ dL_isNext_82 ?_
                refine l_as (rToldOf (aF Am) (dN (aF A1) + m) + 1000) (qd_1 Am (d := dN (aF A1) + m) (by omega)) ?_
                refine l_sipush (v := 1000) (pc := 85) hc dL_isNext_85 (by decide) ?_
                refine l_isub (pc := 88) hc dL_isNext_88 ?_
                refine l_as (rToldOf (aF Am) (dN (aF A1) + m)) (i32_ac _ _) ?_
                refine l_as (rTold (aF Am) (dN (aF Am))) (by rw [← (hNm.1 h20).1]; exact told_n hGm.1.1 (by have := (hNm.1 h20).1; omega) (by omega)) ?_
                refine l_istore (pc := 89) (L' := [(5, .int (rTold (aF Am) (dN (aF Am)))), (4, .int (b01 (cN (aF A1) = 0))), (3, .int (nI (yN (aF A1)))), (2, .int (aF A1 353)), (1, .ref (w.2.2 239)), (0, .ref (w.2.2 0))]) hc dL_isNext_89 (by decide) rfl ?_
                refine l_aload_n (pc := 91) hc dL_isNext_91 5 rfl ?_
                refine l_iload (pc := 92) hc dL_isNext_92 0 rfl ?_
                refine l_q (pc := 94) (A' := (tMeasure Am (rTold (aF Am) (dN (aF Am))))) hc cl_L_49 rfl [.int (rTold (aF Am) (dN (aF Am)))] (fun G hG9 => C_measure hI (kl K) G (rTold (aF Am) (dN (aF Am))) Am (B + 7000 + 7000 * m) hG9 hGm.1.1 hGm.1.2 hBm) rfl rfl (by simp [Value.category]) rfl rfl ⟨by decide, by decide⟩ dL_isNext_94 ?_
                refine l_An (fun A2 eA2 => ?_)
                have hG2 : LG A2 (B + 7000 + 7000 * (m + 1)) := by rw [eA2]; exact LG_mono (by omega) (LG_measure (by omega) hGm _)
                have hK2 : aK A2 = 1 ∧ aS A2 = aF A1 := by rw [eA2]; exact ⟨(tMeas_KS Am _).1.trans hKm.1, (tMeas_KS Am _).2.trans hKm.2⟩
                have hN2 : NR (aF A1) (aF A2) (m + 1) := by rw [eA2, meas_f (inR_told _ _)]; exact NR_step hV1.2.1 hGm.1.1.2.1 (by omega) (by omega) (hNm.1 h20) h20
                refine l_as 1000 (meas_0 Am) ?_
                refine l_sipush (v := 1000) (pc := 97) hc dL_isNext_97 (by decide) ?_
                refine l_icmp_eq (pc := 100) hc dL_isNext_100 105 (by decide) (fun c100 => ?_) (fun c100 => ?_)
                · refine l_goto (pc := 105) hc dL_isNext_105 66 (by decide) ?_
                  refine l_loc [1, 2, 3, 4, 5] rfl ?_
                  exact ih66 A2 (m + 1) (by omega) (by omega) hG2 hK2 hN2
                · exact absurd (by decide) c100
          refine l_loc [0, 1, 2, 3, 4] rfl ?_
          exact loop66 21 A1 0 (by omega) (by omega) hG1 ⟨hK1, hS1⟩ ⟨fun _ => NIn_0 hV1.2.1, fun h => absurd h (by omega)⟩
        refine l_if_ne (pc := 56) hc dL_isNext_56 63 (by decide) (fun c56 => ?_) (fun c56 => ?_)
        · have oc56 := c56
          have c56 : ¬ cN (aF A1) = 0 := fun h9 => c56 ((nI_eq (a := cN (aF A1)) (b := 0) (by omega) (by omega)).mpr h9)
          refine l_iconst (v := 0) (pc := 63) hc dL_isNext_63 (by decide) ?_
          exact j64 _ (by rw [if_neg oc56])
        · have oc56 := c56
          have c56 : cN (aF A1) = 0 := (nI_eq (a := cN (aF A1)) (b := 0) (by omega) (by omega)).mp c56
          refine l_iconst (v := 1) (pc := 59) hc dL_isNext_59 (by decide) ?_
          refine l_goto (pc := 60) hc dL_isNext_60 64 (by decide) ?_
          exact j64 _ (by rw [if_pos oc56])
      · have oc18 := c18
        have c18 : ¬ 20 ≤ k := fun h9 => c18 ((nI_leI (a := 20) (b := k) (by omega) (by omega)).mpr h9)
        refine l_aload_n (pc := 21) hc dL_isNext_21 3 rfl ?_
        refine l_iload (pc := 22) hc dL_isNext_22 0 rfl ?_
        refine l_aload_n (pc := 24) hc dL_isNext_24 4 rfl ?_
        refine l_iload (pc := 25) hc dL_isNext_25 0 rfl ?_
        refine l_q (pc := 27) hc cl_L_56 rfl [.int (nI k)] (fun G hG9 => C_nextBase hI (kl K) G (nI k) A1 (B + 7000) hG9 hV1 hZ1 hB1) rfl rfl (by simp [Value.category]) rfl rfl ⟨by decide, by decide⟩ dL_isNext_27 ?_
        refine l_as (bnd (aF A1 k + mean (nowM (aF A1)) k (rN (aF A1)) * aF A1 304 / 100) + 1000) (qn_d A1 (by omega)) ?_
        refine l_as (nb (aF A1) k) rfl ?_
        refine l_iast (pc := 30) hc hV1 (vp_in_nI (by omega) (by decide)) dL_isNext_30 ?_
        refine l_D (congrArg (fun q => upd Dx q (nb (aF A1) k)) (nI_clamp (by omega))) ?_
        refine l_Dn (fun D1 eD1 => ?_)
        refine l_aload_n (pc := 31) hc dL_isNext_31 3 rfl ?_
        refine l_bipush (v := 20) (pc := 32) hc dL_isNext_32 (by decide) ?_
        refine l_iload (pc := 34) hc dL_isNext_34 0 rfl ?_
        refine l_iadd (pc := 36) hc dL_isNext_36 ?_
        refine l_as (nI (20 + k)) (nI_add _ _) ?_
        refine l_aload_n (pc := 37) hc dL_isNext_37 4 rfl ?_
        refine l_iload (pc := 38) hc dL_isNext_38 0 rfl ?_
        refine l_iconst (v := 1) (pc := 40) hc dL_isNext_40 (by decide) ?_
        refine l_q (pc := 41) hc cl_L_14 rfl [.int (nI k), .int 1] (fun G hG9 => C_dayOf hI (kl K) G (nI k) 1 A1 (B + 7000) hG9 hV1 hZ1 hB1) rfl rfl (by simp [Value.category]) rfl rfl ⟨by decide, by decide⟩ dL_isNext_41 ?_
        refine l_as (rToldOf (aF A1) k + 1000) (qd_1 A1 (d := k) (by omega)) ?_
        refine l_iast (pc := 44) hc hV1 (vp_in_nI (by omega) (by decide)) dL_isNext_44 ?_
        refine l_D (congrArg (fun q => upd D1 q (rToldOf (aF A1) k + 1000)) (nI_clamp (by omega))) ?_
        refine l_Dn (fun D2 eD2 => ?_)
        refine l_iinc (pc := 45) (L' := [(4, .int (nI (k + 1))), (3, .int (nI (yN (aF A1)))), (2, .int (aF A1 353)), (1, .ref (w.2.2 239)), (0, .ref (w.2.2 0))]) hc dL_isNext_45 0 rfl (nI (k + 1)) (nI_1 _) (by decide) rfl ?_
        refine l_goto (pc := 48) hc dL_isNext_48 14 (by decide) ?_
        refine l_loc [0, 1, 2, 3, 4] rfl ?_
        exact ih14 (k + 1) D2 (by omega) (by omega) (by rw [eD2, eD1]; exact NX_up hX (by omega))
  refine l_loc [0, 1, 2, 4, 3] rfl ?_
  exact loop14 21 0 D (by omega) (by omega) (fun i h => absurd h (by omega))
