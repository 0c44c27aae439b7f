/-! GOOD ROWS ARE KEPT -/
theorem LF_same {f f' : Nat → Int32} (hd : dN f < 20) (h : ∀ i, 20 ≤ i → i < 302 → f' i = f i) (hf : LF f) : LF f' := by
  have e1 : dN f' = dN f := by unfold dN; rw [h 300 (by omega) (by omega)]
  have e2 : kN f' = kN f := by unfold kN yN; rw [h 301 (by omega) (by omega)]
  refine ⟨fun d hd2 => ?_, fun a ha j hj => ?_⟩
  · rw [e1] at hd2
    rw [h _ (by omega) (by omega), h _ (by omega) (by omega)]
    exact hf.1 d hd2
  · rw [e2] at ha
    have := kN4 f
    rw [h _ (by omega) (by omega), h _ (by omega) (by omega)]
    exact hf.2 a ha j hj
theorem rGo_rng {f : Nat → Int32} {v : Int32} {d : Nat} (hd : d < 20) (hf : ∀ j, j < d → inR (f (40 + j)) ∧ inR (f (20 + j))) (hv : inR v) : ∀ j, j < d + 1 → inR (rGo f v d (40 + j)) ∧ inR (rGo f v d (20 + j)) := by
  intro j hj
  rw [rGo_lo f v (by omega), rGo_lo f v (by omega)]
  by_cases e : j = d
  · subst e
    rw [upd_s, upd_n _ _ (by omega), upd_s]
    exact ⟨hv, inR_told f j⟩
  · rw [upd_n _ _ (by omega), upd_n _ _ (by omega), upd_n _ _ (by omega), upd_n _ _ (by omega)]
    exact hf j (by omega)
theorem rGo_300 (f : Nat → Int32) (v : Int32) (d : Nat) : rGo f v d 300 = nI (d + 1) := by
  unfold rGo rMid
  exact upd_s _ _ _
theorem rGo_old (f : Nat → Int32) (v : Int32) {d i : Nat} (hd : d < 20) (h1 : 60 ≤ i) (h2 : i < 300) : rGo f v d i = f i := by
  rw [rGo_lo f v h2, upd_n _ _ (by omega), upd_n _ _ (by omega)]
theorem yN_end {f : Nat → Int32} {B : Nat} (hV : RV f B) (hB : B + 1 < 2 ^ 31) (v : Int32) (r : Nat) : yN (rEnds (rGo f v (dN f)) r) = yN f + 1 := by
  have hd := hV.1.1
  have hy := hV.2.1
  unfold yN
  rw [rEnds_301, rGo_mid f v hd (by omega) (by omega), hy.2.1]
  show (nI (yN f) + 1).toNatClampNeg = (nI (yN f)).toNatClampNeg + 1
  rw [nI_1, nI_clamp (by omega), nI_clamp (by omega)]
theorem LF_meas {f : Nat → Int32} {B : Nat} {v : Int32} (hV : RV f B) (hB : B + 1 < 2 ^ 31) (hf : LF f) (hv : inR v) : LF (rMeas f v (dN f) (rN f)) := by
  have hd := hV.1.1
  have hg := rGo_rng hd hf.1 hv
  unfold rMeas
  split
  · rename_i h19
    have e0 : dN (rEnds (rGo f v (dN f)) (rN f)) = 0 := by unfold dN; rw [rEnds_300]; rfl
    have eK : kN (rEnds (rGo f v (dN f)) (rN f)) = min (yN f + 1) 4 := by unfold kN; rw [yN_end hV hB]
    refine ⟨fun d h => absurd h (by rw [e0]; omega), fun a ha j hj => ?_⟩
    rw [eK] at ha
    rcases a with _ | a
    · rw [show 60 + 60 * 0 + j = 60 + j by omega, show 80 + 60 * 0 + j = 80 + j by omega, rEnds_m _ _ (by omega) (by omega), rEnds_m _ _ (by omega) (by omega), (rEnd2_a _ hj).2.1, (rEnd2_a _ hj).2.2, i32_ss]
      exact hg j (by omega)
    · have ha2 : a < kN f := by unfold kN; omega
      have := kN4 f
      rw [rEnds_m _ _ (by omega) (by omega), rEnds_m _ _ (by omega) (by omega), rEnd2_b _ (by omega) (by omega), rEnd2_b _ (by omega) (by omega), rGo_old f v hd (by omega) (by omega), rGo_old f v hd (by omega) (by omega), show 60 + 60 * (a + 1) + j - 60 = 60 + 60 * a + j by omega, show 80 + 60 * (a + 1) + j - 60 = 80 + 60 * a + j by omega]
      exact hf.2 a ha2 j hj
  · rename_i h19
    have e0 : dN (rGo f v (dN f)) = dN f + 1 := dN_eq (rGo_300 _ _ _) (by omega)
    have eK : kN (rGo f v (dN f)) = kN f := by unfold kN yN; rw [rGo_mid f v hd (by omega) (by omega)]
    refine ⟨fun d h => ?_, fun a ha j hj => ?_⟩
    · rw [e0] at h
      exact hg d h
    · rw [eK] at ha
      have := kN4 f
      rw [rGo_old f v hd (by omega) (by omega), rGo_old f v hd (by omega) (by omega)]
      exact hf.2 a ha j hj
theorem LG_put {A : AT} {B : Nat} {f : Nat → Int32} (h : LG A B) (ht : AW2 (aPut (aRem A) f) (B + 7000)) (hf : ∀ i, 20 ≤ i → i < 302 → f i = aF A i) : LG (aPut (aRem A) f) (B + 7000) := ⟨ht, LF_same h.1.1.2.1.1.1 hf h.2⟩
theorem LG_mono {A : AT} {B B' : Nat} (h : B ≤ B') (hG : LG A B) : LG A B' := ⟨⟨AV_mono h hG.1.1, hG.1.2⟩, hG.2⟩
theorem LF_put {A : AT} {B : Nat} {f : Nat → Int32} (h : LG A B) (hf : ∀ i, 20 ≤ i → i < 302 → f i = aF A i) : LF (aF (aPut (aRem A) f)) := LF_same (f' := f) h.1.1.2.1.1.1 hf h.2
theorem LG_measure {A : AT} {B : Nat} (hB : B + 7000 < 2 ^ 30) (h : LG A B) (v : Int32) : LG (tMeasure A v) (B + 7000) := by
  refine ⟨V_measure hB h.1 v, ?_⟩
  unfold tMeasure
  split
  · exact h.2
  · rename_i hv
    exact LF_meas h.1.1.2.1 (by omega) h.2 (in_inR hv)
theorem LG_base {A : AT} {B : Nat} (hB : B + 7000 < 2 ^ 30) (h : LG A B) (x b : Int32) : LG (tBase A x b) (B + 7000) := by
  refine ⟨V_base hB h.1 x b, ?_⟩
  unfold tBase
  split
  · exact h.2
  · rename_i hx
    split
    · exact h.2
    · split
      · exact h.2
      · split
        · exact h.2
        · obtain ⟨d, hd, rfl⟩ := inB_nat (n := 19) rfl hx
          rw [nI_clamp (by omega)]
          exact LF_put h (fun i h1 _ => upd_n _ _ (by omega))
theorem LG_saint {A : AT} {B : Nat} (hB : B + 7000 < 2 ^ 30) (h : LG A B) (x b e t : Int32) : LG (tSaint A x b e t) (B + 7000) := by
  refine ⟨V_saint hB h.1 x b e t, ?_⟩
  unfold tSaint
  repeat' split
  all_goals first | exact h.2 | exact LF_put h (fun i h1 h2 => by unfold rSaint; rw [upd_n _ _ (by omega), upd_n _ _ (by omega), upd_n _ _ (by omega), upd_n _ _ (by omega), upd_n _ _ (by omega)])
theorem LG_strike {A : AT} {B : Nat} (hB : B + 7000 < 2 ^ 30) (h : LG A B) (x : Int32) : LG (tStrike A x) (B + 7000) := by
  refine ⟨V_strike hB h.1 x, ?_⟩
  unfold tStrike
  split
  · exact h.2
  · exact LF_put h (fun i h1 h2 => by unfold rStrike stRow; rw [if_neg (by omega), upd_n _ _ (by omega)])
theorem LG_set {A : AT} {B : Nat} (hB : B + 7000 < 2 ^ 30) (h : LG A B) (x v : Int32) : LG (tSet A x v) (B + 7000) := by
  refine ⟨V_set hB h.1 x v, ?_⟩
  unfold tSet
  repeat' split
  all_goals first | exact h.2 | exact LF_put h (fun i h1 h2 => upd_n _ _ (by omega))
theorem LG_bet {A : AT} {B : Nat} (hB : B + 7000 < 2 ^ 30) (h : LG A B) (x z n : Int32) (hz : z = 0 ∨ z = 1) : LG (tBet A x z n) (B + 7000) := by
  refine ⟨V_bet hB h.1 x z n hz, ?_⟩
  unfold tBet
  repeat' split
  all_goals first | exact h.2 | exact LF_put h (fun i h1 h2 => by unfold rBet; rw [upd_n _ _ (by omega), upd_n _ _ (by omega), upd_n _ _ (by omega)])
theorem LG_take {A : AT} {B : Nat} (hB : B + 7000 < 2 ^ 30) (h : LG A B) (x : Int32) : LG (tTake A x) (B + 7000) := by
  refine ⟨V_take hB h.1 x, ?_⟩
  unfold tTake
  repeat' split
  all_goals first | exact h.2 | exact LF_put h (fun i h1 h2 => by unfold rTake; rw [upd_n _ _ (by omega), upd_n _ _ (by omega), upd_n _ _ (by omega)])
theorem LG_keep {A : AT} {B : Nat} (h : LG A B) : LG (tKeep A) (B + 7000) := ⟨V_keep h.1, h.2⟩
theorem LG_restore {A : AT} {B : Nat} (h : LG A B) (hk : aK A = 1) (hs : LF (aS A)) : LG (tRestore A) (B + 7000) := by
  refine ⟨V_restore h.1, ?_⟩
  unfold tRestore
  rw [if_neg (by rw [hk]; decide)]
  exact hs
