theorem hd_eq2 {f f' : Nat → Int32} (h : ∀ i, i < 354 → f' i = f i) : cY f' = cY f ∧ (∀ a, cO f' a = cO f a) ∧ dN f' = dN f ∧ kN f' = kN f ∧ cN f' = cN f := by
  obtain ⟨e1, e2, e3, e4⟩ := hd_eq (f := f) (f' := f') (fun i hi => h i (by omega))
  exact ⟨e1, e2, e3, e4, by unfold cN; rw [h 307 (by omega)]⟩
theorem Sim_row {g : GS} {f f' : Nat → Int32} {B : Nat} (h : ∀ i, i < 354 → f' i = f i) (hV : RV f B) (hS : Sim g f) : Sim g f' := by
  obtain ⟨e1, e2, e3, e4, e5⟩ := hd_eq2 h
  have hd := hV.1.1
  have hc5 := hV.2.2.2.2.1.1
  have em : ∀ j, j < 20 → nowM f' j = nowM f j := fun j hj => by
    unfold nowM
    rw [e3, h _ (by omega), h _ (by omega)]
  obtain ⟨s1, k2, s3, s4, ⟨y1, y2, y3, y4⟩, so⟩ := hS
  refine ⟨fun i hi => ?_, ?_, fun i hi j hj => ?_, fun k hk j hj => ?_, ⟨fun i hi => ?_, fun i hi => ?_, fun i hi => ?_, ?_⟩, fun a ha => ⟨fun i hi => ?_, ?_⟩⟩
  · rw [h _ (by omega)]; exact s1 i hi
  · rw [h 307 (by omega), h 301 (by omega), h 300 (by omega), h 353 (by omega), h 352 (by omega), h 348 (by omega), h 349 (by omega), h 350 (by omega), h 351 (by omega)]; exact k2
  · rw [e5] at hi
    rw [h _ (by omega)]; exact s3 i hi j hj
  · rw [h _ (by omega)]; exact s4 k hk j hj
  · rw [e1, h _ (by omega)]; exact y1 i hi
  · rw [e3] at hi
    rw [e1, h _ (by omega), h _ (by omega)]; exact y2 i hi
  · rw [e1, em i hi]; exact y3 i hi
  · rw [e1, y4]; exact sSum_congr 20 (fun j hj => (em j hj).symm)
  · rw [e4] at ha
    have ha4 : a < 4 := by unfold kN at ha; omega
    rw [e2 a, h _ (by omega), h _ (by omega), h _ (by omega)]
    exact (so a ha).1 i hi
  · rw [e4] at ha
    have ha4 : a < 4 := by unfold kN at ha; omega
    rw [e2 a, (so a ha).2]
    refine sSum_congr 20 (fun j hj => ?_)
    unfold okM
    rw [h _ (by omega)]
theorem BZ_row {f f' : Nat → Int32} (h : ∀ i, i < 354 → f' i = f i) (hz : BZ f) : BZ f' := fun k hk => by
  rw [h _ (by omega), h _ (by omega)]
  exact hz k hk
theorem AV_aEq {A' A : AT} {B : Nat} (hB : B < 2 ^ 31) (h : aEq A' A) (hV : AV A B) : AV A' B := by
  obtain ⟨e1, e2, e3, e4, e5, e6, e7⟩ := h
  obtain ⟨v1, v2, v3, v4, v5, v6⟩ := hV
  refine ⟨by omega, RV_congr hB e1 v2, fun i hi => RV_congr hB (e3 i (by omega)) (v3 i (by omega)), by rw [e4]; exact v4, fun hk => ?_, by omega⟩
  rw [e4] at hk
  exact RV_congr hB (e5 (by rw [hk]; decide)) (v5 hk)
theorem AZ_aEq {A' A : AT} (h : aEq A' A) (hZ : AZ A) : AZ A' := by
  obtain ⟨e1, e2, e3, e4, e5, e6, e7⟩ := h
  obtain ⟨v2, v3, v5⟩ := hZ
  refine ⟨BZ_row e1 v2, fun i hi => BZ_row (e3 i (by omega)) (v3 i (by omega)), fun hk => ?_⟩
  rw [e4] at hk
  exact BZ_row (e5 (by rw [hk]; decide)) (v5 hk)
theorem RC_aEq {G : GS} {A' A : AT} {B : Nat} (h : aEq A' A) (hV : AV A B) (hR : RC G A) : RC G A' := by
  obtain ⟨e1, e2, e3, e4, e5, e6, e7⟩ := h
  obtain ⟨v1, v2, v3, v4, v5, v6⟩ := hV
  obtain ⟨h1, h2, h3, h4, h5, h6, h7, h8⟩ := hR
  refine ⟨h1, Sim_row e1 v2 h2, by rw [e2]; exact h3, fun i hi => Sim_row (e3 i (by omega)) (v3 i (by omega)) (h4 i (by omega)), by rw [e4]; exact h5, fun hk => ?_, ⟨by rw [e6]; exact h7.1, fun i hi => by rw [e7 i (by omega)]; exact h7.2 i (by omega)⟩, h8⟩
  rw [e4] at hk
  exact Sim_row (e5 (by rw [hk]; decide)) (v5 hk) (h6 hk)
theorem AV_mono {A : AT} {B B' : Nat} (h : B ≤ B') (hV : AV A B) : AV A B' := ⟨hV.1, RV_mono h hV.2.1, fun i hi => RV_mono h (hV.2.2.1 i hi), hV.2.2.2.1, fun hk => RV_mono h (hV.2.2.2.2.1 hk), hV.2.2.2.2.2⟩
/-- what holds of a state that calls have made -/
def AW2 (A : AT) (B : Nat) : Prop := AV A B ∧ AZ A
theorem V_put {A : AT} {B : Nat} {f : Nat → Int32} (h : AW2 A B) (hf : RV f (B + 7000)) (hz : BZ f) : AW2 (aPut (aRem A) f) (B + 7000) := by
  have hV := AV_mono (B' := B + 7000) (by omega) (AV_rem h.1)
  have hZ := AZ_rem h.2
  exact ⟨⟨hV.1, hf, hV.2.2⟩, ⟨hz, hZ.2⟩⟩
theorem V_same {A : AT} {B : Nat} (h : AW2 A B) : AW2 A (B + 7000) := ⟨AV_mono (by omega) h.1, h.2⟩
theorem V_measure {A : AT} {B : Nat} (hB : B + 7000 < 2 ^ 30) (h : AW2 A B) (v : Int32) : AW2 (tMeasure A v) (B + 7000) := by
  unfold tMeasure
  split
  · exact V_same h
  · exact V_put h (RV_mono (by omega) (RV_meas (by omega) h.1.2.1 v)) (BZ_meas _ _ _ _)
theorem V_base {A : AT} {B : Nat} (hB : B + 7000 < 2 ^ 30) (h : AW2 A B) (x b : Int32) : AW2 (tBase A x b) (B + 7000) := by
  unfold tBase
  by_cases h1 : inB x 0 19 = 0
  · rw [if_pos h1]; exact V_same h
  · rw [if_neg h1]
    split
    · exact V_same h
    · split
      · exact V_same h
      · split
        · exact V_same h
        · obtain ⟨d, hd, rfl⟩ := inB_nat (n := 19) rfl h1
          rw [nI_clamp (by omega)]
          refine V_put h (RV_mono (by omega) (RV_keep (by omega) (fun i u w => upd_n _ _ (by omega)) h.1.2.1)) (fun k hk => ?_)
          rw [upd_n _ _ (by omega), upd_n _ _ (by omega)]
          exact h.2.1 k hk
theorem V_saint {A : AT} {B : Nat} (hB : B + 7000 < 2 ^ 30) (h : AW2 A B) (x b e t : Int32) : AW2 (tSaint A x b e t) (B + 7000) := by
  unfold tSaint
  by_cases h1 : inB x 0 19 = 0
  · rw [if_pos h1]; exact V_same h
  · rw [if_neg h1]
    split
    · exact V_same h
    · split
      · exact V_same h
      · split
        · exact V_same h
        · split
          · exact V_same h
          · rename_i h5
            obtain ⟨d, hd, rfl⟩ := inB_nat (n := 19) rfl h1
            have hc := h.1.2.1.2.2.2.2.1.1
            refine V_put h (RV_mono (by omega) (RV_saint (by omega) h.1.2.1 (by omega) (by omega))) (fun k hk => ?_)
            unfold rSaint
            rw [upd_n _ _ (by omega), upd_n _ _ (by omega), upd_n _ _ (by omega), upd_n _ _ (by omega), upd_n _ _ (by omega), upd_n _ _ (by omega), upd_n _ _ (by omega), upd_n _ _ (by omega), upd_n _ _ (by omega), upd_n _ _ (by omega)]
            exact h.2.1 k hk
theorem V_strike {A : AT} {B : Nat} (hB : B + 7000 < 2 ^ 30) (h : AW2 A B) (x : Int32) : AW2 (tStrike A x) (B + 7000) := by
  unfold tStrike
  by_cases h1 : sB x (cN (aF A)) = 0
  · rw [if_pos h1]; exact V_same h
  · rw [if_neg h1]
    have hc := h.1.2.1.2.2.2.2.1.1
    obtain ⟨i, hi, rfl⟩ := sB_f hc h1
    rw [nI_clamp (by omega)]
    refine V_put h (RV_mono (by omega) (RV_strike (by omega) h.1.2.1 rfl hi)) (fun k hk => ?_)
    unfold rStrike
    rw [stRow_n _ _ _ _ (by omega), stRow_n _ _ _ _ (by omega), upd_n _ _ (by omega), upd_n _ _ (by omega)]
    exact h.2.1 k hk
theorem V_bet {A : AT} {B : Nat} (hB : B + 7000 < 2 ^ 30) (h : AW2 A B) (x z n : Int32) (hz : z = 0 ∨ z = 1) : AW2 (tBet A x z n) (B + 7000) := by
  unfold tBet
  by_cases h1 : inB x 0 3 = 0
  · rw [if_pos h1]; exact V_same h
  · rw [if_neg h1]
    by_cases h2 : inB n 1 1000 = 0
    · rw [if_pos h2]; exact V_same h
    · rw [if_neg h2]
      split
      · exact V_same h
      · split
        · exact V_same h
        · obtain ⟨k, hk, rfl⟩ := inB_nat (n := 3) rfl h1
          rw [nI_clamp (by omega)]
          have h3 := b01_f h2
          obtain ⟨y, hy1, hy2, rfl⟩ := n_nat h3.1 h3.2
          refine V_put h (RV_mono (by omega) (RV_bet (by omega) h.1.2.1 (by omega) hy2 hz)) (fun k2 hk2 => ?_)
          by_cases e : k2 = k
          · subst e
            unfold rBet
            rw [upd_n _ _ (by omega), upd_s]
            intro q
            have := (nI_eq (a := y) (b := 0) (by omega) (by omega)).mp q
            omega
          · unfold rBet
            rw [upd_n _ _ (by omega), upd_n _ _ (by omega), upd_n _ _ (by omega), upd_n _ _ (by omega), upd_n _ _ (by omega), upd_n _ _ (by omega)]
            exact h.2.1 k2 hk2
theorem V_take {A : AT} {B : Nat} (hB : B + 7000 < 2 ^ 30) (h : AW2 A B) (x : Int32) : AW2 (tTake A x) (B + 7000) := by
  unfold tTake
  by_cases h1 : inB x 0 3 = 0
  · rw [if_pos h1]; exact V_same h
  · rw [if_neg h1]
    split
    · exact V_same h
    · obtain ⟨k, hk, rfl⟩ := inB_nat (n := 3) rfl h1
      rw [nI_clamp (by omega)]
      refine V_put h (RV_mono (by omega) (RV_take (by omega) h.1.2.1 (by omega))) (fun k2 hk2 => ?_)
      unfold rTake
      by_cases e : k2 = k
      · subst e
        rw [upd_s]
        exact fun _ => rfl
      · rw [upd_n _ _ (by omega), upd_n _ _ (by omega), upd_n _ _ (by omega), upd_n _ _ (by omega), upd_n _ _ (by omega), upd_n _ _ (by omega)]
        exact h.2.1 k2 hk2
theorem V_type {A : AT} {B : Nat} (h : AW2 A B) (c : Int32) : AW2 (tType A c) (B + 7000) := by
  have hS := V_same h
  unfold tType
  split
  · exact hS
  · rename_i h1
    have hl := h.1.2.2.2.2.2
    exact ⟨⟨hS.1.1, hS.1.2.1, hS.1.2.2.1, hS.1.2.2.2.1, hS.1.2.2.2.2.1, by show aL A + 1 ≤ 60; omega⟩, hS.2⟩
theorem V_clear {A : AT} {B : Nat} (h : AW2 A B) : AW2 (tClear A) (B + 7000) := by
  have hS := V_same h
  exact ⟨⟨hS.1.1, hS.1.2.1, hS.1.2.2.1, hS.1.2.2.2.1, hS.1.2.2.2.2.1, by show 0 ≤ 60; omega⟩, hS.2⟩
theorem V_undo {A : AT} {B : Nat} (h : AW2 A B) : AW2 (tUndo A) (B + 7000) := by
  have hS := V_same h
  unfold tUndo
  split
  · exact hS
  · have hn := hS.1.1
    exact ⟨⟨by show aN A - 1 ≤ 4; omega, hS.1.2.2.1 _ (by omega), fun i hi => hS.1.2.2.1 i (by have : i < aN A - 1 := hi; omega), hS.1.2.2.2⟩, ⟨hS.2.2.1 _ (by omega), fun i hi => hS.2.2.1 i (by have : i < aN A - 1 := hi; omega), hS.2.2.2⟩⟩
theorem V_keep {A : AT} {B : Nat} (h : AW2 A B) : AW2 (tKeep A) (B + 7000) := by
  have hS := V_same h
  exact ⟨⟨hS.1.1, hS.1.2.1, hS.1.2.2.1, Or.inr rfl, fun _ => hS.1.2.1, hS.1.2.2.2.2.2⟩, ⟨hS.2.1, hS.2.2.1, fun _ => hS.2.1⟩⟩
theorem V_restore {A : AT} {B : Nat} (h : AW2 A B) : AW2 (tRestore A) (B + 7000) := by
  unfold tRestore
  by_cases hk : aK A = 0
  · rw [if_pos hk]; exact V_same h
  · rw [if_neg hk]
    have hk1 : aK A = 1 := by
      rcases h.1.2.2.2.1 with z | z
      · exact absurd z hk
      · exact z
    exact V_put h (RV_mono (by omega) (h.1.2.2.2.2.1 hk1)) (h.2.2.2 hk1)
/-- a digit's values -/
theorem dg_any (tx : Nat → Int32) (ln i : Nat) : dg tx ln i = -1 ∨ ∃ a, a ≤ 9 ∧ dg tx ln i = nI a := by
  by_cases h : inB (sg tx ln i) 48 57 = 0
  · left
    unfold dg
    rw [if_pos h]
  · right
    refine dg_val ?_
    obtain ⟨h2, h3⟩ := b01_f h
    have e := dgN_in h2 h3
    rcases dgN_cases tx ln i with ⟨hd, he⟩ | ⟨a, ha, hd, he⟩
    · rw [he] at e
      rw [Int32.le_iff_toInt_le] at h2 h3
      rw [show (48 : Int32).toInt = 48 from rfl] at h2
      rw [show (57 : Int32).toInt = 57 from rfl] at h3
      have h4 := i32_sub (x := sg tx ln i) (y := 48) (by omega) (by omega) (by decide) (by decide)
      rw [← e, show (48 : Int32).toInt = 48 from rfl, show (-5 : Int32).toInt = -5 from rfl] at h4
      omega
    · rw [hd]
      exact Int32.not_lt.mp (nI_nn a (by omega))
theorem num_99 (tx : Nat → Int32) (ln pl e : Nat) : (numIn tx ln pl e).toNatClampNeg ≤ 99 := by
  unfold numIn
  split
  · rcases dg_any tx ln pl with h | ⟨a, ha, h⟩
    · rw [h]; decide
    · rw [h, nI_clamp (by omega)]; omega
  · rcases dg_any tx ln pl with h | ⟨a, ha, h⟩
    · rcases dg_any tx ln (pl + 1) with h2 | ⟨b, hb, h2⟩
      · rw [h, h2]; decide
      · rw [h, h2]
        rcases (show b = 0 ∨ b = 1 ∨ b = 2 ∨ b = 3 ∨ b = 4 ∨ b = 5 ∨ b = 6 ∨ b = 7 ∨ b = 8 ∨ b = 9 by omega) with rfl | rfl | rfl | rfl | rfl | rfl | rfl | rfl | rfl | rfl <;> decide
    · rcases dg_any tx ln (pl + 1) with h2 | ⟨b, hb, h2⟩
      · rw [h, h2]
        rcases (show a = 0 ∨ a = 1 ∨ a = 2 ∨ a = 3 ∨ a = 4 ∨ a = 5 ∨ a = 6 ∨ a = 7 ∨ a = 8 ∨ a = 9 by omega) with rfl | rfl | rfl | rfl | rfl | rfl | rfl | rfl | rfl | rfl <;> decide
      · rw [h, h2, show (10 : Int32) = nI 10 from rfl, pk_mul, nI_add, nI_clamp (by omega)]
        omega
theorem mN_99 (tx : Nat → Int32) (ln pl : Nat) : mN tx ln pl ≤ 99 := by
  unfold mN dMany
  split
  · exact num_99 _ _ _ _
  · decide
theorem RV_aAll {tx : Nat → Int32} {ln : Nat} : ∀ k pl (f : Nat → Int32) (n : Int32) (B : Nat), B + 99 * k < 2 ^ 30 → RV f B → BZ f → RV (aAll tx ln k pl f n).2 (B + 99 * k) ∧ BZ (aAll tx ln k pl f n).2
  | 0, _, _, _, _ => fun _ h hz => ⟨h, hz⟩
  | k + 1, pl, f, n, B => fun hB h hz => by
    unfold aAll
    split
    · have hm := mN_99 tx ln pl
      have h2 := RV_aAll (tx := tx) (ln := ln) k ((dEnd tx ln pl).2 + 1) (rRep f (dWarm tx ln pl) (mN tx ln pl)) (n + dMany tx ln pl) (B + 99) (by omega) (RV_mono (by omega) (RV_rep _ _ (by omega) h)) (BZ_rep hz _)
      exact ⟨RV_mono (by omega) h2.1, h2.2⟩
    · exact ⟨RV_mono (by omega) h, hz⟩
theorem V_all {A : AT} {B : Nat} (hB : B + 7000 < 2 ^ 30) (h : AW2 A B) : AW2 (tAll A) (B + 7000) := by
  unfold tAll
  split
  · have h2 := RV_aAll (tx := aT A) (ln := aL A) 61 0 (aF A) 0 B (by omega) h.1.2.1 h.2.1
    exact V_put h (RV_mono (by omega) h2.1) h2.2
  · exact V_same h
