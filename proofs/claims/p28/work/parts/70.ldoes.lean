/-! ONE STEP OF THE LAW -/
theorem and1 (x : Int32) : x &&& 1 = 0 ∨ x &&& 1 = 1 := by
  have e : (x &&& 1).toBitVec.toNat = x.toBitVec.toNat % 2 := by
    rw [Int32.toBitVec_and, BitVec.toNat_and]
    exact Nat.and_two_pow_sub_one_eq_mod _ 1
  rcases (show x.toBitVec.toNat % 2 = 0 ∨ x.toBitVec.toNat % 2 = 1 by omega) with h | h
  · left
    apply Int32.toBitVec_inj.mp
    apply BitVec.eq_of_toNat_eq
    rw [e, h]
    rfl
  · right
    apply Int32.toBitVec_inj.mp
    apply BitVec.eq_of_toNat_eq
    rw [e, h]
    rfl
theorem and3 (x : Int32) : ∃ r, r < 4 ∧ x &&& 3 = nI r := by
  have e : (x &&& 3).toBitVec.toNat = x.toBitVec.toNat % 4 := by
    rw [Int32.toBitVec_and, BitVec.toNat_and]
    exact Nat.and_two_pow_sub_one_eq_mod _ 2
  refine ⟨x.toBitVec.toNat % 4, by omega, ?_⟩
  apply Int32.toBitVec_inj.mp
  apply BitVec.eq_of_toNat_eq
  rw [e]
  show _ = (BitVec.ofNat 32 (x.toBitVec.toNat % 4)).toNat
  rw [BitVec.toNat_ofNat]
  omega
theorem sub_t {t c : Nat} (ht : t < 1000) (hc : c < 1000) {y : Int32} (hy : y = nI c) : (nI t - y).toInt = (t : Int) - c := by
  subst hy
  exact pk_sub_toInt (by omega) (by omega)
theorem in_sub {t c : Nat} {lo hi : Int32} (ht : t ≤ 2 * c) (hc : c < 100) (hl : lo.toInt = -(c : Int)) (hh : hi.toInt = c) {y : Int32} (hy : y = nI c) : ¬ inB (nI t - y) lo hi = 0 := by
  have e := sub_t (t := t) (c := c) (by omega) (by omega) hy
  unfold inB
  rw [b01_pos ⟨by rw [Int32.le_iff_toInt_le, e, hl]; omega, by rw [Int32.le_iff_toInt_le, e, hh]; omega⟩]
  decide
theorem in_r30 {t : Nat} (ht : t < 61) : inR (nI t - 30) := by
  have e := sub_t (t := t) (c := 30) (by omega) (by omega) (y := 30) rfl
  unfold inR
  rw [e]
  omega
theorem in_19 {t : Nat} (h : t < 9) : ¬ inB (nI (1 + t)) 1 9 = 0 := by
  unfold inB
  rw [b01_pos ⟨(nI_leI (a := 1) (b := 1 + t) (by omega) (by omega)).mpr (by omega), (nI_leI (a := 1 + t) (b := 9) (by omega) (by omega)).mpr (by omega)⟩]
  decide
theorem i32_cc2 {a b c : Int32} : (a + c = b + c) ↔ a = b := by
  constructor
  · intro h
    have h2 := congrArg (· - c) h
    simp only [Int32.add_sub_cancel] at h2
    exact h2
  · intro h
    rw [h]
section DQ
variable {A : AT} {B : Nat}
/-! base -/
theorem t_base (x b : Int32) (d : Nat) (hd : d < 20) (hx : x = nI d) (i : Nat) (hi : 20 ≤ i) : aF (tBase A x b) i = aF A i := by
  subst hx
  unfold tBase
  repeat' split
  all_goals first | rfl | (show upd (aF A) (nI d).toNatClampNeg b i = aF A i; rw [nI_clamp (by omega), upd_n _ _ (by omega)])
theorem base_q (hV : AV A B) {d : Nat} {b : Int32} (hd : d < 20) (hb : ¬ inB b (-40) 40 = 0) : qBase A (nI d) b = if nI (dN (aF A)) ≤ nI d then (if aF A d = b then -5 else aF A d + 1000) else -4 := by
  have h20 := hV.2.1.1.1
  unfold qBase
  rw [if_neg (day_in hd), if_neg hb, hV.2.1.1.2, nI_clamp (by omega)]
  by_cases h : dN (aF A) ≤ d
  · rw [if_neg (nI_nlt h (by omega)), if_pos (nI_le h (by omega))]
  · rw [if_pos (nI_lt (by omega) (by omega)), if_neg (nI_ge (by omega) (by omega))]
/-! saint -/
theorem n5 {c : Nat} (hc : c ≤ 5) : (nI c = 5) ↔ c = 5 := nI_eq (a := c) (b := 5) (by omega) (by omega)
theorem saint_q (hc : cN (aF A) ≤ 5) {x b e t : Int32} (h1 : ¬ inB x 0 19 = 0) (h2 : ¬ inB b (-40) 40 = 0) (h3 : ¬ inB e (-20) 20 = 0) (h4 : ¬ inB t 1 9 = 0) : qSaint A x b e t = if nI (cN (aF A)) = 5 then -3 else nI (cN (aF A)) := by
  unfold qSaint
  rw [if_neg h1, if_neg h2, if_neg h3, if_neg h4]
  by_cases h : cN (aF A) = 5
  · rw [if_pos h, if_pos ((n5 hc).mpr h)]
  · rw [if_neg h, if_neg (fun z => h ((n5 hc).mp z))]
theorem saint_f (h5 : ¬ cN (aF A) = 5) {x b e t : Int32} (h1 : ¬ inB x 0 19 = 0) (h2 : ¬ inB b (-40) 40 = 0) (h3 : ¬ inB e (-20) 20 = 0) (h4 : ¬ inB t 1 9 = 0) : tSaint A x b e t = aPut (aRem A) (rSaint (aF A) (cN (aF A)) x b e t) := by
  unfold tSaint
  rw [if_neg h1, if_neg h2, if_neg h3, if_neg h4, if_neg h5]
theorem rSaint_0 (f : Nat → Int32) (c : Nat) (x b e t : Int32) : rSaint f c x b e t (308 + 4 * c) = x ∧ rSaint f c x b e t (308 + 4 * c + 3) = t ∧ rSaint f c x b e t 307 = nI (c + 1) := by
  unfold rSaint
  exact ⟨by rw [upd_n _ _ (by omega), upd_n _ _ (by omega), upd_n _ _ (by omega), upd_n _ _ (by omega), upd_s], by rw [upd_n _ _ (by omega), upd_s], upd_s _ _ _⟩
theorem saint_in (hc : cN (aF A) ≤ 5) (h5 : ¬ cN (aF A) = 5) {x b e t : Int32} (h1 : ¬ inB x 0 19 = 0) (h2 : ¬ inB b (-40) 40 = 0) (h3 : ¬ inB e (-20) 20 = 0) (h4 : ¬ inB t 1 9 = 0) : qSaintOf (tSaint A x b e t) (nI (cN (aF A))) 0 = x ∧ qSaintOf (tSaint A x b e t) (nI (cN (aF A))) 3 = t := by
  have e9 : aF (tSaint A x b e t) = rSaint (aF A) (cN (aF A)) x b e t := (congrArg aF (saint_f h5 h1 h2 h3 h4)).trans rfl
  obtain ⟨s1, s2, s3⟩ := rSaint_0 (aF A) (cN (aF A)) x b e t
  have ec : cN (aF (tSaint A x b e t)) = cN (aF A) + 1 := by
    show (aF (tSaint A x b e t) 307).toNatClampNeg = _
    rw [e9, s3, nI_clamp (by omega)]
  refine ⟨?_, ?_⟩
  · rw [qs_0 _ (by omega) (by omega), e9]; exact s1
  · rw [qs_3 _ (by omega) (by omega), e9]; exact s2
/-! strike -/
theorem strike_q {i : Nat} (hc : cN (aF A) ≤ 5) (hi : i < 1000) : qStrike A (nI i) = if nI (cN (aF A)) ≤ nI i then -1 else nI (cN (aF A)) - 1 := by
  unfold qStrike
  by_cases h : cN (aF A) ≤ i
  · rw [if_pos (sB_out hi (by omega) h), if_pos (nI_le h (by omega))]
  · rw [if_neg (sB_nI (by omega) (by omega)), if_neg (nI_ge (by omega) (by omega))]
    exact (pk_sub (a := cN (aF A)) (b := 1) (by omega)).symm
/-! set -/
theorem in_low {t n : Nat} {hi : Int32} (hh : hi.toInt = n) (hn : n < 1000) (h : t ≤ n) : ¬ inB (nI t) 0 hi = 0 := inB_nI hh (by omega) h
theorem can_set {e : Nat} {v w : Int32} (he : e < 4) (hv : v = (if nI e = 0 then lowI w 10 else if nI e = 1 then lowI w 101 else if nI e = 2 then lowI w 41 - 20 else 1 + lowI w 9)) : ¬ canSet (nI e) v = 0 := by
  have l : ∀ n : Nat, n < 4 → ((nI e = nI n) ↔ e = n) := fun n hn => nI_eq (by omega) (by omega)
  have l0 : (nI e = 0) ↔ e = 0 := l 0 (by omega)
  have l1 : (nI e = 1) ↔ e = 1 := l 1 (by omega)
  have l2 : (nI e = 2) ↔ e = 2 := l 2 (by omega)
  have l3 : (nI e = 3) ↔ e = 3 := l 3 (by omega)
  unfold canSet
  rcases (show e = 0 ∨ e = 1 ∨ e = 2 ∨ e = 3 by omega) with h | h | h | h
  · obtain ⟨t, ht, et⟩ := low_nI w (m := 10) (by omega) (by omega)
    rw [if_pos (l0.mpr h)] at hv
    rw [if_pos (l0.mpr h), hv, show lowI w 10 = nI t from et]
    exact in_low (n := 9) rfl (by omega) (by omega)
  · obtain ⟨t, ht, et⟩ := low_nI w (m := 101) (by omega) (by omega)
    rw [if_neg (fun z => by have := l0.mp z; omega), if_pos (l1.mpr h)] at hv
    rw [if_neg (fun z => by have := l0.mp z; omega), if_pos (l1.mpr h), hv, show lowI w 101 = nI t from et]
    exact in_low (n := 100) rfl (by omega) (by omega)
  · obtain ⟨t, ht, et⟩ := low_nI w (m := 41) (by omega) (by omega)
    rw [if_neg (fun z => by have := l0.mp z; omega), if_neg (fun z => by have := l1.mp z; omega), if_pos (l2.mpr h)] at hv
    rw [if_neg (fun z => by have := l0.mp z; omega), if_neg (fun z => by have := l1.mp z; omega), if_pos (l2.mpr h), hv, show lowI w 41 = nI t from et]
    exact in_sub (c := 20) (by omega) (by omega) rfl rfl rfl
  · obtain ⟨t, ht, et⟩ := low_nI w (m := 9) (by omega) (by omega)
    rw [if_neg (fun z => by have := l0.mp z; omega), if_neg (fun z => by have := l1.mp z; omega), if_neg (fun z => by have := l2.mp z; omega)] at hv
    have e1 : (1 : Int32) + nI t = nI (1 + t) := nI_add 1 t
    rw [if_neg (fun z => by have := l0.mp z; omega), if_neg (fun z => by have := l1.mp z; omega), if_neg (fun z => by have := l2.mp z; omega), if_pos (l3.mpr h), hv, show lowI w 9 = nI t from et, e1]
    exact in_19 ht
theorem set_q {e : Nat} {v : Int32} (he : e < 4) (hc : ¬ canSet (nI e) v = 0) : qSet A (nI e) v = if aF A (303 + e) + 1000 = v + 1000 then -5 else aF A (303 + e) + 1000 := by
  unfold qSet
  rw [if_neg hc, nI_clamp (by omega)]
  by_cases h : aF A (303 + e) = v
  · rw [if_pos h, if_pos (i32_cc2.mpr h)]
  · rw [if_neg h, if_neg (fun z => h (i32_cc2.mp z))]
theorem set_c {e : Nat} {v : Int32} (he : e < 4) (hc : ¬ canSet (nI e) v = 0) : qCount (tSet A (nI e) v) (nI (12 + e)) = v + 1000 := by
  rw [qc_s _ (by omega)]
  unfold tSet
  rw [if_neg hc, nI_clamp (by omega)]
  by_cases h : aF A (303 + e) = v
  · rw [if_pos h, h]
  · rw [if_neg h]
    show upd (aF A) (303 + e) v (303 + e) + 1000 = _
    rw [upd_s]
/-! bet, takeBack -/
theorem can_eq {n p c : Int32} : (if n = 0 then (if p < c then (0 : Int32) else 1) else 0) = b01 (n = 0 ∧ ¬ p < c) := by
  by_cases h : n = 0
  · rw [if_pos h]
    by_cases h2 : p < c
    · rw [if_pos h2, b01_neg (fun z => z.2 h2)]
    · rw [if_neg h2, b01_pos ⟨h, h2⟩]
  · rw [if_neg h, b01_neg (fun z => h z.1)]
theorem coin_in {c : Nat} (hc : c < 60) : ¬ inB (nI (1 + c)) 1 1000 = 0 := by
  unfold inB
  rw [b01_pos ⟨(nI_leI (a := 1) (b := 1 + c) (by omega) (by omega)).mpr (by omega), (nI_leI (a := 1 + c) (b := 1000) (by omega) (by omega)).mpr (by omega)⟩]
  decide
theorem bet_pos (hV : AV A B) {k : Nat} (hk : k < 4) : (0 < aF A (328 + 5 * k + 1)) ↔ ¬ aF A (328 + 5 * k + 1) = 0 := by
  obtain ⟨x, hx, h1, -⟩ := hV.2.1.2.2.2.2.2 k hk
  rw [h1]
  have l1 : ((0 : Int32) < nI x) ↔ 0 < x := nI_ltI (a := 0) (b := x) (by omega) (by omega)
  have l2 : (nI x = 0) ↔ x = 0 := nI_eq (a := x) (b := 0) (by omega) (by omega)
  rw [l1, l2]
  omega
theorem rd_in {k : Nat} (hk : k < 4) : ¬ inB (nI k) 0 3 = 0 := inB_nI (n := 3) rfl (by omega) (by omega)
theorem bet_q (hV : AV A B) {k c : Nat} {z : Int32} (hk : k < 4) (hc : c < 60) : qBet A (nI k) z (nI (1 + c)) = if b01 (aF A (328 + 5 * k + 1) = 0 ∧ ¬ aF A (328 + 5 * k + 0) < nI (1 + c)) = 0 then -4 else aF A (328 + 5 * k + 0) - nI (1 + c) := by
  unfold qBet
  rw [if_neg (rd_in hk), if_neg (coin_in hc), nI_clamp (by omega)]
  have l := bet_pos hV hk
  by_cases h : aF A (328 + 5 * k + 1) = 0
  · rw [if_neg (fun q => l.mp q h)]
    by_cases h2 : aF A (328 + 5 * k + 0) < nI (1 + c)
    · rw [if_pos h2, if_pos (b01_neg (fun q => q.2 h2))]
    · rw [if_neg h2, if_neg (by rw [b01_pos ⟨h, h2⟩]; decide)]
  · rw [if_pos (l.mpr h), if_pos (b01_neg (fun q => h q.1))]
theorem bet_in (hV : AV A B) {k c : Nat} {z : Int32} (hk : k < 4) (hc : c < 60) (h : aF A (328 + 5 * k + 1) = 0 ∧ ¬ aF A (328 + 5 * k + 0) < nI (1 + c)) : qReaderOf (tBet A (nI k) z (nI (1 + c))) (nI k) 1 = nI (1 + c) ∧ qReaderOf (tBet A (nI k) z (nI (1 + c))) (nI k) 2 = z := by
  have l := bet_pos hV hk
  have e : tBet A (nI k) z (nI (1 + c)) = aPut (aRem A) (rBet (aF A) k z (nI (1 + c))) := by
    unfold tBet
    rw [if_neg (rd_in hk), if_neg (coin_in hc), nI_clamp (by omega), if_neg (fun q => l.mp q h.1), if_neg h.2]
  have a1 := qr_j (tBet A (nI k) z (nI (1 + c))) (k := k) (j := 1) hk (by omega)
  have a2 := qr_j (tBet A (nI k) z (nI (1 + c))) (k := k) (j := 2) hk (by omega)
  refine ⟨a1.trans ?_, a2.trans ?_⟩
  · rw [e]
    show rBet (aF A) k z (nI (1 + c)) (328 + 5 * k + 1) = _
    unfold rBet
    rw [upd_n _ _ (by omega), upd_s]
  · rw [e]
    exact upd_s _ _ _
theorem take_q {k : Nat} (hk : k < 4) : qTake A (nI k) = if aF A (328 + 5 * k + 1) = 0 then -5 else aF A (328 + 5 * k + 0) + aF A (328 + 5 * k + 1) := by
  unfold qTake
  rw [if_neg (rd_in hk), nI_clamp (by omega)]
theorem take_in {k : Nat} (hk : k < 4) : qReaderOf (tTake A (nI k)) (nI k) 1 = 0 := by
  have a1 := qr_j (tTake A (nI k)) (k := k) (j := 1) hk (by omega)
  refine a1.trans ?_
  unfold tTake
  rw [if_neg (rd_in hk), nI_clamp (by omega)]
  by_cases h : aF A (328 + 5 * k + 1) = 0
  · rw [if_pos h]; exact h
  · rw [if_neg h]
    show rTake (aF A) k (328 + 5 * k + 1) = 0
    unfold rTake
    rw [upd_n _ _ (by omega), upd_s]
end DQ
set_option maxHeartbeats 4000000 in
set_option maxRecDepth 100000 in
theorem l_does {w : WT} (hI : xI w) (l : Launch) (A : AT) (D : Nat → Int32) (v w0 : Int32) (B : Nat) (hG : LG A B) (hB9 : B + 300000 < 2 ^ 30) : LMz w l yL_does cL_does 21 (some .boolean) ⟨8, 0, 0, 199⟩ [.ref (w.2.2 0), .int v, .int w0, .ref (w.2.2 239)] A D (fun r A' D' => r = 1 ∧ LG A' (B + 200000)) := by
  refine mk_lz (L0 := [(0, .ref (w.2.2 0)), (1, .int v), (2, .int w0), (3, .ref (w.2.2 239))]) hI (by decide +kernel) rfl (Nat.le_of_ble_eq_true rfl) (fun v A9 D9 h => by rw [h.1]; rfl) (fun K hc hZ9 hret => ?_)
  have hV := hG.1.1
  have hZ := hG.1.2
  obtain ⟨hd, e300⟩ := hV.2.1.1
  obtain ⟨hyB, e301, e302⟩ := hV.2.1.2.1
  obtain ⟨hr9, e303⟩ := hV.2.1.2.2.1
  obtain ⟨hc5, e307, hfe⟩ := hV.2.1.2.2.2.2.1
  have hk4 := kN4 (aF A)
  have hB : B + 1 < 2 ^ 30 := by omega
  refine l_iload_n (pc := 0) hc dL_does_0 2 rfl ?_
  refine l_bipush (v := 20) (pc := 1) hc dL_does_1 (by decide) ?_
  obtain ⟨dy, hdy, edy⟩ := low_nI w0 (m := 20) (by omega) (by omega)
  refine l_s (pc := 3) hc cl_L_64 [.int w0, .int 20] (l_low hI (kl K) A D w0 20 (by decide)) rfl rfl (by simp [Value.category]) rfl rfl ⟨by decide, by decide⟩ dL_does_3 (fun r3 Aa3 Da3 q3 => ?_)
  obtain ⟨er3, eAa3, eDa3⟩ := q3
  rw [eAa3, eDa3]
  subst er3
  refine l_as (nI dy) edy ?_
  refine l_istore (pc := 6) (L' := [(4, .int (nI dy)), (0, .ref (w.2.2 0)), (1, .int v), (2, .int w0), (3, .ref (w.2.2 239))]) hc dL_does_6 (by decide) rfl ?_
  refine l_iload_n (pc := 8) hc dL_does_8 2 rfl ?_
  refine l_bipush (v := 20) (pc := 9) hc dL_does_9 (by decide) ?_
  obtain ⟨cs, hcs, ecs⟩ := low_nI v (m := 20) (by omega) (by omega)
  refine l_s (pc := 11) hc cl_L_64 [.int v, .int 20] (l_low hI (kl K) A D v 20 (by decide)) rfl rfl (by simp [Value.category]) rfl rfl ⟨by decide, by decide⟩ dL_does_11 (fun r11 Aa11 Da11 q11 => ?_)
  obtain ⟨er11, eAa11, eDa11⟩ := q11
  rw [eAa11, eDa11]
  subst er11
  refine l_as (nI cs) ecs ?_
  by_cases hs0 : cs = 0
  · refine l_as (nI 0) (congrArg nI hs0) ?_
    refine l_tableIn (pc := 14) (off := 50) hc dL_does_14 (by decide) (by decide) rfl 64 (by decide) ?_
    refine l_aload_n (pc := 64) hc dL_does_64 1 rfl ?_
    refine l_iload (pc := 65) hc dL_does_65 0 rfl ?_
    refine l_iconst (v := 0) (pc := 67) hc dL_does_67 (by decide) ?_
    refine l_q (pc := 68) hc cl_L_14 rfl [.int (nI dy), .int 0] (fun G hG9 => C_dayOf hI (kl K) G (nI dy) 0 A B hG9 hV hZ hB) rfl rfl (by simp [Value.category]) rfl rfl ⟨by decide, by decide⟩ dL_does_68 ?_
    refine l_as (aF A dy + 1000) (qd_0 A (d := dy) (by omega)) ?_
    refine l_sipush (v := 1000) (pc := 71) hc dL_does_71 (by decide) ?_
    refine l_isub (pc := 74) hc dL_does_74 ?_
    refine l_as (aF A dy) (i32_ac _ _) ?_
    refine l_istore (pc := 75) (L' := [(5, .int (aF A dy)), (4, .int (nI dy)), (0, .ref (w.2.2 0)), (1, .int v), (2, .int w0), (3, .ref (w.2.2 239))]) hc dL_does_75 (by decide) rfl ?_
    refine l_iload_n (pc := 77) hc dL_does_77 4 rfl ?_
    refine l_iconst (v := 5) (pc := 78) hc dL_does_78 (by decide) ?_
    refine l_ishr (pc := 79) hc dL_does_79 ?_
    refine l_bipush (v := 81) (pc := 80) hc dL_does_80 (by decide) ?_
    obtain ⟨ta, hta, eta⟩ := low_nI (w0 >>> (5 &&& 31)) (m := 81) (by omega) (by omega)
    refine l_s (pc := 82) hc cl_L_64 [.int (w0 >>> (5 &&& 31)), .int 81] (l_low hI (kl K) A D (w0 >>> (5 &&& 31)) 81 (by decide)) rfl rfl (by simp [Value.category]) rfl rfl ⟨by decide, by decide⟩ dL_does_82 (fun r82 Aa82 Da82 q82 => ?_)
    obtain ⟨er82, eAa82, eDa82⟩ := q82
    rw [eAa82, eDa82]
    subst er82
    refine l_as (nI ta) eta ?_
    refine l_bipush (v := 40) (pc := 85) hc dL_does_85 (by decide) ?_
    refine l_isub (pc := 87) hc dL_does_87 ?_
    refine l_istore (pc := 88) (L' := [(6, .int ((nI ta) - 40)), (5, .int (aF A dy)), (4, .int (nI dy)), (0, .ref (w.2.2 0)), (1, .int v), (2, .int w0), (3, .ref (w.2.2 239))]) hc dL_does_88 (by decide) rfl ?_
    refine l_aload_n (pc := 90) hc dL_does_90 3 rfl ?_
    refine l_iload (pc := 91) hc dL_does_91 2 rfl ?_
    refine l_iload (pc := 93) hc dL_does_93 0 rfl ?_
    refine l_q (pc := 95) (A' := (tBase A (nI dy) ((nI ta) - 40))) hc cl_L_67 rfl [.int (nI dy), .int ((nI ta) - 40)] (fun G hG9 => C_base hI (kl K) G (nI dy) ((nI ta) - 40) A B hG9 hV hZ hB) rfl rfl (by simp [Value.category]) rfl rfl ⟨by decide, by decide⟩ dL_does_95 ?_
    refine l_An (fun A2 eA2 => ?_)
    have hG2 : LG A2 (B + 200000) := by rw [eA2]; exact LG_mono (by omega) (LG_base (by omega) hG _ _)
    have hB2 : B + 200000 + 1 < 2 ^ 30 := by omega
    refine l_as (if nI (dN (aF A)) ≤ nI dy then (if aF A dy = nI ta - 40 then -5 else aF A dy + 1000) else -4) (base_q hV hdy (in_sub (c := 40) (by omega) (by omega) rfl rfl rfl)) ?_
    refine l_iload (pc := 98) hc dL_does_98 2 rfl ?_
    refine l_aload_n (pc := 100) hc dL_does_100 3 rfl ?_
    refine l_iconst (v := 1) (pc := 101) hc dL_does_101 (by decide) ?_
    refine l_q (pc := 102) hc cl_L_8 rfl [.int 1] (fun G hG9 => C_count hI (kl K) G 1 A2 (B + 200000) hG9 hG2.1.1 hG2.1.2 hB2) rfl rfl (by simp [Value.category]) rfl rfl ⟨by decide, by decide⟩ dL_does_102 ?_
    refine l_as (nI (dN (aF A))) (by rw [qc_1, eA2, t_base _ _ dy hdy rfl _ (by omega)]; exact e300) ?_
    have j131 : ∀ v131 : Int32, v131 = (if (nI (dN (aF A))) ≤ (nI dy) then (if (aF A dy) = ((nI ta) - 40) then (-5) else ((aF A dy) + 1000)) else (-4)) → LX w K 21 A2 D 131 [(6, .int ((nI ta) - 40)), (5, .int (aF A dy)), (4, .int (nI dy)), (0, .ref (w.2.2 0)), (1, .int v), (2, .int w0), (3, .ref (w.2.2 239))] [.int v131, .int (if nI (dN (aF A)) ≤ nI dy then (if aF A dy = nI ta - 40 then -5 else aF A dy + 1000) else -4)] := by
      intro v131 hv131
      refine l_as (if nI (dN (aF A)) ≤ nI dy then (if aF A dy = nI ta - 40 then -5 else aF A dy + 1000) else -4) hv131 ?_
      refine l_icmp_ne (pc := 131) hc dL_does_131 138 (by decide) (fun c131 => ?_) (fun c131 => ?_)
      · exact absurd rfl c131
      · refine l_iconst (v := 1) (pc := 134) hc dL_does_134 (by decide) ?_
        refine l_goto (pc := 135) hc dL_does_135 139 (by decide) ?_
        exact hret _ _ _ _ _ dL_does_139 ⟨rfl, hG2⟩
    refine l_icmp_ge (pc := 105) hc dL_does_105 113 (by decide) (fun c105 => ?_) (fun c105 => ?_)
    · have oc105 := c105
      have c105 : dN (aF A) ≤ dy := (nI_leI (a := dN (aF A)) (b := dy) (by omega) (by omega)).mp c105
      refine l_iload (pc := 113) hc dL_does_113 1 rfl ?_
      refine l_iload (pc := 115) hc dL_does_115 0 rfl ?_
      refine l_icmp_ne (pc := 117) hc dL_does_117 125 (by decide) (fun c117 => ?_) (fun c117 => ?_)
      · refine l_iload (pc := 125) hc dL_does_125 1 rfl ?_
        refine l_sipush (v := 1000) (pc := 127) hc dL_does_127 (by decide) ?_
        refine l_iadd (pc := 130) hc dL_does_130 ?_
        exact j131 _ (by rw [if_pos oc105, if_neg c117])
      · refine l_bipush (v := (-5)) (pc := 120) hc dL_does_120 (by decide) ?_
        refine l_goto (pc := 122) hc dL_does_122 131 (by decide) ?_
        exact j131 _ (by rw [if_pos oc105, if_pos c117])
    · have oc105 := c105
      have c105 : ¬ dN (aF A) ≤ dy := fun h9 => c105 ((nI_leI (a := dN (aF A)) (b := dy) (by omega) (by omega)).mpr h9)
      refine l_bipush (v := (-4)) (pc := 108) hc dL_does_108 (by decide) ?_
      refine l_goto (pc := 110) hc dL_does_110 131 (by decide) ?_
      exact j131 _ (by rw [if_neg oc105])
  by_cases hs1 : cs = 1
  · refine l_as (nI 1) (congrArg nI hs1) ?_
    refine l_tableIn (pc := 14) (off := 126) hc dL_does_14 (by decide) (by decide) rfl 140 (by decide) ?_
    refine l_aload_n (pc := 140) hc dL_does_140 1 rfl ?_
    refine l_iconst (v := 3) (pc := 141) hc dL_does_141 (by decide) ?_
    refine l_q (pc := 142) hc cl_L_8 rfl [.int 3] (fun G hG9 => C_count hI (kl K) G 3 A B hG9 hV hZ hB) rfl rfl (by simp [Value.category]) rfl rfl ⟨by decide, by decide⟩ dL_does_142 ?_
    refine l_as (nI (cN (aF A))) ((qc_3 A).trans e307) ?_
    refine l_istore (pc := 145) (L' := [(7, .int (nI (cN (aF A)))), (4, .int (nI dy)), (0, .ref (w.2.2 0)), (1, .int v), (2, .int w0), (3, .ref (w.2.2 239))]) hc dL_does_145 (by decide) rfl ?_
    refine l_aload_n (pc := 147) hc dL_does_147 2 rfl ?_
    refine l_iload (pc := 148) hc dL_does_148 1 rfl ?_
    refine l_iload_n (pc := 150) hc dL_does_150 4 rfl ?_
    refine l_iconst (v := 5) (pc := 151) hc dL_does_151 (by decide) ?_
    refine l_ishr (pc := 152) hc dL_does_152 ?_
    refine l_bipush (v := 81) (pc := 153) hc dL_does_153 (by decide) ?_
    obtain ⟨ta, hta, eta⟩ := low_nI (w0 >>> (5 &&& 31)) (m := 81) (by omega) (by omega)
    refine l_s (pc := 155) hc cl_L_64 [.int (w0 >>> (5 &&& 31)), .int 81] (l_low hI (kl K) A D (w0 >>> (5 &&& 31)) 81 (by decide)) rfl rfl (by simp [Value.category]) rfl rfl ⟨by decide, by decide⟩ dL_does_155 (fun r155 Aa155 Da155 q155 => ?_)
    obtain ⟨er155, eAa155, eDa155⟩ := q155
    rw [eAa155, eDa155]
    subst er155
    refine l_as (nI ta) eta ?_
    refine l_bipush (v := 40) (pc := 158) hc dL_does_158 (by decide) ?_
    refine l_isub (pc := 160) hc dL_does_160 ?_
    refine l_iload_n (pc := 161) hc dL_does_161 4 rfl ?_
    refine l_bipush (v := 12) (pc := 162) hc dL_does_162 (by decide) ?_
    refine l_ishr (pc := 164) hc dL_does_164 ?_
    refine l_bipush (v := 41) (pc := 165) hc dL_does_165 (by decide) ?_
    obtain ⟨tb, htb, etb⟩ := low_nI (w0 >>> (12 &&& 31)) (m := 41) (by omega) (by omega)
    refine l_s (pc := 167) hc cl_L_64 [.int (w0 >>> (12 &&& 31)), .int 41] (l_low hI (kl K) A D (w0 >>> (12 &&& 31)) 41 (by decide)) rfl rfl (by simp [Value.category]) rfl rfl ⟨by decide, by decide⟩ dL_does_167 (fun r167 Aa167 Da167 q167 => ?_)
    obtain ⟨er167, eAa167, eDa167⟩ := q167
    rw [eAa167, eDa167]
    subst er167
    refine l_as (nI tb) etb ?_
    refine l_bipush (v := 20) (pc := 170) hc dL_does_170 (by decide) ?_
    refine l_isub (pc := 172) hc dL_does_172 ?_
    refine l_iconst (v := 1) (pc := 173) hc dL_does_173 (by decide) ?_
    refine l_iload_n (pc := 174) hc dL_does_174 4 rfl ?_
    refine l_bipush (v := 18) (pc := 175) hc dL_does_175 (by decide) ?_
    refine l_ishr (pc := 177) hc dL_does_177 ?_
    refine l_bipush (v := 9) (pc := 178) hc dL_does_178 (by decide) ?_
    obtain ⟨tc, htc, etc⟩ := low_nI (w0 >>> (18 &&& 31)) (m := 9) (by omega) (by omega)
    refine l_s (pc := 180) hc cl_L_64 [.int (w0 >>> (18 &&& 31)), .int 9] (l_low hI (kl K) A D (w0 >>> (18 &&& 31)) 9 (by decide)) rfl rfl (by simp [Value.category]) rfl rfl ⟨by decide, by decide⟩ dL_does_180 (fun r180 Aa180 Da180 q180 => ?_)
    obtain ⟨er180, eAa180, eDa180⟩ := q180
    rw [eAa180, eDa180]
    subst er180
    refine l_as (nI tc) etc ?_
    refine l_iadd (pc := 183) hc dL_does_183 ?_
    refine l_as (nI (1 + tc)) (nI_add _ _) ?_
    refine l_q (pc := 184) (A' := (tSaint A (nI dy) ((nI ta) - 40) ((nI tb) - 20) (nI (1 + tc)))) hc cl_L_70 rfl [.int (nI dy), .int ((nI ta) - 40), .int ((nI tb) - 20), .int (nI (1 + tc))] (fun G hG9 => C_saint hI (kl K) G (nI dy) ((nI ta) - 40) ((nI tb) - 20) (nI (1 + tc)) A B hG9 hV hZ hB) rfl rfl (by simp [Value.category]) rfl rfl ⟨by decide, by decide⟩ dL_does_184 ?_
    refine l_An (fun A2 eA2 => ?_)
    have hG2 : LG A2 (B + 200000) := by rw [eA2]; exact LG_mono (by omega) (LG_saint (by omega) hG _ _ _ _)
    have hB2 : B + 200000 + 1 < 2 ^ 30 := by omega
    refine l_as (if nI (cN (aF A)) = 5 then -3 else nI (cN (aF A))) (saint_q hc5 (day_in hdy) (in_sub (c := 40) (by omega) (by omega) rfl rfl rfl) (in_sub (c := 20) (by omega) (by omega) rfl rfl rfl) (in_19 htc)) ?_
    refine l_istore (pc := 187) (L' := [(8, .int (if nI (cN (aF A)) = 5 then -3 else nI (cN (aF A)))), (7, .int (nI (cN (aF A)))), (4, .int (nI dy)), (0, .ref (w.2.2 0)), (1, .int v), (2, .int w0), (3, .ref (w.2.2 239))]) hc dL_does_187 (by decide) rfl ?_
    refine l_iload (pc := 189) hc dL_does_189 0 rfl ?_
    refine l_iload (pc := 191) hc dL_does_191 1 rfl ?_
    refine l_iconst (v := 5) (pc := 193) hc dL_does_193 (by decide) ?_
    have j204 : ∀ v204 : Int32, v204 = (if (nI (cN (aF A))) = 5 then (-3) else (nI (cN (aF A)))) → LX w K 21 A2 D 204 [(8, .int (if nI (cN (aF A)) = 5 then -3 else nI (cN (aF A)))), (7, .int (nI (cN (aF A)))), (4, .int (nI dy)), (0, .ref (w.2.2 0)), (1, .int v), (2, .int w0), (3, .ref (w.2.2 239))] [.int v204, .int (if nI (cN (aF A)) = 5 then -3 else nI (cN (aF A)))] := by
      intro v204 hv204
      refine l_as (if nI (cN (aF A)) = 5 then -3 else nI (cN (aF A))) hv204 ?_
      refine l_icmp_ne (pc := 204) hc dL_does_204 250 (by decide) (fun c204 => ?_) (fun c204 => ?_)
      · exact absurd rfl c204
      · refine l_iload (pc := 207) hc dL_does_207 1 rfl ?_
        refine l_iconst (v := 5) (pc := 209) hc dL_does_209 (by decide) ?_
        refine l_icmp_eq (pc := 210) hc dL_does_210 246 (by decide) (fun c210 => ?_) (fun c210 => ?_)
        · have oc210 := c210
          have c210 : cN (aF A) = 5 := (nI_eq (a := cN (aF A)) (b := 5) (by omega) (by omega)).mp c210
          refine l_iconst (v := 1) (pc := 246) hc dL_does_246 (by decide) ?_
          refine l_goto (pc := 247) hc dL_does_247 251 (by decide) ?_
          exact hret _ _ _ _ _ dL_does_251 ⟨rfl, hG2⟩
        · have oc210 := c210
          have c210 : ¬ cN (aF A) = 5 := fun h9 => c210 ((nI_eq (a := cN (aF A)) (b := 5) (by omega) (by omega)).mpr h9)
          refine l_aload_n (pc := 213) hc dL_does_213 3 rfl ?_
          refine l_iload (pc := 214) hc dL_does_214 1 rfl ?_
          refine l_iconst (v := 0) (pc := 216) hc dL_does_216 (by decide) ?_
          refine l_q (pc := 217) hc cl_L_18 rfl [.int (nI (cN (aF A))), .int 0] (fun G hG9 => C_saintOf hI (kl K) G (nI (cN (aF A))) 0 A2 (B + 200000) hG9 hG2.1.1 hG2.1.2 hB2) rfl rfl (by simp [Value.category]) rfl rfl ⟨by decide, by decide⟩ dL_does_217 ?_
          refine l_as (nI dy) (by rw [eA2]; exact (saint_in hc5 (by omega) (day_in hdy) (in_sub (c := 40) (by omega) (by omega) rfl rfl rfl) (in_sub (c := 20) (by omega) (by omega) rfl rfl rfl) (in_19 htc)).1) ?_
          refine l_iload (pc := 220) hc dL_does_220 2 rfl ?_
          refine l_icmp_ne (pc := 222) hc dL_does_222 250 (by decide) (fun c222 => ?_) (fun c222 => ?_)
          · exact absurd rfl c222
          · have oc222 := c222
            have c222 : dy = dy := (nI_eq (a := dy) (b := dy) (by omega) (by omega)).mp c222
            refine l_aload_n (pc := 225) hc dL_does_225 3 rfl ?_
            refine l_iload (pc := 226) hc dL_does_226 1 rfl ?_
            refine l_iconst (v := 3) (pc := 228) hc dL_does_228 (by decide) ?_
            refine l_q (pc := 229) hc cl_L_18 rfl [.int (nI (cN (aF A))), .int 3] (fun G hG9 => C_saintOf hI (kl K) G (nI (cN (aF A))) 3 A2 (B + 200000) hG9 hG2.1.1 hG2.1.2 hB2) rfl rfl (by simp [Value.category]) rfl rfl ⟨by decide, by decide⟩ dL_does_229 ?_
            refine l_as (nI (1 + tc)) (by rw [eA2]; exact (saint_in hc5 (by omega) (day_in hdy) (in_sub (c := 40) (by omega) (by omega) rfl rfl rfl) (in_sub (c := 20) (by omega) (by omega) rfl rfl rfl) (in_19 htc)).2) ?_
            refine l_iconst (v := 1) (pc := 232) hc dL_does_232 (by decide) ?_
            refine l_iload_n (pc := 233) hc dL_does_233 5 rfl ?_
            refine l_bipush (v := 18) (pc := 234) hc dL_does_234 (by decide) ?_
            refine l_ishr (pc := 236) hc dL_does_236 ?_
            refine l_bipush (v := 9) (pc := 237) hc dL_does_237 (by decide) ?_
            refine l_s (pc := 239) hc cl_L_64 [.int (w0 >>> (18 &&& 31)), .int 9] (l_low hI (kl K) A2 D (w0 >>> (18 &&& 31)) 9 (by decide)) rfl rfl (by simp [Value.category]) rfl rfl ⟨by decide, by decide⟩ dL_does_239 (fun r239 Aa239 Da239 q239 => ?_)
            obtain ⟨er239, eAa239, eDa239⟩ := q239
            rw [eAa239, eDa239]
            subst er239
            refine l_as (nI tc) etc ?_
            refine l_iadd (pc := 242) hc dL_does_242 ?_
            refine l_as (nI (1 + tc)) (nI_add _ _) ?_
            refine l_icmp_ne (pc := 243) hc dL_does_243 250 (by decide) (fun c243 => ?_) (fun c243 => ?_)
            · exact absurd rfl c243
            · have oc243 := c243
              have c243 : 1 + tc = 1 + tc := (nI_eq (a := 1 + tc) (b := 1 + tc) (by omega) (by omega)).mp c243
              refine l_iconst (v := 1) (pc := 246) hc dL_does_246 (by decide) ?_
              refine l_goto (pc := 247) hc dL_does_247 251 (by decide) ?_
              exact hret _ _ _ _ _ dL_does_251 ⟨rfl, hG2⟩
    refine l_icmp_ne (pc := 194) hc dL_does_194 202 (by decide) (fun c194 => ?_) (fun c194 => ?_)
    · have oc194 := c194
      have c194 : ¬ cN (aF A) = 5 := fun h9 => c194 ((nI_eq (a := cN (aF A)) (b := 5) (by omega) (by omega)).mpr h9)
      refine l_iload (pc := 202) hc dL_does_202 1 rfl ?_
      exact j204 _ (by rw [if_neg oc194])
    · have oc194 := c194
      have c194 : cN (aF A) = 5 := (nI_eq (a := cN (aF A)) (b := 5) (by omega) (by omega)).mp c194
      refine l_bipush (v := (-3)) (pc := 197) hc dL_does_197 (by decide) ?_
      refine l_goto (pc := 199) hc dL_does_199 204 (by decide) ?_
      exact j204 _ (by rw [if_pos oc194])
  by_cases hs2 : cs = 2
  · refine l_as (nI 2) (congrArg nI hs2) ?_
    refine l_tableIn (pc := 14) (off := 238) hc dL_does_14 (by decide) (by decide) rfl 252 (by decide) ?_
    refine l_aload_n (pc := 252) hc dL_does_252 1 rfl ?_
    refine l_iconst (v := 3) (pc := 253) hc dL_does_253 (by decide) ?_
    refine l_q (pc := 254) hc cl_L_8 rfl [.int 3] (fun G hG9 => C_count hI (kl K) G 3 A B hG9 hV hZ hB) rfl rfl (by simp [Value.category]) rfl rfl ⟨by decide, by decide⟩ dL_does_254 ?_
    refine l_as (nI (cN (aF A))) ((qc_3 A).trans e307) ?_
    refine l_istore (pc := 257) (L' := [(9, .int (nI (cN (aF A)))), (4, .int (nI dy)), (0, .ref (w.2.2 0)), (1, .int v), (2, .int w0), (3, .ref (w.2.2 239))]) hc dL_does_257 (by decide) rfl ?_
    refine l_iload_n (pc := 259) hc dL_does_259 4 rfl ?_
    refine l_bipush (v := 6) (pc := 260) hc dL_does_260 (by decide) ?_
    obtain ⟨st, hst, est⟩ := low_nI w0 (m := 6) (by omega) (by omega)
    refine l_s (pc := 262) hc cl_L_64 [.int w0, .int 6] (l_low hI (kl K) A D w0 6 (by decide)) rfl rfl (by simp [Value.category]) rfl rfl ⟨by decide, by decide⟩ dL_does_262 (fun r262 Aa262 Da262 q262 => ?_)
    obtain ⟨er262, eAa262, eDa262⟩ := q262
    rw [eAa262, eDa262]
    subst er262
    refine l_as (nI st) est ?_
    refine l_istore (pc := 265) (L' := [(10, .int (nI st)), (9, .int (nI (cN (aF A)))), (4, .int (nI dy)), (0, .ref (w.2.2 0)), (1, .int v), (2, .int w0), (3, .ref (w.2.2 239))]) hc dL_does_265 (by decide) rfl ?_
    refine l_iload_n (pc := 267) hc dL_does_267 4 rfl ?_
    refine l_iconst (v := 5) (pc := 268) hc dL_does_268 (by decide) ?_
    refine l_ishr (pc := 269) hc dL_does_269 ?_
    refine l_iconst (v := 1) (pc := 270) hc dL_does_270 (by decide) ?_
    refine l_iand (pc := 271) hc dL_does_271 ?_
    refine l_if_eq (pc := 272) hc dL_does_272 299 (by decide) (fun c272 => ?_) (fun c272 => ?_)
    · refine l_iconst (v := 1) (pc := 299) hc dL_does_299 (by decide) ?_
      refine l_goto (pc := 300) hc dL_does_300 304 (by decide) ?_
      exact hret _ _ _ _ _ dL_does_304 ⟨rfl, LG_mono (by omega) hG⟩
    · refine l_aload_n (pc := 275) hc dL_does_275 3 rfl ?_
      refine l_iload (pc := 276) hc dL_does_276 0 rfl ?_
      refine l_q (pc := 278) (A' := (tStrike A (nI st))) hc cl_L_74 rfl [.int (nI st)] (fun G hG9 => C_strike hI (kl K) G (nI st) A B hG9 hV hZ hB) rfl rfl (by simp [Value.category]) rfl rfl ⟨by decide, by decide⟩ dL_does_278 ?_
      refine l_An (fun A2 eA2 => ?_)
      have hG2 : LG A2 (B + 200000) := by rw [eA2]; exact LG_mono (by omega) (LG_strike (by omega) hG _)
      have hB2 : B + 200000 + 1 < 2 ^ 30 := by omega
      refine l_as (if nI (cN (aF A)) ≤ nI st then -1 else nI (cN (aF A)) - 1) (strike_q hc5 (by omega)) ?_
      refine l_iload (pc := 281) hc dL_does_281 0 rfl ?_
      refine l_iload (pc := 283) hc dL_does_283 1 rfl ?_
      have j296 : ∀ v296 : Int32, v296 = (if (nI (cN (aF A))) ≤ (nI st) then (-1) else ((nI (cN (aF A))) - 1)) → LX w K 21 A2 D 296 [(10, .int (nI st)), (9, .int (nI (cN (aF A)))), (4, .int (nI dy)), (0, .ref (w.2.2 0)), (1, .int v), (2, .int w0), (3, .ref (w.2.2 239))] [.int v296, .int (if nI (cN (aF A)) ≤ nI st then -1 else nI (cN (aF A)) - 1)] := by
        intro v296 hv296
        refine l_as (if nI (cN (aF A)) ≤ nI st then -1 else nI (cN (aF A)) - 1) hv296 ?_
        refine l_icmp_ne (pc := 296) hc dL_does_296 303 (by decide) (fun c296 => ?_) (fun c296 => ?_)
        · exact absurd rfl c296
        · refine l_iconst (v := 1) (pc := 299) hc dL_does_299 (by decide) ?_
          refine l_goto (pc := 300) hc dL_does_300 304 (by decide) ?_
          exact hret _ _ _ _ _ dL_does_304 ⟨rfl, hG2⟩
      refine l_icmp_ge (pc := 285) hc dL_does_285 295 (by decide) (fun c285 => ?_) (fun c285 => ?_)
      · have oc285 := c285
        have c285 : cN (aF A) ≤ st := (nI_leI (a := cN (aF A)) (b := st) (by omega) (by omega)).mp c285
        refine l_iconst (v := (-1)) (pc := 295) hc dL_does_295 (by decide) ?_
        exact j296 _ (by rw [if_pos oc285])
      · have oc285 := c285
        have c285 : ¬ cN (aF A) ≤ st := fun h9 => c285 ((nI_leI (a := cN (aF A)) (b := st) (by omega) (by omega)).mpr h9)
        refine l_iload (pc := 288) hc dL_does_288 1 rfl ?_
        refine l_iconst (v := 1) (pc := 290) hc dL_does_290 (by decide) ?_
        refine l_isub (pc := 291) hc dL_does_291 ?_
        refine l_goto (pc := 292) hc dL_does_292 296 (by decide) ?_
        exact j296 _ (by rw [if_neg oc285])
  by_cases hs3 : cs = 3
  · refine l_as (nI 3) (congrArg nI hs3) ?_
    refine l_tableIn (pc := 14) (off := 291) hc dL_does_14 (by decide) (by decide) rfl 305 (by decide) ?_
    refine l_iload_n (pc := 305) hc dL_does_305 2 rfl ?_
    refine l_iconst (v := 5) (pc := 306) hc dL_does_306 (by decide) ?_
    refine l_ishr (pc := 307) hc dL_does_307 ?_
    refine l_iconst (v := 4) (pc := 308) hc dL_does_308 (by decide) ?_
    obtain ⟨wh, hwh, ewh⟩ := low_nI (v >>> (5 &&& 31)) (m := 4) (by omega) (by omega)
    refine l_s (pc := 309) hc cl_L_64 [.int (v >>> (5 &&& 31)), .int 4] (l_low hI (kl K) A D (v >>> (5 &&& 31)) 4 (by decide)) rfl rfl (by simp [Value.category]) rfl rfl ⟨by decide, by decide⟩ dL_does_309 (fun r309 Aa309 Da309 q309 => ?_)
    obtain ⟨er309, eAa309, eDa309⟩ := q309
    rw [eAa309, eDa309]
    subst er309
    refine l_as (nI wh) ewh ?_
    refine l_istore (pc := 312) (L' := [(11, .int (nI wh)), (4, .int (nI dy)), (0, .ref (w.2.2 0)), (1, .int v), (2, .int w0), (3, .ref (w.2.2 239))]) hc dL_does_312 (by decide) rfl ?_
    refine l_iload (pc := 314) hc dL_does_314 0 rfl ?_
    have j369 : ∀ v369 : Int32, v369 = (if (nI wh) = 0 then (lowI w0 10) else (if (nI wh) = 1 then (lowI w0 101) else (if (nI wh) = 2 then ((lowI w0 41) - 20) else (1 + (lowI w0 9))))) → LX w K 21 A D 369 [(11, .int (nI wh)), (4, .int (nI dy)), (0, .ref (w.2.2 0)), (1, .int v), (2, .int w0), (3, .ref (w.2.2 239))] [.int v369] := by
      intro v369 hv369
      refine l_istore (pc := 369) (L' := [(12, .int v369), (11, .int (nI wh)), (4, .int (nI dy)), (0, .ref (w.2.2 0)), (1, .int v), (2, .int w0), (3, .ref (w.2.2 239))]) hc dL_does_369 (by decide) rfl ?_
      refine l_aload_n (pc := 371) hc dL_does_371 3 rfl ?_
      refine l_bipush (v := 12) (pc := 372) hc dL_does_372 (by decide) ?_
      refine l_iload (pc := 374) hc dL_does_374 1 rfl ?_
      refine l_iadd (pc := 376) hc dL_does_376 ?_
      refine l_as (nI (12 + wh)) (nI_add _ _) ?_
      refine l_q (pc := 377) hc cl_L_8 rfl [.int (nI (12 + wh))] (fun G hG9 => C_count hI (kl K) G (nI (12 + wh)) A B hG9 hV hZ hB) rfl rfl (by simp [Value.category]) rfl rfl ⟨by decide, by decide⟩ dL_does_377 ?_
      refine l_as (aF A (303 + wh) + 1000) (qc_s A (by omega)) ?_
      refine l_istore (pc := 380) (L' := [(13, .int (aF A (303 + wh) + 1000)), (12, .int v369), (11, .int (nI wh)), (4, .int (nI dy)), (0, .ref (w.2.2 0)), (1, .int v), (2, .int w0), (3, .ref (w.2.2 239))]) hc dL_does_380 (by decide) rfl ?_
      refine l_aload_n (pc := 382) hc dL_does_382 4 rfl ?_
      refine l_iload (pc := 383) hc dL_does_383 2 rfl ?_
      refine l_iload (pc := 385) hc dL_does_385 1 rfl ?_
      refine l_qz (pc := 387) (A' := (tSet A (nI wh) v369)) hc cl_L_77 rfl [.int (nI wh), .int v369] (fun G hG9 => C_set hI (kl K) G (nI wh) v369 A B hG9 hV hZ hB) hZ9 rfl rfl (by simp [Value.category]) rfl rfl ⟨by decide, by decide⟩ dL_does_387 ?_
      refine l_An (fun A2 eA2 => ?_)
      have hG2 : LG A2 (B + 200000) := by rw [eA2]; exact LG_mono (by omega) (LG_set (by omega) hG _ _)
      have hB2 : B + 200000 + 1 < 2 ^ 30 := by omega
      refine l_as (if aF A (303 + wh) + 1000 = v369 + 1000 then -5 else aF A (303 + wh) + 1000) (set_q (by omega) (can_set (by omega) hv369)) ?_
      refine l_iload (pc := 390) hc dL_does_390 0 rfl ?_
      refine l_iload (pc := 392) hc dL_does_392 1 rfl ?_
      refine l_sipush (v := 1000) (pc := 394) hc dL_does_394 (by decide) ?_
      refine l_iadd (pc := 397) hc dL_does_397 ?_
      have j408 : ∀ v408 : Int32, v408 = (if (aF A (303 + wh) + 1000) = (v369 + 1000) then (-5) else (aF A (303 + wh) + 1000)) → LX w K 21 A2 D 408 [(13, .int (aF A (303 + wh) + 1000)), (12, .int v369), (11, .int (nI wh)), (4, .int (nI dy)), (0, .ref (w.2.2 0)), (1, .int v), (2, .int w0), (3, .ref (w.2.2 239))] [.int v408, .int (if aF A (303 + wh) + 1000 = v369 + 1000 then -5 else aF A (303 + wh) + 1000)] := by
        intro v408 hv408
        refine l_as (if aF A (303 + wh) + 1000 = v369 + 1000 then -5 else aF A (303 + wh) + 1000) hv408 ?_
        refine l_icmp_ne (pc := 408) hc dL_does_408 433 (by decide) (fun c408 => ?_) (fun c408 => ?_)
        · exact absurd rfl c408
        · refine l_aload_n (pc := 411) hc dL_does_411 4 rfl ?_
          refine l_bipush (v := 12) (pc := 412) hc dL_does_412 (by decide) ?_
          refine l_iload (pc := 414) hc dL_does_414 2 rfl ?_
          refine l_iadd (pc := 416) hc dL_does_416 ?_
          refine l_as (nI (12 + wh)) (nI_add _ _) ?_
          refine l_q (pc := 417) hc cl_L_8 rfl [.int (nI (12 + wh))] (fun G hG9 => C_count hI (kl K) G (nI (12 + wh)) A2 (B + 200000) hG9 hG2.1.1 hG2.1.2 hB2) rfl rfl (by simp [Value.category]) rfl rfl ⟨by decide, by decide⟩ dL_does_417 ?_
          refine l_as (v369 + 1000) (by rw [eA2]; exact set_c (by omega) (can_set (by omega) hv369)) ?_
          refine l_iload (pc := 420) hc dL_does_420 1 rfl ?_
          refine l_sipush (v := 1000) (pc := 422) hc dL_does_422 (by decide) ?_
          refine l_iadd (pc := 425) hc dL_does_425 ?_
          refine l_icmp_ne (pc := 426) hc dL_does_426 433 (by decide) (fun c426 => ?_) (fun c426 => ?_)
          · exact absurd rfl c426
          · refine l_iconst (v := 1) (pc := 429) hc dL_does_429 (by decide) ?_
            refine l_goto (pc := 430) hc dL_does_430 434 (by decide) ?_
            exact hret _ _ _ _ _ dL_does_434 ⟨rfl, hG2⟩
      refine l_icmp_ne (pc := 398) hc dL_does_398 406 (by decide) (fun c398 => ?_) (fun c398 => ?_)
      · refine l_iload (pc := 406) hc dL_does_406 0 rfl ?_
        exact j408 _ (by rw [if_neg c398])
      · refine l_bipush (v := (-5)) (pc := 401) hc dL_does_401 (by decide) ?_
        refine l_goto (pc := 403) hc dL_does_403 408 (by decide) ?_
        exact j408 _ (by rw [if_pos c398])
    refine l_if_ne (pc := 316) hc dL_does_316 328 (by decide) (fun c316 => ?_) (fun c316 => ?_)
    · have oc316 := c316
      have c316 : ¬ wh = 0 := fun h9 => c316 ((nI_eq (a := wh) (b := 0) (by omega) (by omega)).mpr h9)
      refine l_iload (pc := 328) hc dL_does_328 0 rfl ?_
      refine l_iconst (v := 1) (pc := 330) hc dL_does_330 (by decide) ?_
      refine l_icmp_ne (pc := 331) hc dL_does_331 343 (by decide) (fun c331 => ?_) (fun c331 => ?_)
      · have oc331 := c331
        have c331 : ¬ wh = 1 := fun h9 => c331 ((nI_eq (a := wh) (b := 1) (by omega) (by omega)).mpr h9)
        refine l_iload (pc := 343) hc dL_does_343 0 rfl ?_
        refine l_iconst (v := 2) (pc := 345) hc dL_does_345 (by decide) ?_
        refine l_icmp_ne (pc := 346) hc dL_does_346 361 (by decide) (fun c346 => ?_) (fun c346 => ?_)
        · have oc346 := c346
          have c346 : ¬ wh = 2 := fun h9 => c346 ((nI_eq (a := wh) (b := 2) (by omega) (by omega)).mpr h9)
          refine l_iconst (v := 1) (pc := 361) hc dL_does_361 (by decide) ?_
          refine l_iload_n (pc := 362) hc dL_does_362 4 rfl ?_
          refine l_bipush (v := 9) (pc := 363) hc dL_does_363 (by decide) ?_
          refine l_s (pc := 365) hc cl_L_64 [.int w0, .int 9] (l_low hI (kl K) A D w0 9 (by decide)) rfl rfl (by simp [Value.category]) rfl rfl ⟨by decide, by decide⟩ dL_does_365 (fun r365 Aa365 Da365 q365 => ?_)
          obtain ⟨er365, eAa365, eDa365⟩ := q365
          rw [eAa365, eDa365]
          subst er365
          refine l_iadd (pc := 368) hc dL_does_368 ?_
          exact j369 _ (by rw [if_neg oc316, if_neg oc331, if_neg oc346])
        · have oc346 := c346
          have c346 : wh = 2 := (nI_eq (a := wh) (b := 2) (by omega) (by omega)).mp c346
          refine l_iload_n (pc := 349) hc dL_does_349 4 rfl ?_
          refine l_bipush (v := 41) (pc := 350) hc dL_does_350 (by decide) ?_
          refine l_s (pc := 352) hc cl_L_64 [.int w0, .int 41] (l_low hI (kl K) A D w0 41 (by decide)) rfl rfl (by simp [Value.category]) rfl rfl ⟨by decide, by decide⟩ dL_does_352 (fun r352 Aa352 Da352 q352 => ?_)
          obtain ⟨er352, eAa352, eDa352⟩ := q352
          rw [eAa352, eDa352]
          subst er352
          refine l_bipush (v := 20) (pc := 355) hc dL_does_355 (by decide) ?_
          refine l_isub (pc := 357) hc dL_does_357 ?_
          refine l_goto (pc := 358) hc dL_does_358 369 (by decide) ?_
          exact j369 _ (by rw [if_neg oc316, if_neg oc331, if_pos oc346])
      · have oc331 := c331
        have c331 : wh = 1 := (nI_eq (a := wh) (b := 1) (by omega) (by omega)).mp c331
        refine l_iload_n (pc := 334) hc dL_does_334 4 rfl ?_
        refine l_bipush (v := 101) (pc := 335) hc dL_does_335 (by decide) ?_
        refine l_s (pc := 337) hc cl_L_64 [.int w0, .int 101] (l_low hI (kl K) A D w0 101 (by decide)) rfl rfl (by simp [Value.category]) rfl rfl ⟨by decide, by decide⟩ dL_does_337 (fun r337 Aa337 Da337 q337 => ?_)
        obtain ⟨er337, eAa337, eDa337⟩ := q337
        rw [eAa337, eDa337]
        subst er337
        refine l_goto (pc := 340) hc dL_does_340 369 (by decide) ?_
        exact j369 _ (by rw [if_neg oc316, if_pos oc331])
    · have oc316 := c316
      have c316 : wh = 0 := (nI_eq (a := wh) (b := 0) (by omega) (by omega)).mp c316
      refine l_iload_n (pc := 319) hc dL_does_319 4 rfl ?_
      refine l_bipush (v := 10) (pc := 320) hc dL_does_320 (by decide) ?_
      refine l_s (pc := 322) hc cl_L_64 [.int w0, .int 10] (l_low hI (kl K) A D w0 10 (by decide)) rfl rfl (by simp [Value.category]) rfl rfl ⟨by decide, by decide⟩ dL_does_322 (fun r322 Aa322 Da322 q322 => ?_)
      obtain ⟨er322, eAa322, eDa322⟩ := q322
      rw [eAa322, eDa322]
      subst er322
      refine l_goto (pc := 325) hc dL_does_325 369 (by decide) ?_
      exact j369 _ (by rw [if_pos oc316])
  by_cases hs4 : cs = 4
  · refine l_as (nI 4) (congrArg nI hs4) ?_
    refine l_tableIn (pc := 14) (off := 421) hc dL_does_14 (by decide) (by decide) rfl 435 (by decide) ?_
    refine l_iload_n (pc := 435) hc dL_does_435 3 rfl ?_
    refine l_iconst (v := 3) (pc := 436) hc dL_does_436 (by decide) ?_
    obtain ⟨rd, hrd, erd⟩ := and3 w0
    refine l_iand (pc := 437) hc dL_does_437 ?_
    refine l_as (nI rd) erd ?_
    refine l_istore (pc := 438) (L' := [(14, .int (nI rd)), (4, .int (nI dy)), (0, .ref (w.2.2 0)), (1, .int v), (2, .int w0), (3, .ref (w.2.2 239))]) hc dL_does_438 (by decide) rfl ?_
    refine l_aload_n (pc := 440) hc dL_does_440 2 rfl ?_
    refine l_iload (pc := 441) hc dL_does_441 0 rfl ?_
    refine l_iconst (v := 0) (pc := 443) hc dL_does_443 (by decide) ?_
    refine l_q (pc := 444) hc cl_L_39 rfl [.int (nI rd), .int 0] (fun G hG9 => C_readerOf hI (kl K) G (nI rd) 0 A B hG9 hV hZ hB) rfl rfl (by simp [Value.category]) rfl rfl ⟨by decide, by decide⟩ dL_does_444 ?_
    refine l_as (aF A (328 + 5 * rd + 0)) (qr_j A (k := rd) (j := 0) (by omega) (by omega)) ?_
    refine l_istore (pc := 447) (L' := [(15, .int (aF A (328 + 5 * rd + 0))), (14, .int (nI rd)), (4, .int (nI dy)), (0, .ref (w.2.2 0)), (1, .int v), (2, .int w0), (3, .ref (w.2.2 239))]) hc dL_does_447 (by decide) rfl ?_
    refine l_iconst (v := 1) (pc := 449) hc dL_does_449 (by decide) ?_
    refine l_iload_n (pc := 450) hc dL_does_450 5 rfl ?_
    refine l_iconst (v := 2) (pc := 451) hc dL_does_451 (by decide) ?_
    refine l_ishr (pc := 452) hc dL_does_452 ?_
    refine l_bipush (v := 60) (pc := 453) hc dL_does_453 (by decide) ?_
    obtain ⟨cz, hcz, ecz⟩ := low_nI (w0 >>> (2 &&& 31)) (m := 60) (by omega) (by omega)
    refine l_s (pc := 455) hc cl_L_64 [.int (w0 >>> (2 &&& 31)), .int 60] (l_low hI (kl K) A D (w0 >>> (2 &&& 31)) 60 (by decide)) rfl rfl (by simp [Value.category]) rfl rfl ⟨by decide, by decide⟩ dL_does_455 (fun r455 Aa455 Da455 q455 => ?_)
    obtain ⟨er455, eAa455, eDa455⟩ := q455
    rw [eAa455, eDa455]
    subst er455
    refine l_as (nI cz) ecz ?_
    refine l_iadd (pc := 458) hc dL_does_458 ?_
    refine l_as (nI (1 + cz)) (nI_add _ _) ?_
    refine l_istore (pc := 459) (L' := [(16, .int (nI (1 + cz))), (15, .int (aF A (328 + 5 * rd + 0))), (14, .int (nI rd)), (4, .int (nI dy)), (0, .ref (w.2.2 0)), (1, .int v), (2, .int w0), (3, .ref (w.2.2 239))]) hc dL_does_459 (by decide) rfl ?_
    refine l_aload_n (pc := 461) hc dL_does_461 4 rfl ?_
    refine l_iload (pc := 462) hc dL_does_462 2 rfl ?_
    refine l_iconst (v := 1) (pc := 464) hc dL_does_464 (by decide) ?_
    refine l_q (pc := 465) hc cl_L_39 rfl [.int (nI rd), .int 1] (fun G hG9 => C_readerOf hI (kl K) G (nI rd) 1 A B hG9 hV hZ hB) rfl rfl (by simp [Value.category]) rfl rfl ⟨by decide, by decide⟩ dL_does_465 ?_
    refine l_as (aF A (328 + 5 * rd + 1)) (qr_j A (k := rd) (j := 1) (by omega) (by omega)) ?_
    have j483 : ∀ v483 : Int32, v483 = (if (aF A (328 + 5 * rd + 1)) = 0 then (if (aF A (328 + 5 * rd + 0)) < (nI (1 + cz)) then 0 else 1) else 0) → LX w K 21 A D 483 [(16, .int (nI (1 + cz))), (15, .int (aF A (328 + 5 * rd + 0))), (14, .int (nI rd)), (4, .int (nI dy)), (0, .ref (w.2.2 0)), (1, .int v), (2, .int w0), (3, .ref (w.2.2 239))] [.int v483] := by
      intro v483 hv483
      refine l_as (b01 (aF A (328 + 5 * rd + 1) = 0 ∧ ¬ aF A (328 + 5 * rd + 0) < nI (1 + cz))) (hv483.trans can_eq) ?_
      refine l_istore (pc := 483) (L' := [(17, .int (b01 (aF A (328 + 5 * rd + 1) = 0 ∧ ¬ aF A (328 + 5 * rd + 0) < nI (1 + cz)))), (16, .int (nI (1 + cz))), (15, .int (aF A (328 + 5 * rd + 0))), (14, .int (nI rd)), (4, .int (nI dy)), (0, .ref (w.2.2 0)), (1, .int v), (2, .int w0), (3, .ref (w.2.2 239))]) hc dL_does_483 (by decide) rfl ?_
      refine l_aload_n (pc := 485) hc dL_does_485 5 rfl ?_
      refine l_iload (pc := 486) hc dL_does_486 3 rfl ?_
      refine l_iload_n (pc := 488) hc dL_does_488 7 rfl ?_
      refine l_bipush (v := 9) (pc := 489) hc dL_does_489 (by decide) ?_
      refine l_ishr (pc := 491) hc dL_does_491 ?_
      refine l_iconst (v := 1) (pc := 492) hc dL_does_492 (by decide) ?_
      refine l_iand (pc := 493) hc dL_does_493 ?_
      refine l_iconst (v := 1) (pc := 494) hc dL_does_494 (by decide) ?_
      have j503 : ∀ v503 : Int32, v503 = (if ((w0 >>> (9 &&& 31)) &&& 1) = 1 then 1 else 0) → LX w K 21 A D 503 [(17, .int (b01 (aF A (328 + 5 * rd + 1) = 0 ∧ ¬ aF A (328 + 5 * rd + 0) < nI (1 + cz)))), (16, .int (nI (1 + cz))), (15, .int (aF A (328 + 5 * rd + 0))), (14, .int (nI rd)), (4, .int (nI dy)), (0, .ref (w.2.2 0)), (1, .int v), (2, .int w0), (3, .ref (w.2.2 239))] [.int v503, .int (nI rd), .ref (w.2.2 0)] := by
        intro v503 hv503
        refine l_as ((w0 >>> (9 &&& 31)) &&& 1) (hv503.trans (on_01 (and1 _))) ?_
        refine l_iload (pc := 503) hc dL_does_503 1 rfl ?_
        refine l_q (pc := 505) (A' := (tBet A (nI rd) ((w0 >>> (9 &&& 31)) &&& 1) (nI (1 + cz)))) hc cl_L_80 rfl [.int (nI rd), .int ((w0 >>> (9 &&& 31)) &&& 1), .int (nI (1 + cz))] (fun G hG9 => C_bet hI (kl K) G (nI rd) ((w0 >>> (9 &&& 31)) &&& 1) (nI (1 + cz)) A B hG9 hV hZ hB (and1 _)) rfl rfl (by simp [Value.category]) rfl rfl ⟨by decide, by decide⟩ dL_does_505 ?_
        refine l_An (fun A2 eA2 => ?_)
        have hG2 : LG A2 (B + 200000) := by rw [eA2]; exact LG_mono (by omega) (LG_bet (by omega) hG _ _ _ (and1 _))
        have hB2 : B + 200000 + 1 < 2 ^ 30 := by omega
        refine l_as (if b01 (aF A (328 + 5 * rd + 1) = 0 ∧ ¬ aF A (328 + 5 * rd + 0) < nI (1 + cz)) = 0 then -4 else aF A (328 + 5 * rd + 0) - nI (1 + cz)) (bet_q hV hrd hcz) ?_
        refine l_iload (pc := 508) hc dL_does_508 0 rfl ?_
        have j523 : ∀ v523 : Int32, v523 = (if (b01 (aF A (328 + 5 * rd + 1) = 0 ∧ ¬ aF A (328 + 5 * rd + 0) < nI (1 + cz))) = 0 then (-4) else ((aF A (328 + 5 * rd + 0)) - (nI (1 + cz)))) → LX w K 21 A2 D 523 [(17, .int (b01 (aF A (328 + 5 * rd + 1) = 0 ∧ ¬ aF A (328 + 5 * rd + 0) < nI (1 + cz)))), (16, .int (nI (1 + cz))), (15, .int (aF A (328 + 5 * rd + 0))), (14, .int (nI rd)), (4, .int (nI dy)), (0, .ref (w.2.2 0)), (1, .int v), (2, .int w0), (3, .ref (w.2.2 239))] [.int v523, .int (if b01 (aF A (328 + 5 * rd + 1) = 0 ∧ ¬ aF A (328 + 5 * rd + 0) < nI (1 + cz)) = 0 then -4 else aF A (328 + 5 * rd + 0) - nI (1 + cz))] := by
          intro v523 hv523
          refine l_as (if b01 (aF A (328 + 5 * rd + 1) = 0 ∧ ¬ aF A (328 + 5 * rd + 0) < nI (1 + cz)) = 0 then -4 else aF A (328 + 5 * rd + 0) - nI (1 + cz)) hv523 ?_
          refine l_icmp_ne (pc := 523) hc dL_does_523 563 (by decide) (fun c523 => ?_) (fun c523 => ?_)
          · exact absurd rfl c523
          · refine l_iload (pc := 526) hc dL_does_526 0 rfl ?_
            refine l_if_eq (pc := 528) hc dL_does_528 559 (by decide) (fun c528 => ?_) (fun c528 => ?_)
            · refine l_iconst (v := 1) (pc := 559) hc dL_does_559 (by decide) ?_
              refine l_goto (pc := 560) hc dL_does_560 564 (by decide) ?_
              exact hret _ _ _ _ _ dL_does_564 ⟨rfl, hG2⟩
            · have hcan := b01_f c528
              refine l_aload_n (pc := 531) hc dL_does_531 5 rfl ?_
              refine l_iload (pc := 532) hc dL_does_532 3 rfl ?_
              refine l_iconst (v := 1) (pc := 534) hc dL_does_534 (by decide) ?_
              refine l_q (pc := 535) hc cl_L_39 rfl [.int (nI rd), .int 1] (fun G hG9 => C_readerOf hI (kl K) G (nI rd) 1 A2 (B + 200000) hG9 hG2.1.1 hG2.1.2 hB2) rfl rfl (by simp [Value.category]) rfl rfl ⟨by decide, by decide⟩ dL_does_535 ?_
              refine l_as (nI (1 + cz)) (by rw [eA2]; exact (bet_in hV hrd hcz hcan).1) ?_
              refine l_iload (pc := 538) hc dL_does_538 1 rfl ?_
              refine l_icmp_ne (pc := 540) hc dL_does_540 563 (by decide) (fun c540 => ?_) (fun c540 => ?_)
              · exact absurd rfl c540
              · have oc540 := c540
                have c540 : 1 + cz = 1 + cz := (nI_eq (a := 1 + cz) (b := 1 + cz) (by omega) (by omega)).mp c540
                refine l_aload_n (pc := 543) hc dL_does_543 5 rfl ?_
                refine l_iload (pc := 544) hc dL_does_544 3 rfl ?_
                refine l_iconst (v := 2) (pc := 546) hc dL_does_546 (by decide) ?_
                refine l_q (pc := 547) hc cl_L_39 rfl [.int (nI rd), .int 2] (fun G hG9 => C_readerOf hI (kl K) G (nI rd) 2 A2 (B + 200000) hG9 hG2.1.1 hG2.1.2 hB2) rfl rfl (by simp [Value.category]) rfl rfl ⟨by decide, by decide⟩ dL_does_547 ?_
                refine l_as ((w0 >>> (9 &&& 31)) &&& 1) (by rw [eA2]; exact (bet_in hV hrd hcz hcan).2) ?_
                refine l_iload_n (pc := 550) hc dL_does_550 7 rfl ?_
                refine l_bipush (v := 9) (pc := 551) hc dL_does_551 (by decide) ?_
                refine l_ishr (pc := 553) hc dL_does_553 ?_
                refine l_iconst (v := 1) (pc := 554) hc dL_does_554 (by decide) ?_
                refine l_iand (pc := 555) hc dL_does_555 ?_
                refine l_icmp_ne (pc := 556) hc dL_does_556 563 (by decide) (fun c556 => ?_) (fun c556 => ?_)
                · exact absurd rfl c556
                · refine l_iconst (v := 1) (pc := 559) hc dL_does_559 (by decide) ?_
                  refine l_goto (pc := 560) hc dL_does_560 564 (by decide) ?_
                  exact hret _ _ _ _ _ dL_does_564 ⟨rfl, hG2⟩
        refine l_if_eq (pc := 510) hc dL_does_510 521 (by decide) (fun c510 => ?_) (fun c510 => ?_)
        · refine l_bipush (v := (-4)) (pc := 521) hc dL_does_521 (by decide) ?_
          exact j523 _ (by rw [if_pos c510])
        · refine l_iload (pc := 513) hc dL_does_513 2 rfl ?_
          refine l_iload (pc := 515) hc dL_does_515 1 rfl ?_
          refine l_isub (pc := 517) hc dL_does_517 ?_
          refine l_goto (pc := 518) hc dL_does_518 523 (by decide) ?_
          exact j523 _ (by rw [if_neg c510])
      refine l_icmp_ne (pc := 495) hc dL_does_495 502 (by decide) (fun c495 => ?_) (fun c495 => ?_)
      · refine l_iconst (v := 0) (pc := 502) hc dL_does_502 (by decide) ?_
        exact j503 _ (by rw [if_neg c495])
      · refine l_iconst (v := 1) (pc := 498) hc dL_does_498 (by decide) ?_
        refine l_goto (pc := 499) hc dL_does_499 503 (by decide) ?_
        exact j503 _ (by rw [if_pos c495])
    refine l_if_ne (pc := 468) hc dL_does_468 482 (by decide) (fun c468 => ?_) (fun c468 => ?_)
    · refine l_iconst (v := 0) (pc := 482) hc dL_does_482 (by decide) ?_
      exact j483 _ (by rw [if_neg c468])
    · refine l_iload (pc := 471) hc dL_does_471 1 rfl ?_
      refine l_iload (pc := 473) hc dL_does_473 0 rfl ?_
      refine l_icmp_lt (pc := 475) hc dL_does_475 482 (by decide) (fun c475 => ?_) (fun c475 => ?_)
      · refine l_iconst (v := 0) (pc := 482) hc dL_does_482 (by decide) ?_
        exact j483 _ (by rw [if_pos c468, if_pos c475])
      · refine l_iconst (v := 1) (pc := 478) hc dL_does_478 (by decide) ?_
        refine l_goto (pc := 479) hc dL_does_479 483 (by decide) ?_
        exact j483 _ (by rw [if_pos c468, if_neg c475])
  by_cases hs5 : cs = 5
  · refine l_as (nI 5) (congrArg nI hs5) ?_
    refine l_tableIn (pc := 14) (off := 421) hc dL_does_14 (by decide) (by decide) rfl 435 (by decide) ?_
    refine l_iload_n (pc := 435) hc dL_does_435 3 rfl ?_
    refine l_iconst (v := 3) (pc := 436) hc dL_does_436 (by decide) ?_
    obtain ⟨rd, hrd, erd⟩ := and3 w0
    refine l_iand (pc := 437) hc dL_does_437 ?_
    refine l_as (nI rd) erd ?_
    refine l_istore (pc := 438) (L' := [(14, .int (nI rd)), (4, .int (nI dy)), (0, .ref (w.2.2 0)), (1, .int v), (2, .int w0), (3, .ref (w.2.2 239))]) hc dL_does_438 (by decide) rfl ?_
    refine l_aload_n (pc := 440) hc dL_does_440 2 rfl ?_
    refine l_iload (pc := 441) hc dL_does_441 0 rfl ?_
    refine l_iconst (v := 0) (pc := 443) hc dL_does_443 (by decide) ?_
    refine l_q (pc := 444) hc cl_L_39 rfl [.int (nI rd), .int 0] (fun G hG9 => C_readerOf hI (kl K) G (nI rd) 0 A B hG9 hV hZ hB) rfl rfl (by simp [Value.category]) rfl rfl ⟨by decide, by decide⟩ dL_does_444 ?_
    refine l_as (aF A (328 + 5 * rd + 0)) (qr_j A (k := rd) (j := 0) (by omega) (by omega)) ?_
    refine l_istore (pc := 447) (L' := [(15, .int (aF A (328 + 5 * rd + 0))), (14, .int (nI rd)), (4, .int (nI dy)), (0, .ref (w.2.2 0)), (1, .int v), (2, .int w0), (3, .ref (w.2.2 239))]) hc dL_does_447 (by decide) rfl ?_
    refine l_iconst (v := 1) (pc := 449) hc dL_does_449 (by decide) ?_
    refine l_iload_n (pc := 450) hc dL_does_450 5 rfl ?_
    refine l_iconst (v := 2) (pc := 451) hc dL_does_451 (by decide) ?_
    refine l_ishr (pc := 452) hc dL_does_452 ?_
    refine l_bipush (v := 60) (pc := 453) hc dL_does_453 (by decide) ?_
    obtain ⟨cz, hcz, ecz⟩ := low_nI (w0 >>> (2 &&& 31)) (m := 60) (by omega) (by omega)
    refine l_s (pc := 455) hc cl_L_64 [.int (w0 >>> (2 &&& 31)), .int 60] (l_low hI (kl K) A D (w0 >>> (2 &&& 31)) 60 (by decide)) rfl rfl (by simp [Value.category]) rfl rfl ⟨by decide, by decide⟩ dL_does_455 (fun r455_1 Aa455_1 Da455_1 q455_1 => ?_)
    obtain ⟨er455_1, eAa455_1, eDa455_1⟩ := q455_1
    rw [eAa455_1, eDa455_1]
    subst er455_1
    refine l_as (nI cz) ecz ?_
    refine l_iadd (pc := 458) hc dL_does_458 ?_
    refine l_as (nI (1 + cz)) (nI_add _ _) ?_
    refine l_istore (pc := 459) (L' := [(16, .int (nI (1 + cz))), (15, .int (aF A (328 + 5 * rd + 0))), (14, .int (nI rd)), (4, .int (nI dy)), (0, .ref (w.2.2 0)), (1, .int v), (2, .int w0), (3, .ref (w.2.2 239))]) hc dL_does_459 (by decide) rfl ?_
    refine l_aload_n (pc := 461) hc dL_does_461 4 rfl ?_
    refine l_iload (pc := 462) hc dL_does_462 2 rfl ?_
    refine l_iconst (v := 1) (pc := 464) hc dL_does_464 (by decide) ?_
    refine l_q (pc := 465) hc cl_L_39 rfl [.int (nI rd), .int 1] (fun G hG9 => C_readerOf hI (kl K) G (nI rd) 1 A B hG9 hV hZ hB) rfl rfl (by simp [Value.category]) rfl rfl ⟨by decide, by decide⟩ dL_does_465 ?_
    refine l_as (aF A (328 + 5 * rd + 1)) (qr_j A (k := rd) (j := 1) (by omega) (by omega)) ?_
    have j483_1 : ∀ v483_1 : Int32, v483_1 = (if (aF A (328 + 5 * rd + 1)) = 0 then (if (aF A (328 + 5 * rd + 0)) < (nI (1 + cz)) then 0 else 1) else 0) → LX w K 21 A D 483 [(16, .int (nI (1 + cz))), (15, .int (aF A (328 + 5 * rd + 0))), (14, .int (nI rd)), (4, .int (nI dy)), (0, .ref (w.2.2 0)), (1, .int v), (2, .int w0), (3, .ref (w.2.2 239))] [.int v483_1] := by
      intro v483_1 hv483_1
      refine l_as (b01 (aF A (328 + 5 * rd + 1) = 0 ∧ ¬ aF A (328 + 5 * rd + 0) < nI (1 + cz))) (hv483_1.trans can_eq) ?_
      refine l_istore (pc := 483) (L' := [(17, .int (b01 (aF A (328 + 5 * rd + 1) = 0 ∧ ¬ aF A (328 + 5 * rd + 0) < nI (1 + cz)))), (16, .int (nI (1 + cz))), (15, .int (aF A (328 + 5 * rd + 0))), (14, .int (nI rd)), (4, .int (nI dy)), (0, .ref (w.2.2 0)), (1, .int v), (2, .int w0), (3, .ref (w.2.2 239))]) hc dL_does_483 (by decide) rfl ?_
      refine l_aload_n (pc := 485) hc dL_does_485 5 rfl ?_
      refine l_iload (pc := 486) hc dL_does_486 3 rfl ?_
      refine l_iload_n (pc := 488) hc dL_does_488 7 rfl ?_
      refine l_bipush (v := 9) (pc := 489) hc dL_does_489 (by decide) ?_
      refine l_ishr (pc := 491) hc dL_does_491 ?_
      refine l_iconst (v := 1) (pc := 492) hc dL_does_492 (by decide) ?_
      refine l_iand (pc := 493) hc dL_does_493 ?_
      refine l_iconst (v := 1) (pc := 494) hc dL_does_494 (by decide) ?_
      have j503_1 : ∀ v503_1 : Int32, v503_1 = (if ((w0 >>> (9 &&& 31)) &&& 1) = 1 then 1 else 0) → LX w K 21 A D 503 [(17, .int (b01 (aF A (328 + 5 * rd + 1) = 0 ∧ ¬ aF A (328 + 5 * rd + 0) < nI (1 + cz)))), (16, .int (nI (1 + cz))), (15, .int (aF A (328 + 5 * rd + 0))), (14, .int (nI rd)), (4, .int (nI dy)), (0, .ref (w.2.2 0)), (1, .int v), (2, .int w0), (3, .ref (w.2.2 239))] [.int v503_1, .int (nI rd), .ref (w.2.2 0)] := by
        intro v503_1 hv503_1
        refine l_as ((w0 >>> (9 &&& 31)) &&& 1) (hv503_1.trans (on_01 (and1 _))) ?_
        refine l_iload (pc := 503) hc dL_does_503 1 rfl ?_
        refine l_q (pc := 505) (A' := (tBet A (nI rd) ((w0 >>> (9 &&& 31)) &&& 1) (nI (1 + cz)))) hc cl_L_80 rfl [.int (nI rd), .int ((w0 >>> (9 &&& 31)) &&& 1), .int (nI (1 + cz))] (fun G hG9 => C_bet hI (kl K) G (nI rd) ((w0 >>> (9 &&& 31)) &&& 1) (nI (1 + cz)) A B hG9 hV hZ hB (and1 _)) rfl rfl (by simp [Value.category]) rfl rfl ⟨by decide, by decide⟩ dL_does_505 ?_
        refine l_An (fun A2 eA2 => ?_)
        have hG2 : LG A2 (B + 200000) := by rw [eA2]; exact LG_mono (by omega) (LG_bet (by omega) hG _ _ _ (and1 _))
        have hB2 : B + 200000 + 1 < 2 ^ 30 := by omega
        refine l_as (if b01 (aF A (328 + 5 * rd + 1) = 0 ∧ ¬ aF A (328 + 5 * rd + 0) < nI (1 + cz)) = 0 then -4 else aF A (328 + 5 * rd + 0) - nI (1 + cz)) (bet_q hV hrd hcz) ?_
        refine l_iload (pc := 508) hc dL_does_508 0 rfl ?_
        have j523_1 : ∀ v523_1 : Int32, v523_1 = (if (b01 (aF A (328 + 5 * rd + 1) = 0 ∧ ¬ aF A (328 + 5 * rd + 0) < nI (1 + cz))) = 0 then (-4) else ((aF A (328 + 5 * rd + 0)) - (nI (1 + cz)))) → LX w K 21 A2 D 523 [(17, .int (b01 (aF A (328 + 5 * rd + 1) = 0 ∧ ¬ aF A (328 + 5 * rd + 0) < nI (1 + cz)))), (16, .int (nI (1 + cz))), (15, .int (aF A (328 + 5 * rd + 0))), (14, .int (nI rd)), (4, .int (nI dy)), (0, .ref (w.2.2 0)), (1, .int v), (2, .int w0), (3, .ref (w.2.2 239))] [.int v523_1, .int (if b01 (aF A (328 + 5 * rd + 1) = 0 ∧ ¬ aF A (328 + 5 * rd + 0) < nI (1 + cz)) = 0 then -4 else aF A (328 + 5 * rd + 0) - nI (1 + cz))] := by
          intro v523_1 hv523_1
          refine l_as (if b01 (aF A (328 + 5 * rd + 1) = 0 ∧ ¬ aF A (328 + 5 * rd + 0) < nI (1 + cz)) = 0 then -4 else aF A (328 + 5 * rd + 0) - nI (1 + cz)) hv523_1 ?_
          refine l_icmp_ne (pc := 523) hc dL_does_523 563 (by decide) (fun c523_1 => ?_) (fun c523_1 => ?_)
          · exact absurd rfl c523_1
          · refine l_iload (pc := 526) hc dL_does_526 0 rfl ?_
            refine l_if_eq (pc := 528) hc dL_does_528 559 (by decide) (fun c528_1 => ?_) (fun c528_1 => ?_)
            · refine l_iconst (v := 1) (pc := 559) hc dL_does_559 (by decide) ?_
              refine l_goto (pc := 560) hc dL_does_560 564 (by decide) ?_
              exact hret _ _ _ _ _ dL_does_564 ⟨rfl, hG2⟩
            · have hcan := b01_f c528_1
              refine l_aload_n (pc := 531) hc dL_does_531 5 rfl ?_
              refine l_iload (pc := 532) hc dL_does_532 3 rfl ?_
              refine l_iconst (v := 1) (pc := 534) hc dL_does_534 (by decide) ?_
              refine l_q (pc := 535) hc cl_L_39 rfl [.int (nI rd), .int 1] (fun G hG9 => C_readerOf hI (kl K) G (nI rd) 1 A2 (B + 200000) hG9 hG2.1.1 hG2.1.2 hB2) rfl rfl (by simp [Value.category]) rfl rfl ⟨by decide, by decide⟩ dL_does_535 ?_
              refine l_as (nI (1 + cz)) (by rw [eA2]; exact (bet_in hV hrd hcz hcan).1) ?_
              refine l_iload (pc := 538) hc dL_does_538 1 rfl ?_
              refine l_icmp_ne (pc := 540) hc dL_does_540 563 (by decide) (fun c540_1 => ?_) (fun c540_1 => ?_)
              · exact absurd rfl c540_1
              · have oc540_1 := c540_1
                have c540_1 : 1 + cz = 1 + cz := (nI_eq (a := 1 + cz) (b := 1 + cz) (by omega) (by omega)).mp c540_1
                refine l_aload_n (pc := 543) hc dL_does_543 5 rfl ?_
                refine l_iload (pc := 544) hc dL_does_544 3 rfl ?_
                refine l_iconst (v := 2) (pc := 546) hc dL_does_546 (by decide) ?_
                refine l_q (pc := 547) hc cl_L_39 rfl [.int (nI rd), .int 2] (fun G hG9 => C_readerOf hI (kl K) G (nI rd) 2 A2 (B + 200000) hG9 hG2.1.1 hG2.1.2 hB2) rfl rfl (by simp [Value.category]) rfl rfl ⟨by decide, by decide⟩ dL_does_547 ?_
                refine l_as ((w0 >>> (9 &&& 31)) &&& 1) (by rw [eA2]; exact (bet_in hV hrd hcz hcan).2) ?_
                refine l_iload_n (pc := 550) hc dL_does_550 7 rfl ?_
                refine l_bipush (v := 9) (pc := 551) hc dL_does_551 (by decide) ?_
                refine l_ishr (pc := 553) hc dL_does_553 ?_
                refine l_iconst (v := 1) (pc := 554) hc dL_does_554 (by decide) ?_
                refine l_iand (pc := 555) hc dL_does_555 ?_
                refine l_icmp_ne (pc := 556) hc dL_does_556 563 (by decide) (fun c556_1 => ?_) (fun c556_1 => ?_)
                · exact absurd rfl c556_1
                · refine l_iconst (v := 1) (pc := 559) hc dL_does_559 (by decide) ?_
                  refine l_goto (pc := 560) hc dL_does_560 564 (by decide) ?_
                  exact hret _ _ _ _ _ dL_does_564 ⟨rfl, hG2⟩
        refine l_if_eq (pc := 510) hc dL_does_510 521 (by decide) (fun c510_1 => ?_) (fun c510_1 => ?_)
        · refine l_bipush (v := (-4)) (pc := 521) hc dL_does_521 (by decide) ?_
          exact j523_1 _ (by rw [if_pos c510_1])
        · refine l_iload (pc := 513) hc dL_does_513 2 rfl ?_
          refine l_iload (pc := 515) hc dL_does_515 1 rfl ?_
          refine l_isub (pc := 517) hc dL_does_517 ?_
          refine l_goto (pc := 518) hc dL_does_518 523 (by decide) ?_
          exact j523_1 _ (by rw [if_neg c510_1])
      refine l_icmp_ne (pc := 495) hc dL_does_495 502 (by decide) (fun c495_1 => ?_) (fun c495_1 => ?_)
      · refine l_iconst (v := 0) (pc := 502) hc dL_does_502 (by decide) ?_
        exact j503_1 _ (by rw [if_neg c495_1])
      · refine l_iconst (v := 1) (pc := 498) hc dL_does_498 (by decide) ?_
        refine l_goto (pc := 499) hc dL_does_499 503 (by decide) ?_
        exact j503_1 _ (by rw [if_pos c495_1])
    refine l_if_ne (pc := 468) hc dL_does_468 482 (by decide) (fun c468_1 => ?_) (fun c468_1 => ?_)
    · refine l_iconst (v := 0) (pc := 482) hc dL_does_482 (by decide) ?_
      exact j483_1 _ (by rw [if_neg c468_1])
    · refine l_iload (pc := 471) hc dL_does_471 1 rfl ?_
      refine l_iload (pc := 473) hc dL_does_473 0 rfl ?_
      refine l_icmp_lt (pc := 475) hc dL_does_475 482 (by decide) (fun c475_1 => ?_) (fun c475_1 => ?_)
      · refine l_iconst (v := 0) (pc := 482) hc dL_does_482 (by decide) ?_
        exact j483_1 _ (by rw [if_pos c468_1, if_pos c475_1])
      · refine l_iconst (v := 1) (pc := 478) hc dL_does_478 (by decide) ?_
        refine l_goto (pc := 479) hc dL_does_479 483 (by decide) ?_
        exact j483_1 _ (by rw [if_pos c468_1, if_neg c475_1])
  by_cases hs6 : cs = 6
  · refine l_as (nI 6) (congrArg nI hs6) ?_
    refine l_tableIn (pc := 14) (off := 421) hc dL_does_14 (by decide) (by decide) rfl 435 (by decide) ?_
    refine l_iload_n (pc := 435) hc dL_does_435 3 rfl ?_
    refine l_iconst (v := 3) (pc := 436) hc dL_does_436 (by decide) ?_
    obtain ⟨rd, hrd, erd⟩ := and3 w0
    refine l_iand (pc := 437) hc dL_does_437 ?_
    refine l_as (nI rd) erd ?_
    refine l_istore (pc := 438) (L' := [(14, .int (nI rd)), (4, .int (nI dy)), (0, .ref (w.2.2 0)), (1, .int v), (2, .int w0), (3, .ref (w.2.2 239))]) hc dL_does_438 (by decide) rfl ?_
    refine l_aload_n (pc := 440) hc dL_does_440 2 rfl ?_
    refine l_iload (pc := 441) hc dL_does_441 0 rfl ?_
    refine l_iconst (v := 0) (pc := 443) hc dL_does_443 (by decide) ?_
    refine l_q (pc := 444) hc cl_L_39 rfl [.int (nI rd), .int 0] (fun G hG9 => C_readerOf hI (kl K) G (nI rd) 0 A B hG9 hV hZ hB) rfl rfl (by simp [Value.category]) rfl rfl ⟨by decide, by decide⟩ dL_does_444 ?_
    refine l_as (aF A (328 + 5 * rd + 0)) (qr_j A (k := rd) (j := 0) (by omega) (by omega)) ?_
    refine l_istore (pc := 447) (L' := [(15, .int (aF A (328 + 5 * rd + 0))), (14, .int (nI rd)), (4, .int (nI dy)), (0, .ref (w.2.2 0)), (1, .int v), (2, .int w0), (3, .ref (w.2.2 239))]) hc dL_does_447 (by decide) rfl ?_
    refine l_iconst (v := 1) (pc := 449) hc dL_does_449 (by decide) ?_
    refine l_iload_n (pc := 450) hc dL_does_450 5 rfl ?_
    refine l_iconst (v := 2) (pc := 451) hc dL_does_451 (by decide) ?_
    refine l_ishr (pc := 452) hc dL_does_452 ?_
    refine l_bipush (v := 60) (pc := 453) hc dL_does_453 (by decide) ?_
    obtain ⟨cz, hcz, ecz⟩ := low_nI (w0 >>> (2 &&& 31)) (m := 60) (by omega) (by omega)
    refine l_s (pc := 455) hc cl_L_64 [.int (w0 >>> (2 &&& 31)), .int 60] (l_low hI (kl K) A D (w0 >>> (2 &&& 31)) 60 (by decide)) rfl rfl (by simp [Value.category]) rfl rfl ⟨by decide, by decide⟩ dL_does_455 (fun r455_2 Aa455_2 Da455_2 q455_2 => ?_)
    obtain ⟨er455_2, eAa455_2, eDa455_2⟩ := q455_2
    rw [eAa455_2, eDa455_2]
    subst er455_2
    refine l_as (nI cz) ecz ?_
    refine l_iadd (pc := 458) hc dL_does_458 ?_
    refine l_as (nI (1 + cz)) (nI_add _ _) ?_
    refine l_istore (pc := 459) (L' := [(16, .int (nI (1 + cz))), (15, .int (aF A (328 + 5 * rd + 0))), (14, .int (nI rd)), (4, .int (nI dy)), (0, .ref (w.2.2 0)), (1, .int v), (2, .int w0), (3, .ref (w.2.2 239))]) hc dL_does_459 (by decide) rfl ?_
    refine l_aload_n (pc := 461) hc dL_does_461 4 rfl ?_
    refine l_iload (pc := 462) hc dL_does_462 2 rfl ?_
    refine l_iconst (v := 1) (pc := 464) hc dL_does_464 (by decide) ?_
    refine l_q (pc := 465) hc cl_L_39 rfl [.int (nI rd), .int 1] (fun G hG9 => C_readerOf hI (kl K) G (nI rd) 1 A B hG9 hV hZ hB) rfl rfl (by simp [Value.category]) rfl rfl ⟨by decide, by decide⟩ dL_does_465 ?_
    refine l_as (aF A (328 + 5 * rd + 1)) (qr_j A (k := rd) (j := 1) (by omega) (by omega)) ?_
    have j483_2 : ∀ v483_2 : Int32, v483_2 = (if (aF A (328 + 5 * rd + 1)) = 0 then (if (aF A (328 + 5 * rd + 0)) < (nI (1 + cz)) then 0 else 1) else 0) → LX w K 21 A D 483 [(16, .int (nI (1 + cz))), (15, .int (aF A (328 + 5 * rd + 0))), (14, .int (nI rd)), (4, .int (nI dy)), (0, .ref (w.2.2 0)), (1, .int v), (2, .int w0), (3, .ref (w.2.2 239))] [.int v483_2] := by
      intro v483_2 hv483_2
      refine l_as (b01 (aF A (328 + 5 * rd + 1) = 0 ∧ ¬ aF A (328 + 5 * rd + 0) < nI (1 + cz))) (hv483_2.trans can_eq) ?_
      refine l_istore (pc := 483) (L' := [(17, .int (b01 (aF A (328 + 5 * rd + 1) = 0 ∧ ¬ aF A (328 + 5 * rd + 0) < nI (1 + cz)))), (16, .int (nI (1 + cz))), (15, .int (aF A (328 + 5 * rd + 0))), (14, .int (nI rd)), (4, .int (nI dy)), (0, .ref (w.2.2 0)), (1, .int v), (2, .int w0), (3, .ref (w.2.2 239))]) hc dL_does_483 (by decide) rfl ?_
      refine l_aload_n (pc := 485) hc dL_does_485 5 rfl ?_
      refine l_iload (pc := 486) hc dL_does_486 3 rfl ?_
      refine l_iload_n (pc := 488) hc dL_does_488 7 rfl ?_
      refine l_bipush (v := 9) (pc := 489) hc dL_does_489 (by decide) ?_
      refine l_ishr (pc := 491) hc dL_does_491 ?_
      refine l_iconst (v := 1) (pc := 492) hc dL_does_492 (by decide) ?_
      refine l_iand (pc := 493) hc dL_does_493 ?_
      refine l_iconst (v := 1) (pc := 494) hc dL_does_494 (by decide) ?_
      have j503_2 : ∀ v503_2 : Int32, v503_2 = (if ((w0 >>> (9 &&& 31)) &&& 1) = 1 then 1 else 0) → LX w K 21 A D 503 [(17, .int (b01 (aF A (328 + 5 * rd + 1) = 0 ∧ ¬ aF A (328 + 5 * rd + 0) < nI (1 + cz)))), (16, .int (nI (1 + cz))), (15, .int (aF A (328 + 5 * rd + 0))), (14, .int (nI rd)), (4, .int (nI dy)), (0, .ref (w.2.2 0)), (1, .int v), (2, .int w0), (3, .ref (w.2.2 239))] [.int v503_2, .int (nI rd), .ref (w.2.2 0)] := by
        intro v503_2 hv503_2
        refine l_as ((w0 >>> (9 &&& 31)) &&& 1) (hv503_2.trans (on_01 (and1 _))) ?_
        refine l_iload (pc := 503) hc dL_does_503 1 rfl ?_
        refine l_q (pc := 505) (A' := (tBet A (nI rd) ((w0 >>> (9 &&& 31)) &&& 1) (nI (1 + cz)))) hc cl_L_80 rfl [.int (nI rd), .int ((w0 >>> (9 &&& 31)) &&& 1), .int (nI (1 + cz))] (fun G hG9 => C_bet hI (kl K) G (nI rd) ((w0 >>> (9 &&& 31)) &&& 1) (nI (1 + cz)) A B hG9 hV hZ hB (and1 _)) rfl rfl (by simp [Value.category]) rfl rfl ⟨by decide, by decide⟩ dL_does_505 ?_
        refine l_An (fun A2 eA2 => ?_)
        have hG2 : LG A2 (B + 200000) := by rw [eA2]; exact LG_mono (by omega) (LG_bet (by omega) hG _ _ _ (and1 _))
        have hB2 : B + 200000 + 1 < 2 ^ 30 := by omega
        refine l_as (if b01 (aF A (328 + 5 * rd + 1) = 0 ∧ ¬ aF A (328 + 5 * rd + 0) < nI (1 + cz)) = 0 then -4 else aF A (328 + 5 * rd + 0) - nI (1 + cz)) (bet_q hV hrd hcz) ?_
        refine l_iload (pc := 508) hc dL_does_508 0 rfl ?_
        have j523_2 : ∀ v523_2 : Int32, v523_2 = (if (b01 (aF A (328 + 5 * rd + 1) = 0 ∧ ¬ aF A (328 + 5 * rd + 0) < nI (1 + cz))) = 0 then (-4) else ((aF A (328 + 5 * rd + 0)) - (nI (1 + cz)))) → LX w K 21 A2 D 523 [(17, .int (b01 (aF A (328 + 5 * rd + 1) = 0 ∧ ¬ aF A (328 + 5 * rd + 0) < nI (1 + cz)))), (16, .int (nI (1 + cz))), (15, .int (aF A (328 + 5 * rd + 0))), (14, .int (nI rd)), (4, .int (nI dy)), (0, .ref (w.2.2 0)), (1, .int v), (2, .int w0), (3, .ref (w.2.2 239))] [.int v523_2, .int (if b01 (aF A (328 + 5 * rd + 1) = 0 ∧ ¬ aF A (328 + 5 * rd + 0) < nI (1 + cz)) = 0 then -4 else aF A (328 + 5 * rd + 0) - nI (1 + cz))] := by
          intro v523_2 hv523_2
          refine l_as (if b01 (aF A (328 + 5 * rd + 1) = 0 ∧ ¬ aF A (328 + 5 * rd + 0) < nI (1 + cz)) = 0 then -4 else aF A (328 + 5 * rd + 0) - nI (1 + cz)) hv523_2 ?_
          refine l_icmp_ne (pc := 523) hc dL_does_523 563 (by decide) (fun c523_2 => ?_) (fun c523_2 => ?_)
          · exact absurd rfl c523_2
          · refine l_iload (pc := 526) hc dL_does_526 0 rfl ?_
            refine l_if_eq (pc := 528) hc dL_does_528 559 (by decide) (fun c528_2 => ?_) (fun c528_2 => ?_)
            · refine l_iconst (v := 1) (pc := 559) hc dL_does_559 (by decide) ?_
              refine l_goto (pc := 560) hc dL_does_560 564 (by decide) ?_
              exact hret _ _ _ _ _ dL_does_564 ⟨rfl, hG2⟩
            · have hcan := b01_f c528_2
              refine l_aload_n (pc := 531) hc dL_does_531 5 rfl ?_
              refine l_iload (pc := 532) hc dL_does_532 3 rfl ?_
              refine l_iconst (v := 1) (pc := 534) hc dL_does_534 (by decide) ?_
              refine l_q (pc := 535) hc cl_L_39 rfl [.int (nI rd), .int 1] (fun G hG9 => C_readerOf hI (kl K) G (nI rd) 1 A2 (B + 200000) hG9 hG2.1.1 hG2.1.2 hB2) rfl rfl (by simp [Value.category]) rfl rfl ⟨by decide, by decide⟩ dL_does_535 ?_
              refine l_as (nI (1 + cz)) (by rw [eA2]; exact (bet_in hV hrd hcz hcan).1) ?_
              refine l_iload (pc := 538) hc dL_does_538 1 rfl ?_
              refine l_icmp_ne (pc := 540) hc dL_does_540 563 (by decide) (fun c540_2 => ?_) (fun c540_2 => ?_)
              · exact absurd rfl c540_2
              · have oc540_2 := c540_2
                have c540_2 : 1 + cz = 1 + cz := (nI_eq (a := 1 + cz) (b := 1 + cz) (by omega) (by omega)).mp c540_2
                refine l_aload_n (pc := 543) hc dL_does_543 5 rfl ?_
                refine l_iload (pc := 544) hc dL_does_544 3 rfl ?_
                refine l_iconst (v := 2) (pc := 546) hc dL_does_546 (by decide) ?_
                refine l_q (pc := 547) hc cl_L_39 rfl [.int (nI rd), .int 2] (fun G hG9 => C_readerOf hI (kl K) G (nI rd) 2 A2 (B + 200000) hG9 hG2.1.1 hG2.1.2 hB2) rfl rfl (by simp [Value.category]) rfl rfl ⟨by decide, by decide⟩ dL_does_547 ?_
                refine l_as ((w0 >>> (9 &&& 31)) &&& 1) (by rw [eA2]; exact (bet_in hV hrd hcz hcan).2) ?_
                refine l_iload_n (pc := 550) hc dL_does_550 7 rfl ?_
                refine l_bipush (v := 9) (pc := 551) hc dL_does_551 (by decide) ?_
                refine l_ishr (pc := 553) hc dL_does_553 ?_
                refine l_iconst (v := 1) (pc := 554) hc dL_does_554 (by decide) ?_
                refine l_iand (pc := 555) hc dL_does_555 ?_
                refine l_icmp_ne (pc := 556) hc dL_does_556 563 (by decide) (fun c556_2 => ?_) (fun c556_2 => ?_)
                · exact absurd rfl c556_2
                · refine l_iconst (v := 1) (pc := 559) hc dL_does_559 (by decide) ?_
                  refine l_goto (pc := 560) hc dL_does_560 564 (by decide) ?_
                  exact hret _ _ _ _ _ dL_does_564 ⟨rfl, hG2⟩
        refine l_if_eq (pc := 510) hc dL_does_510 521 (by decide) (fun c510_2 => ?_) (fun c510_2 => ?_)
        · refine l_bipush (v := (-4)) (pc := 521) hc dL_does_521 (by decide) ?_
          exact j523_2 _ (by rw [if_pos c510_2])
        · refine l_iload (pc := 513) hc dL_does_513 2 rfl ?_
          refine l_iload (pc := 515) hc dL_does_515 1 rfl ?_
          refine l_isub (pc := 517) hc dL_does_517 ?_
          refine l_goto (pc := 518) hc dL_does_518 523 (by decide) ?_
          exact j523_2 _ (by rw [if_neg c510_2])
      refine l_icmp_ne (pc := 495) hc dL_does_495 502 (by decide) (fun c495_2 => ?_) (fun c495_2 => ?_)
      · refine l_iconst (v := 0) (pc := 502) hc dL_does_502 (by decide) ?_
        exact j503_2 _ (by rw [if_neg c495_2])
      · refine l_iconst (v := 1) (pc := 498) hc dL_does_498 (by decide) ?_
        refine l_goto (pc := 499) hc dL_does_499 503 (by decide) ?_
        exact j503_2 _ (by rw [if_pos c495_2])
    refine l_if_ne (pc := 468) hc dL_does_468 482 (by decide) (fun c468_2 => ?_) (fun c468_2 => ?_)
    · refine l_iconst (v := 0) (pc := 482) hc dL_does_482 (by decide) ?_
      exact j483_2 _ (by rw [if_neg c468_2])
    · refine l_iload (pc := 471) hc dL_does_471 1 rfl ?_
      refine l_iload (pc := 473) hc dL_does_473 0 rfl ?_
      refine l_icmp_lt (pc := 475) hc dL_does_475 482 (by decide) (fun c475_2 => ?_) (fun c475_2 => ?_)
      · refine l_iconst (v := 0) (pc := 482) hc dL_does_482 (by decide) ?_
        exact j483_2 _ (by rw [if_pos c468_2, if_pos c475_2])
      · refine l_iconst (v := 1) (pc := 478) hc dL_does_478 (by decide) ?_
        refine l_goto (pc := 479) hc dL_does_479 483 (by decide) ?_
        exact j483_2 _ (by rw [if_pos c468_2, if_neg c475_2])
  by_cases hs7 : cs = 7
  · refine l_as (nI 7) (congrArg nI hs7) ?_
    refine l_tableIn (pc := 14) (off := 551) hc dL_does_14 (by decide) (by decide) rfl 565 (by decide) ?_
    refine l_iload_n (pc := 565) hc dL_does_565 3 rfl ?_
    refine l_iconst (v := 3) (pc := 566) hc dL_does_566 (by decide) ?_
    obtain ⟨rd, hrd, erd⟩ := and3 w0
    refine l_iand (pc := 567) hc dL_does_567 ?_
    refine l_as (nI rd) erd ?_
    refine l_istore (pc := 568) (L' := [(18, .int (nI rd)), (4, .int (nI dy)), (0, .ref (w.2.2 0)), (1, .int v), (2, .int w0), (3, .ref (w.2.2 239))]) hc dL_does_568 (by decide) rfl ?_
    refine l_aload_n (pc := 570) hc dL_does_570 2 rfl ?_
    refine l_iload (pc := 571) hc dL_does_571 0 rfl ?_
    refine l_iconst (v := 1) (pc := 573) hc dL_does_573 (by decide) ?_
    refine l_q (pc := 574) hc cl_L_39 rfl [.int (nI rd), .int 1] (fun G hG9 => C_readerOf hI (kl K) G (nI rd) 1 A B hG9 hV hZ hB) rfl rfl (by simp [Value.category]) rfl rfl ⟨by decide, by decide⟩ dL_does_574 ?_
    refine l_as (aF A (328 + 5 * rd + 1)) (qr_j A (k := rd) (j := 1) (by omega) (by omega)) ?_
    refine l_istore (pc := 577) (L' := [(19, .int (aF A (328 + 5 * rd + 1))), (18, .int (nI rd)), (4, .int (nI dy)), (0, .ref (w.2.2 0)), (1, .int v), (2, .int w0), (3, .ref (w.2.2 239))]) hc dL_does_577 (by decide) rfl ?_
    refine l_aload_n (pc := 579) hc dL_does_579 3 rfl ?_
    refine l_iload (pc := 580) hc dL_does_580 1 rfl ?_
    refine l_iconst (v := 0) (pc := 582) hc dL_does_582 (by decide) ?_
    refine l_q (pc := 583) hc cl_L_39 rfl [.int (nI rd), .int 0] (fun G hG9 => C_readerOf hI (kl K) G (nI rd) 0 A B hG9 hV hZ hB) rfl rfl (by simp [Value.category]) rfl rfl ⟨by decide, by decide⟩ dL_does_583 ?_
    refine l_as (aF A (328 + 5 * rd + 0)) (qr_j A (k := rd) (j := 0) (by omega) (by omega)) ?_
    refine l_istore (pc := 586) (L' := [(20, .int (aF A (328 + 5 * rd + 0))), (19, .int (aF A (328 + 5 * rd + 1))), (18, .int (nI rd)), (4, .int (nI dy)), (0, .ref (w.2.2 0)), (1, .int v), (2, .int w0), (3, .ref (w.2.2 239))]) hc dL_does_586 (by decide) rfl ?_
    refine l_aload_n (pc := 588) hc dL_does_588 4 rfl ?_
    refine l_iload (pc := 589) hc dL_does_589 2 rfl ?_
    refine l_q (pc := 591) (A' := (tTake A (nI rd))) hc cl_L_84 rfl [.int (nI rd)] (fun G hG9 => C_takeBack hI (kl K) G (nI rd) A B hG9 hV hZ hB) rfl rfl (by simp [Value.category]) rfl rfl ⟨by decide, by decide⟩ dL_does_591 ?_
    refine l_An (fun A2 eA2 => ?_)
    have hG2 : LG A2 (B + 200000) := by rw [eA2]; exact LG_mono (by omega) (LG_take (by omega) hG _)
    have hB2 : B + 200000 + 1 < 2 ^ 30 := by omega
    refine l_as (if aF A (328 + 5 * rd + 1) = 0 then -5 else aF A (328 + 5 * rd + 0) + aF A (328 + 5 * rd + 1)) (take_q hrd) ?_
    refine l_iload (pc := 594) hc dL_does_594 1 rfl ?_
    have j609 : ∀ v609 : Int32, v609 = (if (aF A (328 + 5 * rd + 1)) = 0 then (-5) else ((aF A (328 + 5 * rd + 0)) + (aF A (328 + 5 * rd + 1)))) → LX w K 21 A2 D 609 [(20, .int (aF A (328 + 5 * rd + 0))), (19, .int (aF A (328 + 5 * rd + 1))), (18, .int (nI rd)), (4, .int (nI dy)), (0, .ref (w.2.2 0)), (1, .int v), (2, .int w0), (3, .ref (w.2.2 239))] [.int v609, .int (if aF A (328 + 5 * rd + 1) = 0 then -5 else aF A (328 + 5 * rd + 0) + aF A (328 + 5 * rd + 1))] := by
      intro v609 hv609
      refine l_as (if aF A (328 + 5 * rd + 1) = 0 then -5 else aF A (328 + 5 * rd + 0) + aF A (328 + 5 * rd + 1)) hv609 ?_
      refine l_icmp_ne (pc := 609) hc dL_does_609 626 (by decide) (fun c609 => ?_) (fun c609 => ?_)
      · exact absurd rfl c609
      · refine l_aload_n (pc := 612) hc dL_does_612 4 rfl ?_
        refine l_iload (pc := 613) hc dL_does_613 2 rfl ?_
        refine l_iconst (v := 1) (pc := 615) hc dL_does_615 (by decide) ?_
        refine l_q (pc := 616) hc cl_L_39 rfl [.int (nI rd), .int 1] (fun G hG9 => C_readerOf hI (kl K) G (nI rd) 1 A2 (B + 200000) hG9 hG2.1.1 hG2.1.2 hB2) rfl rfl (by simp [Value.category]) rfl rfl ⟨by decide, by decide⟩ dL_does_616 ?_
        refine l_as 0 (by rw [eA2]; exact take_in hrd) ?_
        refine l_if_ne (pc := 619) hc dL_does_619 626 (by decide) (fun c619 => ?_) (fun c619 => ?_)
        · exact absurd c619 (by decide)
        · refine l_iconst (v := 1) (pc := 622) hc dL_does_622 (by decide) ?_
          refine l_goto (pc := 623) hc dL_does_623 627 (by decide) ?_
          exact hret _ _ _ _ _ dL_does_627 ⟨rfl, hG2⟩
    refine l_if_ne (pc := 596) hc dL_does_596 604 (by decide) (fun c596 => ?_) (fun c596 => ?_)
    · refine l_iload (pc := 604) hc dL_does_604 0 rfl ?_
      refine l_iload (pc := 606) hc dL_does_606 1 rfl ?_
      refine l_iadd (pc := 608) hc dL_does_608 ?_
      exact j609 _ (by rw [if_neg c596])
    · refine l_bipush (v := (-5)) (pc := 599) hc dL_does_599 (by decide) ?_
      refine l_goto (pc := 601) hc dL_does_601 609 (by decide) ?_
      exact j609 _ (by rw [if_pos c596])
  by_cases hs8 : cs = 8
  · refine l_as (nI 8) (congrArg nI hs8) ?_
    refine l_tableIn (pc := 14) (off := 614) hc dL_does_14 (by decide) (by decide) rfl 628 (by decide) ?_
    refine l_aload_n (pc := 628) hc dL_does_628 1 rfl ?_
    refine l_aload_n (pc := 629) hc dL_does_629 4 rfl ?_
    refine l_s (pc := 630) hc cl_L_87 [.ref (w.2.2 0), .ref (w.2.2 239)] (l_isNext hI (kl K) A D B hG (by omega)) rfl rfl (by simp [Value.category]) rfl rfl ⟨by decide, by decide⟩ dL_does_630 (fun r630 Aa630 Da630 q630 => ?_)
    exact hret _ _ _ _ _ dL_does_633 q630
  refine l_tableOut (pc := 14) hc dL_does_14 (Or.inr (by rw [nI_toInt (by omega)]; omega)) 634 (by decide) ?_
  refine l_aload_n (pc := 634) hc dL_does_634 1 rfl ?_
  refine l_iload_n (pc := 635) hc dL_does_635 3 rfl ?_
  refine l_bipush (v := 61) (pc := 636) hc dL_does_636 (by decide) ?_
  obtain ⟨tx, htx, etx⟩ := low_nI w0 (m := 61) (by omega) (by omega)
  refine l_s (pc := 638) hc cl_L_64 [.int w0, .int 61] (l_low hI (kl K) A D w0 61 (by decide)) rfl rfl (by simp [Value.category]) rfl rfl ⟨by decide, by decide⟩ dL_does_638 (fun r638 Aa638 Da638 q638 => ?_)
  obtain ⟨er638, eAa638, eDa638⟩ := q638
  rw [eAa638, eDa638]
  subst er638
  refine l_as (nI tx) etx ?_
  refine l_bipush (v := 30) (pc := 641) hc dL_does_641 (by decide) ?_
  refine l_isub (pc := 643) hc dL_does_643 ?_
  refine l_aload_n (pc := 644) hc dL_does_644 4 rfl ?_
  refine l_s (pc := 645) hc cl_L_91 [.ref (w.2.2 0), .int ((nI tx) - 30), .ref (w.2.2 239)] (l_isDay hI (kl K) A D B (nI tx - 30) (in_r30 htx) hG (by omega)) rfl rfl (by simp [Value.category]) rfl rfl ⟨by decide, by decide⟩ dL_does_645 (fun r645 Aa645 Da645 q645 => ?_)
  have hGx : LG Aa645 (B + 200000) := by rw [q645.2]; exact LG_mono (by omega) (LG_measure (by omega) hG _)
  exact hret _ _ _ _ _ dL_does_648 ⟨q645.1, hGx⟩
