def dgN (tx : Nat → Int32) (ln i : Nat) : Int32 := if dg tx ln i < 0 then -5 else dg tx ln i
theorem dg_out {tx : Nat → Int32} {ln i : Nat} (h : ln ≤ i) : dg tx ln i = -1 := by
  unfold dg sg
  rw [if_neg (show ¬ i < ln by omega)]
  rfl
theorem dg_lt {tx : Nat → Int32} {ln i : Nat} (h : 0 ≤ dg tx ln i) : i < ln := by
  by_cases h1 : i < ln
  · exact h1
  · rw [dg_out (by omega)] at h
    exact absurd h (by decide)
theorem dg_sg {tx : Nat → Int32} {ln i : Nat} (h : 0 ≤ dg tx ln i) : 48 ≤ sg tx ln i := by
  unfold dg at h
  by_cases h1 : inB (sg tx ln i) 48 57 = 0
  · rw [if_pos h1] at h; exact absurd h (by decide)
  · have h2 := inB_f h1
    rw [Int32.le_iff_toInt_le]
    exact h2.1
theorem dgN_cases (tx : Nat → Int32) (ln i : Nat) : (dg tx ln i < 0 ∧ dgN tx ln i = -5) ∨ ∃ a, a ≤ 9 ∧ dg tx ln i = nI a ∧ dgN tx ln i = nI a := by
  by_cases h : dg tx ln i < 0
  · exact Or.inl ⟨h, if_pos h⟩
  · obtain ⟨a, ha, e⟩ := dg_val (Int32.not_lt.mp h)
    exact Or.inr ⟨a, ha, e, (if_neg h).trans e⟩
theorem dgN_out {tx : Nat → Int32} {ln i : Nat} (h : ¬ (48 ≤ sg tx ln i ∧ sg tx ln i ≤ 57)) : dgN tx ln i = -5 := by
  have e : dg tx ln i = -1 := by
    unfold dg inB
    rw [if_pos (b01_neg h)]
  unfold dgN
  rw [e]
  rfl
theorem dgN_in {tx : Nat → Int32} {ln i : Nat} (h1 : 48 ≤ sg tx ln i) (h2 : sg tx ln i ≤ 57) : dgN tx ln i = sg tx ln i - 48 := by
  have e : dg tx ln i = sg tx ln i - 48 := by
    unfold dg inB
    rw [if_neg (by rw [b01_pos ⟨h1, h2⟩]; decide)]
  unfold dgN
  rw [e, if_neg]
  rw [Int32.le_iff_toInt_le] at h1 h2
  rw [show (48 : Int32).toInt = 48 from rfl] at h1
  rw [show (57 : Int32).toInt = 57 from rfl] at h2
  have h4 := i32_sub (x := sg tx ln i) (y := 48) (by omega) (by omega) (by decide) (by decide)
  rw [show (48 : Int32).toInt = 48 from rfl] at h4
  rw [Int32.lt_iff_toInt_lt, h4]
  show ¬ _ < (0 : Int)
  omega
theorem nI_nn (a : Nat) (h : a < 2 ^ 31) : ¬ nI a < 0 := Int32.not_lt.mpr ((nI_leI (a := 0) (by omega) h).mpr (by omega))
theorem nE_f0 {tx : Nat → Int32} {ln pl : Nat} {lo hi : Int32} (h : dg tx ln pl < 0) : nEnd tx ln pl lo hi = (false, pl) := if_pos h
theorem nE_f1 {tx : Nat → Int32} {ln pl a lo : Nat} {hi : Int32} (h : dg tx ln pl = nI a) (ha : a < lo) (hlo : lo ≤ 1) : nEnd tx ln pl (nI lo) hi = (false, pl) := by
  unfold nEnd
  rw [if_neg (by rw [h]; exact nI_nn a (by omega)), if_pos ⟨by rw [h, show a = 0 by omega]; rfl, (nI_ltI (a := 0) (by omega) (by omega)).mpr (by omega)⟩]
theorem nE_s {tx : Nat → Int32} {ln pl a lo : Nat} {hi : Int32} (h : dg tx ln pl = nI a) (ha : lo ≤ a) (h9 : a ≤ 9) : nEnd tx ln pl (nI lo) hi = if nTwo tx ln pl hi then (true, pl + 2) else (true, pl + 1) := by
  unfold nEnd
  rw [if_neg (by rw [h]; exact nI_nn a (by omega)), if_neg]
  rintro ⟨h1, h2⟩
  have h3 := (nI_ltI (a := 0) (b := lo) (by omega) (by omega)).mp h2
  rw [h] at h1
  have h4 := (nI_eq (a := a) (b := 0) (by omega) (by omega)).mp h1
  omega
theorem nE_1 {tx : Nat → Int32} {ln pl a lo hi : Nat} (h : dg tx ln pl = nI a) (ha : lo ≤ a) (h9 : a ≤ 9) (hh : hi ≤ 1000) (hc : a ≤ 0 ∨ dg tx ln (pl + 1) < 0 ∨ ∃ b, b ≤ 9 ∧ dg tx ln (pl + 1) = nI b ∧ hi < a * 10 + b) : nEnd tx ln pl (nI lo) (nI hi) = (true, pl + 1) := by
  rw [nE_s h ha h9, if_neg]
  rintro ⟨h1, h2, h3⟩
  rcases hc with hc | hc | ⟨b, hb, e, hc⟩
  · rw [h] at h1
    have := (nI_ltI (a := 0) (b := a) (by omega) (by omega)).mp h1
    omega
  · exact absurd hc (Int32.not_lt.mpr h2)
  · rw [h, e, show (10 : Int32) = nI 10 from rfl, pk_mul, nI_add] at h3
    have := (nI_leI (by omega) (by omega)).mp h3
    omega
theorem nE_2 {tx : Nat → Int32} {ln pl a b lo hi : Nat} (h : dg tx ln pl = nI a) (ha : lo ≤ a) (h9 : a ≤ 9) (h0 : ¬ a ≤ 0) (hh : hi ≤ 1000) (hb : b ≤ 9) (e : dg tx ln (pl + 1) = nI b) (hc : a * 10 + b ≤ hi) : nEnd tx ln pl (nI lo) (nI hi) = (true, pl + 2) ∧ numIn tx ln pl (pl + 2) = nI (a * 10 + b) := by
  have e3 : (10 : Int32) * nI a + nI b = nI (a * 10 + b) := by rw [show (10 : Int32) = nI 10 from rfl, pk_mul, nI_add, show 10 * a + b = a * 10 + b by omega]
  constructor
  · rw [nE_s h ha h9, if_pos]
    refine ⟨by rw [h]; exact (nI_ltI (a := 0) (by omega) (by omega)).mpr (by omega), by rw [e]; exact Int32.not_lt.mp (nI_nn b (by omega)), ?_⟩
    rw [h, e, e3]
    exact (nI_leI (by omega) (by omega)).mpr hc
  · unfold numIn
    rw [if_neg (by omega), h, e, e3]
/-- what reading a number tells -/
def RNp (tx : Nat → Int32) (ln pl : Nat) (lo hi v9 place number : Int32) : Prop := (v9 = 1 ∧ ∃ e, nEnd tx ln pl lo hi = (true, e) ∧ place = nI e ∧ number = numIn tx ln pl e) ∨ (v9 = 0 ∧ ∃ b e, nEnd tx ln pl lo hi = (b, e) ∧ place = nI e ∧ (b = true → e < ln ∧ 0 ≤ dg tx ln e))
set_option maxHeartbeats 4000000 in
set_option maxRecDepth 100000 in
theorem m_X0_goToStart {w : WT} (hI : xI w) (l : Launch) (G : GS)  : Mv w l yX0_goToStart cX0_goToStart 1 ⟨0, 0, 0, 0⟩ [.ref (w.2.2 1)] G (fun G' => G' = up2 G 1 2 0) := by
  refine mk_v (L0 := [(0, .ref (w.2.2 1))]) hI (by decide +kernel) rfl (Nat.le_of_ble_eq_true rfl) (fun K hc hret => ?_)
  refine x_aload_n (pc := 0) hc dX0_goToStart_0 0 rfl ?_
  refine x_iconst (v := 0) (pc := 1) hc dX0_goToStart_1 (by decide) ?_
  refine x_puti (pc := 2) hc cfT kcX0 2 (by decide) fl_X0_19 (by decide) rfl (by simp [fX0]) rfl dX0_goToStart_2 ?_
  refine x_Gn (fun G1 eG1 => ?_)
  exact hret _ _ _ dX0_goToStart_5 eG1
set_option maxHeartbeats 4000000 in
set_option maxRecDepth 100000 in
theorem m_X0_isAtPlace {w : WT} (hI : xI w) (l : Launch) (G : GS) (c : Int32) (ln pl : Nat) (hln : ln ≤ 60) (hl : G 1 1 = nI ln) (hp : G 1 2 = nI pl) (hpl : pl < 1000) (hc9 : (-1 : Int32) ≠ c) : Mi w l yX0_isAtPlace cX0_isAtPlace 2 (some .boolean) ⟨0, 0, 0, 0⟩ [.ref (w.2.2 1), .int c] G (fun v9 G' => v9 = b01 (sg (G 2) ln pl = c) ∧ G' = G) := by
  refine mk_i (L0 := [(0, .ref (w.2.2 1)), (1, .int c)]) hI (by decide +kernel) rfl (Nat.le_of_ble_eq_true rfl) (fun v G9 h => by rw [h.1]; exact nz_b01 _) (fun K hc hret => ?_)
  refine x_aload_n (pc := 0) hc dX0_isAtPlace_0 0 rfl ?_
  refine x_get (pc := 1) hc cfT kcX0 2 (by decide) fl_X0_19 rfl dX0_isAtPlace_1 ?_
  refine x_as (nI pl) hp ?_
  refine x_aload_n (pc := 4) hc dX0_isAtPlace_4 0 rfl ?_
  refine x_get (pc := 5) hc cfT kcX0 1 (by decide) fl_X0_15 rfl dX0_isAtPlace_5 ?_
  refine x_as (nI ln) hl ?_
  refine x_icmp_ge (pc := 8) hc dX0_isAtPlace_8 28 (by decide) (fun c8 => ?_) (fun c8 => ?_)
  · have c8 : ln ≤ pl := (nI_leI (a := ln) (b := pl) (by omega) (by omega)).mp c8
    refine x_iconst (v := 0) (pc := 28) hc dX0_isAtPlace_28 (by decide) ?_
    exact hret _ _ _ _ dX0_isAtPlace_29 ⟨(b01_neg (fun z => by unfold sg at z; rw [if_neg (by omega)] at z; exact hc9 z)).symm, rfl⟩
  · have c8 : ¬ ln ≤ pl := fun h9 => c8 ((nI_leI (a := ln) (b := pl) (by omega) (by omega)).mpr h9)
    refine x_aload_n (pc := 11) hc dX0_isAtPlace_11 0 rfl ?_
    refine x_get (pc := 12) hc cfT kcX0 0 (by decide) fl_X0_9 rfl dX0_isAtPlace_12 ?_
    refine x_aload_n (pc := 15) hc dX0_isAtPlace_15 0 rfl ?_
    refine x_get (pc := 16) hc cfT kcX0 2 (by decide) fl_X0_19 rfl dX0_isAtPlace_16 ?_
    refine x_as (nI pl) hp ?_
    refine x_cald (pc := 19) hc afC (vp_in_nI (by omega) (by decide)) dX0_isAtPlace_19 ?_
    refine x_as (G 2 pl) (congrArg _ (nI_clamp (by omega))) ?_
    refine x_iload_n (pc := 20) hc dX0_isAtPlace_20 1 rfl ?_
    refine x_icmp_ne (pc := 21) hc dX0_isAtPlace_21 28 (by decide) (fun c21 => ?_) (fun c21 => ?_)
    · refine x_iconst (v := 0) (pc := 28) hc dX0_isAtPlace_28 (by decide) ?_
      exact hret _ _ _ _ dX0_isAtPlace_29 ⟨(b01_neg (fun z => by unfold sg at z; rw [if_pos (by omega)] at z; exact c21 z)).symm, rfl⟩
    · refine x_iconst (v := 1) (pc := 24) hc dX0_isAtPlace_24 (by decide) ?_
      refine x_goto (pc := 25) hc dX0_isAtPlace_25 29 (by decide) ?_
      exact hret _ _ _ _ dX0_isAtPlace_29 ⟨(b01_pos (by unfold sg; rw [if_pos (by omega)]; exact c21)).symm, rfl⟩
set_option maxHeartbeats 4000000 in
set_option maxRecDepth 100000 in
theorem m_X0_digitAtPlace {w : WT} (hI : xI w) (l : Launch) (G : GS) (ln pl : Nat) (hln : ln ≤ 60) (hl : G 1 1 = nI ln) (hp : G 1 2 = nI pl) (hpl : pl < 1000) : Mi w l yX0_digitAtPlace cX0_digitAtPlace 1 (some .int) ⟨0, 0, 0, 0⟩ [.ref (w.2.2 1)] G (fun v9 G' => v9 = dgN (G 2) ln pl ∧ G' = G) := by
  refine mk_i (L0 := [(0, .ref (w.2.2 1))]) hI (by decide +kernel) rfl (Nat.le_of_ble_eq_true rfl) (fun _ _ _ => rfl) (fun K hc hret => ?_)
  refine x_aload_n (pc := 0) hc dX0_digitAtPlace_0 0 rfl ?_
  refine x_get (pc := 1) hc cfT kcX0 2 (by decide) fl_X0_19 rfl dX0_digitAtPlace_1 ?_
  refine x_as (nI pl) hp ?_
  refine x_aload_n (pc := 4) hc dX0_digitAtPlace_4 0 rfl ?_
  refine x_get (pc := 5) hc cfT kcX0 1 (by decide) fl_X0_15 rfl dX0_digitAtPlace_5 ?_
  refine x_as (nI ln) hl ?_
  refine x_icmp_ge (pc := 8) hc dX0_digitAtPlace_8 39 (by decide) (fun c8 => ?_) (fun c8 => ?_)
  · have c8 : ln ≤ pl := (nI_leI (a := ln) (b := pl) (by omega) (by omega)).mp c8
    refine x_bipush (v := (-5)) (pc := 39) hc dX0_digitAtPlace_39 (by decide) ?_
    exact hret _ _ _ _ dX0_digitAtPlace_41 ⟨(dgN_out (fun z => by have z1 := z.1; unfold sg at z1; rw [if_neg (by omega)] at z1; exact absurd z1 (by decide))).symm, rfl⟩
  · have c8 : ¬ ln ≤ pl := fun h9 => c8 ((nI_leI (a := ln) (b := pl) (by omega) (by omega)).mpr h9)
    refine x_aload_n (pc := 11) hc dX0_digitAtPlace_11 0 rfl ?_
    refine x_get (pc := 12) hc cfT kcX0 0 (by decide) fl_X0_9 rfl dX0_digitAtPlace_12 ?_
    refine x_aload_n (pc := 15) hc dX0_digitAtPlace_15 0 rfl ?_
    refine x_get (pc := 16) hc cfT kcX0 2 (by decide) fl_X0_19 rfl dX0_digitAtPlace_16 ?_
    refine x_as (nI pl) hp ?_
    refine x_cald (pc := 19) hc afC (vp_in_nI (by omega) (by decide)) dX0_digitAtPlace_19 ?_
    refine x_as (G 2 pl) (congrArg _ (nI_clamp (by omega))) ?_
    refine x_bipush (v := 48) (pc := 20) hc dX0_digitAtPlace_20 (by decide) ?_
    refine x_icmp_lt (pc := 22) hc dX0_digitAtPlace_22 39 (by decide) (fun c22 => ?_) (fun c22 => ?_)
    · refine x_bipush (v := (-5)) (pc := 39) hc dX0_digitAtPlace_39 (by decide) ?_
      exact hret _ _ _ _ dX0_digitAtPlace_41 ⟨(dgN_out (fun z => by have z1 := z.1; unfold sg at z1; rw [if_pos (by omega)] at z1; exact absurd z1 (Int32.not_le.mpr c22))).symm, rfl⟩
    · refine x_aload_n (pc := 25) hc dX0_digitAtPlace_25 0 rfl ?_
      refine x_get (pc := 26) hc cfT kcX0 0 (by decide) fl_X0_9 rfl dX0_digitAtPlace_26 ?_
      refine x_aload_n (pc := 29) hc dX0_digitAtPlace_29 0 rfl ?_
      refine x_get (pc := 30) hc cfT kcX0 2 (by decide) fl_X0_19 rfl dX0_digitAtPlace_30 ?_
      refine x_as (nI pl) hp ?_
      refine x_cald (pc := 33) hc afC (vp_in_nI (by omega) (by decide)) dX0_digitAtPlace_33 ?_
      refine x_as (G 2 pl) (congrArg _ (nI_clamp (by omega))) ?_
      refine x_bipush (v := 57) (pc := 34) hc dX0_digitAtPlace_34 (by decide) ?_
      refine x_icmp_le (pc := 36) hc dX0_digitAtPlace_36 42 (by decide) (fun c36 => ?_) (fun c36 => ?_)
      · refine x_aload_n (pc := 42) hc dX0_digitAtPlace_42 0 rfl ?_
        refine x_get (pc := 43) hc cfT kcX0 0 (by decide) fl_X0_9 rfl dX0_digitAtPlace_43 ?_
        refine x_aload_n (pc := 46) hc dX0_digitAtPlace_46 0 rfl ?_
        refine x_get (pc := 47) hc cfT kcX0 2 (by decide) fl_X0_19 rfl dX0_digitAtPlace_47 ?_
        refine x_as (nI pl) hp ?_
        refine x_cald (pc := 50) hc afC (vp_in_nI (by omega) (by decide)) dX0_digitAtPlace_50 ?_
        refine x_as (G 2 pl) (congrArg _ (nI_clamp (by omega))) ?_
        refine x_bipush (v := 48) (pc := 51) hc dX0_digitAtPlace_51 (by decide) ?_
        refine x_isub (pc := 53) hc dX0_digitAtPlace_53 ?_
        exact hret _ _ _ _ dX0_digitAtPlace_54 ⟨(by
            have e9 : sg (G 2) ln pl = G 2 pl := if_pos (by omega)
            rw [dgN_in (by rw [e9]; exact Int32.not_lt.mp c22) (by rw [e9]; exact c36), e9]), rfl⟩
      · refine x_bipush (v := (-5)) (pc := 39) hc dX0_digitAtPlace_39 (by decide) ?_
        exact hret _ _ _ _ dX0_digitAtPlace_41 ⟨(dgN_out (fun z => by have z1 := z.2; unfold sg at z1; rw [if_pos (by omega)] at z1; exact c36 z1)).symm, rfl⟩
set_option maxHeartbeats 4000000 in
set_option maxRecDepth 100000 in
theorem m_X0_skipSeparator {w : WT} (hI : xI w) (l : Launch) (G : GS) (ln pl : Nat) (hln : ln ≤ 60) (hl : G 1 1 = nI ln) (hp : G 1 2 = nI pl) (hpl : pl < 1000) : Mv w l yX0_skipSeparator cX0_skipSeparator 1 ⟨1, 0, 0, 21⟩ [.ref (w.2.2 1)] G (fun G' => G' = if sg (G 2) ln pl = 59 then up2 G 1 2 (nI (pl + 1)) else G) := by
  refine mk_v (L0 := [(0, .ref (w.2.2 1))]) hI (by decide +kernel) rfl (Nat.le_of_ble_eq_true rfl) (fun K hc hret => ?_)
  refine x_aload_n (pc := 0) hc dX0_skipSeparator_0 0 rfl ?_
  refine x_bipush (v := 59) (pc := 1) hc dX0_skipSeparator_1 (by decide) ?_
  refine x_callVi (pc := 3) hc cl_X0_29 cfT kcX0 [.int 59] (m_X0_isAtPlace hI (kl K) G 59 ln pl hln hl hp (by omega) (by decide)) rfl rfl (by simp [Value.category]) rfl rfl ⟨by decide, by decide⟩ dX0_skipSeparator_3 (fun r3 Gc3 q3 => ?_)
  obtain ⟨er3, eGc3⟩ := q3
  rw [eGc3]
  subst er3
  refine x_if_eq (pc := 6) hc dX0_skipSeparator_6 19 (by decide) (fun c6 => ?_) (fun c6 => ?_)
  · exact hret _ _ _ dX0_skipSeparator_19 (by rw [if_neg (b01_t c6)])
  · refine x_aload_n (pc := 9) hc dX0_skipSeparator_9 0 rfl ?_
    refine x_dupr (pc := 10) hc dX0_skipSeparator_10 ?_
    refine x_get (pc := 11) hc cfT kcX0 2 (by decide) fl_X0_19 rfl dX0_skipSeparator_11 ?_
    refine x_as (nI pl) hp ?_
    refine x_iconst (v := 1) (pc := 14) hc dX0_skipSeparator_14 (by decide) ?_
    refine x_iadd (pc := 15) hc dX0_skipSeparator_15 ?_
    refine x_as (nI (pl + 1)) (nI_add _ _) ?_
    refine x_puti (pc := 16) hc cfT kcX0 2 (by decide) fl_X0_19 (by decide) rfl (by simp [fX0]) rfl dX0_skipSeparator_16 ?_
    refine x_Gn (fun G1 eG1 => ?_)
    exact hret _ _ _ dX0_skipSeparator_19 (by rw [if_pos (b01_f c6)]; exact eG1)
set_option maxHeartbeats 4000000 in
set_option maxRecDepth 100000 in
theorem m_X0_readNumber {w : WT} (hI : xI w) (l : Launch) (G : GS) (lo hi : Nat) (ln pl : Nat) (hln : ln ≤ 60) (hl : G 1 1 = nI ln) (hp : G 1 2 = nI pl) (hpl : pl < 1000) (hlo : lo ≤ 1) (hhi : hi ≤ 40) : Mi w l yX0_readNumber cX0_readNumber 5 (some .boolean) ⟨1, 0, 0, 20⟩ [.ref (w.2.2 1), .int (nI lo), .int (nI hi)] G (fun v9 G' => RNp (G 2) ln pl (nI lo) (nI hi) v9 (G' 1 2) (G' 1 3) ∧ (∀ q, q ≠ 1 → G' q = G q) ∧ ∀ i, i ≠ 2 → i ≠ 3 → G' 1 i = G 1 i) := by
  refine mk_i (L0 := [(0, .ref (w.2.2 1)), (1, .int (nI lo)), (2, .int (nI hi))]) hI (by decide +kernel) rfl (Nat.le_of_ble_eq_true rfl) (fun v G9 h => by have h1 := h.1; unfold RNp at h1; rcases h1 with ⟨h9, _⟩ | ⟨h9, _⟩ <;> (rw [h9]; rfl)) (fun K hc hret => ?_)
  refine x_aload_n (pc := 0) hc dX0_readNumber_0 0 rfl ?_
  refine x_callVi (pc := 1) hc cl_X0_49 cfT kcX0 [] (m_X0_digitAtPlace hI (kl K) G ln pl hln hl hp (by omega)) rfl rfl (by simp [Value.category]) rfl rfl ⟨by decide, by decide⟩ dX0_readNumber_1 (fun r1 Gc1 q1 => ?_)
  obtain ⟨er1, eGc1⟩ := q1
  rw [eGc1]
  subst er1
  rcases dgN_cases (G 2) ln pl with ⟨da, qa⟩ | ⟨a, ha, da, qa⟩
  · refine x_as ((-5)) qa ?_
    refine x_istore_n (pc := 4) (L' := [(3, .int (-5)), (0, .ref (w.2.2 1)), (1, .int (nI lo)), (2, .int (nI hi))]) hc dX0_readNumber_4 (by decide) rfl ?_
    refine x_iload_n (pc := 5) hc dX0_readNumber_5 0 rfl ?_
    refine x_bipush (v := (-5)) (pc := 6) hc dX0_readNumber_6 (by decide) ?_
    refine x_icmp_eq (pc := 8) hc dX0_readNumber_8 16 (by decide) (fun c8 => ?_) (fun c8 => ?_)
    · refine x_iconst (v := 0) (pc := 16) hc dX0_readNumber_16 (by decide) ?_
      exact hret _ _ _ _ dX0_readNumber_17 ⟨Or.inr ⟨rfl, false, pl, nE_f0 da, hp, fun h9 => by cases h9⟩, fun q hq => rfl, fun i h2 h3 => rfl⟩
    · exact absurd (by decide) c8
  · refine x_as (nI a) qa ?_
    refine x_istore_n (pc := 4) (L' := [(3, .int (nI a)), (0, .ref (w.2.2 1)), (1, .int (nI lo)), (2, .int (nI hi))]) hc dX0_readNumber_4 (by decide) rfl ?_
    refine x_iload_n (pc := 5) hc dX0_readNumber_5 0 rfl ?_
    refine x_bipush (v := (-5)) (pc := 6) hc dX0_readNumber_6 (by decide) ?_
    refine x_icmp_eq (pc := 8) hc dX0_readNumber_8 16 (by decide) (fun c8_1 => ?_) (fun c8_1 => ?_)
    · exact absurd c8_1 (nI_m5 (by omega))
    · refine x_iload_n (pc := 11) hc dX0_readNumber_11 0 rfl ?_
      refine x_iload_n (pc := 12) hc dX0_readNumber_12 2 rfl ?_
      refine x_icmp_ge (pc := 13) hc dX0_readNumber_13 18 (by decide) (fun c13 => ?_) (fun c13 => ?_)
      · have c13 : lo ≤ a := (nI_leI (a := lo) (b := a) (by omega) (by omega)).mp c13
        refine x_aload_n (pc := 18) hc dX0_readNumber_18 1 rfl ?_
        refine x_iload_n (pc := 19) hc dX0_readNumber_19 0 rfl ?_
        refine x_puti (pc := 20) hc cfT kcX0 3 (by decide) fl_X0_40 (by decide) rfl (by simp [fX0]) rfl dX0_readNumber_20 ?_
        refine x_Gn (fun G1 eG1 => ?_)
        refine x_aload_n (pc := 23) hc dX0_readNumber_23 1 rfl ?_
        refine x_dupr (pc := 24) hc dX0_readNumber_24 ?_
        refine x_get (pc := 25) hc cfT kcX0 2 (by decide) fl_X0_19 rfl dX0_readNumber_25 ?_
        refine x_as (nI pl) (by rw [eG1, up2_i _ _ _ _ (by omega)]; exact hp) ?_
        refine x_iconst (v := 1) (pc := 28) hc dX0_readNumber_28 (by decide) ?_
        refine x_iadd (pc := 29) hc dX0_readNumber_29 ?_
        refine x_as (nI (pl + 1)) (nI_add _ _) ?_
        refine x_puti (pc := 30) hc cfT kcX0 2 (by decide) fl_X0_19 (by decide) rfl (by simp [fX0]) rfl dX0_readNumber_30 ?_
        refine x_Gn (fun G2 eG2 => ?_)
        refine x_aload_n (pc := 33) hc dX0_readNumber_33 1 rfl ?_
        refine x_get (pc := 34) hc cfT kcX0 2 (by decide) fl_X0_19 rfl dX0_readNumber_34 ?_
        refine x_as (nI (pl + 1)) (by rw [eG2, up2_s]) ?_
        refine x_istore (pc := 37) (L' := [(4, .int (nI (pl + 1))), (3, .int (nI a)), (0, .ref (w.2.2 1)), (1, .int (nI lo)), (2, .int (nI hi))]) hc dX0_readNumber_37 (by decide) rfl ?_
        refine x_iload (pc := 39) hc dX0_readNumber_39 0 rfl ?_
        refine x_aload_n (pc := 41) hc dX0_readNumber_41 2 rfl ?_
        refine x_get (pc := 42) hc cfT kcX0 1 (by decide) fl_X0_15 rfl dX0_readNumber_42 ?_
        refine x_as (nI ln) (by rw [eG2, up2_i _ _ _ _ (by omega), eG1, up2_i _ _ _ _ (by omega)]; exact hl) ?_
        refine x_icmp_ge (pc := 45) hc dX0_readNumber_45 112 (by decide) (fun c45 => ?_) (fun c45 => ?_)
        · have c45 : ln ≤ pl + 1 := (nI_leI (a := ln) (b := pl + 1) (by omega) (by omega)).mp c45
          refine x_iconst (v := 1) (pc := 112) hc dX0_readNumber_112 (by decide) ?_
          exact hret _ _ _ _ dX0_readNumber_113 ⟨Or.inl ⟨rfl, pl + 1, (nE_1 (hi := hi) da (by omega) ha (by omega) (Or.inr (Or.inl (by rw [dg_out (by omega)]; decide)))), (by rw [eG2, up2_s]), (by rw [eG2, up2_i _ _ _ _ (by omega), eG1, up2_s]; unfold numIn; rw [if_pos rfl]; exact da.symm)⟩, fun q hq => by rw [eG2, up2_r _ _ _ hq, eG1, up2_r _ _ _ hq], fun i h2 h3 => by rw [eG2, up2_i _ _ _ _ h2, eG1, up2_i _ _ _ _ h3]⟩
        · have c45 : ¬ ln ≤ pl + 1 := fun h9 => c45 ((nI_leI (a := ln) (b := pl + 1) (by omega) (by omega)).mpr h9)
          refine x_aload_n (pc := 48) hc dX0_readNumber_48 2 rfl ?_
          refine x_get (pc := 49) hc cfT kcX0 3 (by decide) fl_X0_40 rfl dX0_readNumber_49 ?_
          refine x_as (nI a) (by rw [eG2, up2_i _ _ _ _ (by omega), eG1, up2_s]) ?_
          refine x_if_le (pc := 52) hc dX0_readNumber_52 112 (by decide) (fun c52 => ?_) (fun c52 => ?_)
          · have c52 : a ≤ 0 := (nI_leI (a := a) (b := 0) (by omega) (by omega)).mp c52
            refine x_iconst (v := 1) (pc := 112) hc dX0_readNumber_112 (by decide) ?_
            exact hret _ _ _ _ dX0_readNumber_113 ⟨Or.inl ⟨rfl, pl + 1, (nE_1 (hi := hi) da (by omega) ha (by omega) (Or.inl (by omega))), (by rw [eG2, up2_s]), (by rw [eG2, up2_i _ _ _ _ (by omega), eG1, up2_s]; unfold numIn; rw [if_pos rfl]; exact da.symm)⟩, fun q hq => by rw [eG2, up2_r _ _ _ hq, eG1, up2_r _ _ _ hq], fun i h2 h3 => by rw [eG2, up2_i _ _ _ _ h2, eG1, up2_i _ _ _ _ h3]⟩
          · have c52 : ¬ a ≤ 0 := fun h9 => c52 ((nI_leI (a := a) (b := 0) (by omega) (by omega)).mpr h9)
            refine x_aload_n (pc := 55) hc dX0_readNumber_55 2 rfl ?_
            refine x_callVi (pc := 56) hc cl_X0_49 cfT kcX0 [] (m_X0_digitAtPlace hI (kl K) G2 ln (pl + 1) hln (by rw [eG2, up2_i _ _ _ _ (by omega), eG1, up2_i _ _ _ _ (by omega)]; exact hl) (by rw [eG2, up2_s]) (by omega)) rfl rfl (by simp [Value.category]) rfl rfl ⟨by decide, by decide⟩ dX0_readNumber_56 (fun r56 Gc56 q56 => ?_)
            obtain ⟨er56, eGc56⟩ := q56
            rw [eGc56]
            subst er56
            refine x_as (dgN (G 2) ln (pl + 1)) (by rw [eG2, up2_r _ _ _ (by omega), eG1, up2_r _ _ _ (by omega)]) ?_
            rcases dgN_cases (G 2) ln (pl + 1) with ⟨da_1, qa_1⟩ | ⟨a_1, ha_1, da_1, qa_1⟩
            · refine x_as ((-5)) qa_1 ?_
              refine x_istore_n (pc := 59) (L' := [(3, .int (-5)), (4, .int (nI (pl + 1))), (0, .ref (w.2.2 1)), (1, .int (nI lo)), (2, .int (nI hi))]) hc dX0_readNumber_59 (by decide) rfl ?_
              refine x_iload_n (pc := 60) hc dX0_readNumber_60 0 rfl ?_
              refine x_bipush (v := (-5)) (pc := 61) hc dX0_readNumber_61 (by decide) ?_
              refine x_icmp_ne (pc := 63) hc dX0_readNumber_63 68 (by decide) (fun c63 => ?_) (fun c63 => ?_)
              · exact absurd c63 (by decide)
              · refine x_iconst (v := 1) (pc := 66) hc dX0_readNumber_66 (by decide) ?_
                exact hret _ _ _ _ dX0_readNumber_67 ⟨Or.inl ⟨rfl, pl + 1, (nE_1 (hi := hi) da (by omega) ha (by omega) (Or.inr (Or.inl da_1))), (by rw [eG2, up2_s]), (by rw [eG2, up2_i _ _ _ _ (by omega), eG1, up2_s]; unfold numIn; rw [if_pos rfl]; exact da.symm)⟩, fun q hq => by rw [eG2, up2_r _ _ _ hq, eG1, up2_r _ _ _ hq], fun i h2 h3 => by rw [eG2, up2_i _ _ _ _ h2, eG1, up2_i _ _ _ _ h3]⟩
            · refine x_as (nI a_1) qa_1 ?_
              refine x_istore_n (pc := 59) (L' := [(3, .int (nI a_1)), (4, .int (nI (pl + 1))), (0, .ref (w.2.2 1)), (1, .int (nI lo)), (2, .int (nI hi))]) hc dX0_readNumber_59 (by decide) rfl ?_
              refine x_iload_n (pc := 60) hc dX0_readNumber_60 0 rfl ?_
              refine x_bipush (v := (-5)) (pc := 61) hc dX0_readNumber_61 (by decide) ?_
              refine x_icmp_ne (pc := 63) hc dX0_readNumber_63 68 (by decide) (fun c63_1 => ?_) (fun c63_1 => ?_)
              · refine x_aload_n (pc := 68) hc dX0_readNumber_68 2 rfl ?_
                refine x_get (pc := 69) hc cfT kcX0 3 (by decide) fl_X0_40 rfl dX0_readNumber_69 ?_
                refine x_as (nI a) (by rw [eG2, up2_i _ _ _ _ (by omega), eG1, up2_s]) ?_
                refine x_bipush (v := 10) (pc := 72) hc dX0_readNumber_72 (by decide) ?_
                refine x_imul (pc := 74) hc dX0_readNumber_74 ?_
                refine x_as (nI (a * 10)) (pk_mul _ _) ?_
                refine x_iload_n (pc := 75) hc dX0_readNumber_75 0 rfl ?_
                refine x_iadd (pc := 76) hc dX0_readNumber_76 ?_
                refine x_as (nI (a * 10 + a_1)) (nI_add _ _) ?_
                refine x_iload_n (pc := 77) hc dX0_readNumber_77 4 rfl ?_
                refine x_icmp_le (pc := 78) hc dX0_readNumber_78 83 (by decide) (fun c78 => ?_) (fun c78 => ?_)
                · have c78 : a * 10 + a_1 ≤ hi := (nI_leI (a := a * 10 + a_1) (b := hi) (by omega) (by omega)).mp c78
                  refine x_aload_n (pc := 83) hc dX0_readNumber_83 2 rfl ?_
                  refine x_aload_n (pc := 84) hc dX0_readNumber_84 2 rfl ?_
                  refine x_get (pc := 85) hc cfT kcX0 3 (by decide) fl_X0_40 rfl dX0_readNumber_85 ?_
                  refine x_as (nI a) (by rw [eG2, up2_i _ _ _ _ (by omega), eG1, up2_s]) ?_
                  refine x_bipush (v := 10) (pc := 88) hc dX0_readNumber_88 (by decide) ?_
                  refine x_imul (pc := 90) hc dX0_readNumber_90 ?_
                  refine x_as (nI (a * 10)) (pk_mul _ _) ?_
                  refine x_iload_n (pc := 91) hc dX0_readNumber_91 0 rfl ?_
                  refine x_iadd (pc := 92) hc dX0_readNumber_92 ?_
                  refine x_as (nI (a * 10 + a_1)) (nI_add _ _) ?_
                  refine x_puti (pc := 93) hc cfT kcX0 3 (by decide) fl_X0_40 (by decide) rfl (by simp [fX0]) rfl dX0_readNumber_93 ?_
                  refine x_Gn (fun G3 eG3 => ?_)
                  refine x_aload_n (pc := 96) hc dX0_readNumber_96 2 rfl ?_
                  refine x_dupr (pc := 97) hc dX0_readNumber_97 ?_
                  refine x_get (pc := 98) hc cfT kcX0 2 (by decide) fl_X0_19 rfl dX0_readNumber_98 ?_
                  refine x_as (nI (pl + 1)) (by rw [eG3, up2_i _ _ _ _ (by omega), eG2, up2_s]) ?_
                  refine x_iconst (v := 1) (pc := 101) hc dX0_readNumber_101 (by decide) ?_
                  refine x_iadd (pc := 102) hc dX0_readNumber_102 ?_
                  refine x_as (nI (pl + 1 + 1)) (nI_add _ _) ?_
                  refine x_puti (pc := 103) hc cfT kcX0 2 (by decide) fl_X0_19 (by decide) rfl (by simp [fX0]) rfl dX0_readNumber_103 ?_
                  refine x_Gn (fun G4 eG4 => ?_)
                  refine x_iinc (pc := 106) (L' := [(4, .int (nI (pl + 1 + 1))), (3, .int (nI a_1)), (0, .ref (w.2.2 1)), (1, .int (nI lo)), (2, .int (nI hi))]) hc dX0_readNumber_106 1 rfl (nI (pl + 1 + 1)) (nI_1 _) (by decide) rfl ?_
                  refine x_goto (pc := 109) hc dX0_readNumber_109 39 (by decide) ?_
                  refine x_iload (pc := 39) hc dX0_readNumber_39 0 rfl ?_
                  refine x_aload_n (pc := 41) hc dX0_readNumber_41 2 rfl ?_
                  refine x_get (pc := 42) hc cfT kcX0 1 (by decide) fl_X0_15 rfl dX0_readNumber_42 ?_
                  refine x_as (nI ln) (by rw [eG4, up2_i _ _ _ _ (by omega), eG3, up2_i _ _ _ _ (by omega), eG2, up2_i _ _ _ _ (by omega), eG1, up2_i _ _ _ _ (by omega)]; exact hl) ?_
                  refine x_icmp_ge (pc := 45) hc dX0_readNumber_45 112 (by decide) (fun c45_1 => ?_) (fun c45_1 => ?_)
                  · have c45_1 : ln ≤ pl + 1 + 1 := (nI_leI (a := ln) (b := pl + 1 + 1) (by omega) (by omega)).mp c45_1
                    refine x_iconst (v := 1) (pc := 112) hc dX0_readNumber_112 (by decide) ?_
                    exact hret _ _ _ _ dX0_readNumber_113 ⟨Or.inl ⟨rfl, pl + 2, (nE_2 (hi := hi) da (by omega) ha (by omega) (by omega) ha_1 da_1 (by omega)).1, (by rw [eG4, up2_s]), (by rw [(nE_2 (hi := hi) da (by omega) ha (by omega) (by omega) ha_1 da_1 (by omega)).2]; exact (by rw [eG4, up2_i _ _ _ _ (by omega), eG3, up2_s]))⟩, fun q hq => by rw [eG4, up2_r _ _ _ hq, eG3, up2_r _ _ _ hq, eG2, up2_r _ _ _ hq, eG1, up2_r _ _ _ hq], fun i h2 h3 => by rw [eG4, up2_i _ _ _ _ h2, eG3, up2_i _ _ _ _ h3, eG2, up2_i _ _ _ _ h2, eG1, up2_i _ _ _ _ h3]⟩
                  · have c45_1 : ¬ ln ≤ pl + 1 + 1 := fun h9 => c45_1 ((nI_leI (a := ln) (b := pl + 1 + 1) (by omega) (by omega)).mpr h9)
                    refine x_aload_n (pc := 48) hc dX0_readNumber_48 2 rfl ?_
                    refine x_get (pc := 49) hc cfT kcX0 3 (by decide) fl_X0_40 rfl dX0_readNumber_49 ?_
                    refine x_as (nI (a * 10 + a_1)) (by rw [eG4, up2_i _ _ _ _ (by omega), eG3, up2_s]) ?_
                    refine x_if_le (pc := 52) hc dX0_readNumber_52 112 (by decide) (fun c52_1 => ?_) (fun c52_1 => ?_)
                    · have c52_1 : a * 10 + a_1 ≤ 0 := (nI_leI (a := a * 10 + a_1) (b := 0) (by omega) (by omega)).mp c52_1
                      refine x_iconst (v := 1) (pc := 112) hc dX0_readNumber_112 (by decide) ?_
                      exact hret _ _ _ _ dX0_readNumber_113 ⟨Or.inl ⟨rfl, pl + 2, (nE_2 (hi := hi) da (by omega) ha (by omega) (by omega) ha_1 da_1 (by omega)).1, (by rw [eG4, up2_s]), (by rw [(nE_2 (hi := hi) da (by omega) ha (by omega) (by omega) ha_1 da_1 (by omega)).2]; exact (by rw [eG4, up2_i _ _ _ _ (by omega), eG3, up2_s]))⟩, fun q hq => by rw [eG4, up2_r _ _ _ hq, eG3, up2_r _ _ _ hq, eG2, up2_r _ _ _ hq, eG1, up2_r _ _ _ hq], fun i h2 h3 => by rw [eG4, up2_i _ _ _ _ h2, eG3, up2_i _ _ _ _ h3, eG2, up2_i _ _ _ _ h2, eG1, up2_i _ _ _ _ h3]⟩
                    · have c52_1 : ¬ a * 10 + a_1 ≤ 0 := fun h9 => c52_1 ((nI_leI (a := a * 10 + a_1) (b := 0) (by omega) (by omega)).mpr h9)
                      refine x_aload_n (pc := 55) hc dX0_readNumber_55 2 rfl ?_
                      refine x_callVi (pc := 56) hc cl_X0_49 cfT kcX0 [] (m_X0_digitAtPlace hI (kl K) G4 ln (pl + 1 + 1) hln (by rw [eG4, up2_i _ _ _ _ (by omega), eG3, up2_i _ _ _ _ (by omega), eG2, up2_i _ _ _ _ (by omega), eG1, up2_i _ _ _ _ (by omega)]; exact hl) (by rw [eG4, up2_s]) (by omega)) rfl rfl (by simp [Value.category]) rfl rfl ⟨by decide, by decide⟩ dX0_readNumber_56 (fun r56_1 Gc56_1 q56_1 => ?_)
                      obtain ⟨er56_1, eGc56_1⟩ := q56_1
                      rw [eGc56_1]
                      subst er56_1
                      refine x_as (dgN (G 2) ln (pl + 1 + 1)) (by rw [eG4, up2_r _ _ _ (by omega), eG3, up2_r _ _ _ (by omega), eG2, up2_r _ _ _ (by omega), eG1, up2_r _ _ _ (by omega)]) ?_
                      rcases dgN_cases (G 2) ln (pl + 1 + 1) with ⟨da_2, qa_2⟩ | ⟨a_2, ha_2, da_2, qa_2⟩
                      · refine x_as ((-5)) qa_2 ?_
                        refine x_istore_n (pc := 59) (L' := [(3, .int (-5)), (4, .int (nI (pl + 1 + 1))), (0, .ref (w.2.2 1)), (1, .int (nI lo)), (2, .int (nI hi))]) hc dX0_readNumber_59 (by decide) rfl ?_
                        refine x_iload_n (pc := 60) hc dX0_readNumber_60 0 rfl ?_
                        refine x_bipush (v := (-5)) (pc := 61) hc dX0_readNumber_61 (by decide) ?_
                        refine x_icmp_ne (pc := 63) hc dX0_readNumber_63 68 (by decide) (fun c63_2 => ?_) (fun c63_2 => ?_)
                        · exact absurd c63_2 (by decide)
                        · refine x_iconst (v := 1) (pc := 66) hc dX0_readNumber_66 (by decide) ?_
                          exact hret _ _ _ _ dX0_readNumber_67 ⟨Or.inl ⟨rfl, pl + 2, (nE_2 (hi := hi) da (by omega) ha (by omega) (by omega) ha_1 da_1 (by omega)).1, (by rw [eG4, up2_s]), (by rw [(nE_2 (hi := hi) da (by omega) ha (by omega) (by omega) ha_1 da_1 (by omega)).2]; exact (by rw [eG4, up2_i _ _ _ _ (by omega), eG3, up2_s]))⟩, fun q hq => by rw [eG4, up2_r _ _ _ hq, eG3, up2_r _ _ _ hq, eG2, up2_r _ _ _ hq, eG1, up2_r _ _ _ hq], fun i h2 h3 => by rw [eG4, up2_i _ _ _ _ h2, eG3, up2_i _ _ _ _ h3, eG2, up2_i _ _ _ _ h2, eG1, up2_i _ _ _ _ h3]⟩
                      · refine x_as (nI a_2) qa_2 ?_
                        refine x_istore_n (pc := 59) (L' := [(3, .int (nI a_2)), (4, .int (nI (pl + 1 + 1))), (0, .ref (w.2.2 1)), (1, .int (nI lo)), (2, .int (nI hi))]) hc dX0_readNumber_59 (by decide) rfl ?_
                        refine x_iload_n (pc := 60) hc dX0_readNumber_60 0 rfl ?_
                        refine x_bipush (v := (-5)) (pc := 61) hc dX0_readNumber_61 (by decide) ?_
                        refine x_icmp_ne (pc := 63) hc dX0_readNumber_63 68 (by decide) (fun c63_3 => ?_) (fun c63_3 => ?_)
                        · refine x_aload_n (pc := 68) hc dX0_readNumber_68 2 rfl ?_
                          refine x_get (pc := 69) hc cfT kcX0 3 (by decide) fl_X0_40 rfl dX0_readNumber_69 ?_
                          refine x_as (nI (a * 10 + a_1)) (by rw [eG4, up2_i _ _ _ _ (by omega), eG3, up2_s]) ?_
                          refine x_bipush (v := 10) (pc := 72) hc dX0_readNumber_72 (by decide) ?_
                          refine x_imul (pc := 74) hc dX0_readNumber_74 ?_
                          refine x_as (nI ((a * 10 + a_1) * 10)) (pk_mul _ _) ?_
                          refine x_iload_n (pc := 75) hc dX0_readNumber_75 0 rfl ?_
                          refine x_iadd (pc := 76) hc dX0_readNumber_76 ?_
                          refine x_as (nI ((a * 10 + a_1) * 10 + a_2)) (nI_add _ _) ?_
                          refine x_iload_n (pc := 77) hc dX0_readNumber_77 4 rfl ?_
                          refine x_icmp_le (pc := 78) hc dX0_readNumber_78 83 (by decide) (fun c78_1 => ?_) (fun c78_1 => ?_)
                          · exact absurd ((nI_leI (by omega) (by omega)).mp c78_1) (by omega)
                          · have c78_1 : ¬ (a * 10 + a_1) * 10 + a_2 ≤ hi := fun h9 => c78_1 ((nI_leI (a := (a * 10 + a_1) * 10 + a_2) (b := hi) (by omega) (by omega)).mpr h9)
                            refine x_iconst (v := 0) (pc := 81) hc dX0_readNumber_81 (by decide) ?_
                            exact hret _ _ _ _ dX0_readNumber_82 ⟨Or.inr ⟨rfl, true, pl + 2, (nE_2 (hi := hi) da (by omega) ha (by omega) (by omega) ha_1 da_1 (by omega)).1, (by rw [eG4, up2_s]), fun _ => ⟨by omega, by rw [da_2]; exact Int32.not_lt.mp (nI_nn _ (by omega))⟩⟩, fun q hq => by rw [eG4, up2_r _ _ _ hq, eG3, up2_r _ _ _ hq, eG2, up2_r _ _ _ hq, eG1, up2_r _ _ _ hq], fun i h2 h3 => by rw [eG4, up2_i _ _ _ _ h2, eG3, up2_i _ _ _ _ h3, eG2, up2_i _ _ _ _ h2, eG1, up2_i _ _ _ _ h3]⟩
                        · exact absurd c63_3 (nI_m5 (by omega))
                · have c78 : ¬ a * 10 + a_1 ≤ hi := fun h9 => c78 ((nI_leI (a := a * 10 + a_1) (b := hi) (by omega) (by omega)).mpr h9)
                  refine x_iconst (v := 0) (pc := 81) hc dX0_readNumber_81 (by decide) ?_
                  exact hret _ _ _ _ dX0_readNumber_82 ⟨Or.inr ⟨rfl, true, pl + 1, (nE_1 (hi := hi) da (by omega) ha (by omega) (Or.inr (Or.inr ⟨a_1, ha_1, da_1, by omega⟩))), (by rw [eG2, up2_s]), fun _ => ⟨by omega, by rw [da_1]; exact Int32.not_lt.mp (nI_nn _ (by omega))⟩⟩, fun q hq => by rw [eG2, up2_r _ _ _ hq, eG1, up2_r _ _ _ hq], fun i h2 h3 => by rw [eG2, up2_i _ _ _ _ h2, eG1, up2_i _ _ _ _ h3]⟩
              · exact absurd c63_1 (nI_m5 (by omega))
      · have c13 : ¬ lo ≤ a := fun h9 => c13 ((nI_leI (a := lo) (b := a) (by omega) (by omega)).mpr h9)
        refine x_iconst (v := 0) (pc := 16) hc dX0_readNumber_16 (by decide) ?_
        exact hret _ _ _ _ dX0_readNumber_17 ⟨Or.inr ⟨rfl, false, pl, nE_f1 da (by omega) hlo, hp, fun h9 => by cases h9⟩, fun q hq => rfl, fun i h2 h3 => rfl⟩
