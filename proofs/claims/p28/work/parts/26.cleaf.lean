theorem cpy_eq (G : GS) (k0 k1 n : Nat) : (fun q => if q = k1 then va_cpy (G k0) (G k1) 0 0 n else G q) = up1 G k1 (cpRow (G k0) (G k1) 0 n) := by
  funext q
  unfold up1
  split
  · funext j
    unfold va_cpy cpRow
    rw [Nat.zero_add, Nat.zero_add, Nat.sub_zero]
  · rfl
theorem max0 {d r : Nat} (h1 : d < 1000) (h2 : r < 1000) : (if (0 : Int32) < nI d - nI r then nI d - nI r else 0) = nI (d - r) := by
  have e := i32_sub (x := nI d) (y := nI r) (by rw [nI_toInt (by omega)]; omega) (by rw [nI_toInt (by omega)]; omega) (by rw [nI_toInt (by omega)]; omega) (by rw [nI_toInt (by omega)]; omega)
  rw [nI_toInt (by omega), nI_toInt (by omega)] at e
  by_cases h : r < d
  · rw [if_pos (by rw [Int32.lt_iff_toInt_lt, e]; show (0 : Int) < _; omega), pk_sub (by omega)]
  · rw [if_neg (by rw [Int32.lt_iff_toInt_lt, e]; show ¬ (0 : Int) < _; omega), show d - r = 0 by omega]; rfl
theorem min19 {n : Nat} (h : n < 1000) : (if nI n < 19 then nI n else 19) = nI (min 19 n) := by
  by_cases h1 : n < 19
  · rw [if_pos (show nI n < 19 from (nI_ltI (b := 19) (by omega) (by omega)).mpr h1), show min 19 n = n by omega]
  · rw [if_neg (show ¬ nI n < 19 from fun z => h1 ((nI_ltI (b := 19) (by omega) (by omega)).mp z)), show min 19 n = 19 by omega]; rfl
theorem abs_sz (x : Int32) : (if 0 ≤ x then x else 0 - x) = szI x := by
  unfold szI
  by_cases h : x < 0
  · rw [if_pos h, if_neg (Int32.not_le.mpr h), Int32.zero_sub]
  · rw [if_neg h, if_pos (Int32.not_lt.mp h)]
def cWr (wm ft : Nat → Int32) (t : Int32) : Nat → Int32
  | 0 => 0
  | n + 1 => cWr wm ft t n + (if b01 (wm n ≤ 0) = b01 (ft n ≤ t) then 0 else 1)
def bbRow (b m dst : Nat → Int32) (r : Nat) (t : Int32) (n : Nat) : Nat → Int32 := fun i => if i < n then bnd (b i + mean m i r * t / 100) else dst i
theorem bbRow_up (b m dst : Nat → Int32) (r : Nat) (t : Int32) (n : Nat) : upd (bbRow b m dst r t n) n (bnd (b n + mean m n r * t / 100)) = bbRow b m dst r t (n + 1) := by
  funext i
  unfold upd bbRow
  by_cases e : i = n
  · subst e; rw [if_pos rfl, if_pos (by omega)]
  · rw [if_neg e]
    by_cases h : i < n
    · rw [if_pos h, if_pos (by omega)]
    · rw [if_neg h, if_neg (by omega)]
def zRow (dst : Nat → Int32) (n : Nat) : Nat → Int32 := fun i => if i < n then 0 else dst i
theorem zRow_up (dst : Nat → Int32) (n : Nat) : upd (zRow dst n) n 0 = zRow dst (n + 1) := by
  funext i
  unfold upd zRow
  by_cases e : i = n
  · subst e; rw [if_pos rfl, if_pos (by omega)]
  · rw [if_neg e]
    by_cases h : i < n
    · rw [if_pos h, if_pos (by omega)]
    · rw [if_neg h, if_neg (by omega)]
theorem isY_lt {k : Nat} (h : isY k) : 8 ≤ k ∧ k + 4 < 239 := by
  obtain ⟨b, y, ⟨j, hj, rfl⟩, hy, rfl⟩ := h
  omega
set_option maxHeartbeats 4000000 in
set_option maxRecDepth 100000 in
theorem m_X4_meanByDays {w : WT} (hI : xI w) (l : Launch) (G : GS) (k d r : Nat) (hk : isY k) (hd : d < 20) (hr : r ≤ 9) : Mi w l yX4_meanByDays cX4_meanByDays 8 (some .int) ⟨1, 0, 0, 30⟩ [.ref (w.2.2 k), .int (nI d), .int (nI r)] G (fun v9 G' => v9 = mean (G (k + 4)) d r ∧ G' = G) := by
  refine mk_i (L0 := [(0, .ref (w.2.2 k)), (1, .int (nI d)), (2, .int (nI r))]) hI (by decide +kernel) rfl (Nat.le_of_ble_eq_true rfl) (fun _ _ _ => rfl) (fun K hc hret => ?_)
  refine x_iconst (v := 0) (pc := 0) hc dX4_meanByDays_0 (by decide) ?_
  refine x_iload_n (pc := 1) hc dX4_meanByDays_1 1 rfl ?_
  refine x_iload_n (pc := 2) hc dX4_meanByDays_2 2 rfl ?_
  refine x_isub (pc := 3) hc dX4_meanByDays_3 ?_
  refine x_max (pc := 4) hc ml_X4_42 (by decide) (by simp [Value.category]) dX4_meanByDays_4 ?_
  refine x_as (nI (d - r)) (max0 (by omega) (by omega)) ?_
  refine x_istore_n (pc := 7) (L' := [(3, .int (nI (d - r))), (0, .ref (w.2.2 k)), (1, .int (nI d)), (2, .int (nI r))]) hc dX4_meanByDays_7 (by decide) rfl ?_
  refine x_bipush (v := 19) (pc := 8) hc dX4_meanByDays_8 (by decide) ?_
  refine x_iload_n (pc := 10) hc dX4_meanByDays_10 2 rfl ?_
  refine x_iload_n (pc := 11) hc dX4_meanByDays_11 3 rfl ?_
  refine x_iadd (pc := 12) hc dX4_meanByDays_12 ?_
  refine x_as (nI (d + r)) (nI_add _ _) ?_
  refine x_min (pc := 13) hc ml_X4_47 (by decide) (by simp [Value.category]) dX4_meanByDays_13 ?_
  refine x_as (nI (min 19 (d + r))) (min19 (by omega)) ?_
  refine x_istore (pc := 16) (L' := [(4, .int (nI (min 19 (d + r)))), (3, .int (nI (d - r))), (0, .ref (w.2.2 k)), (1, .int (nI d)), (2, .int (nI r))]) hc dX4_meanByDays_16 (by decide) rfl ?_
  refine x_iconst (v := 0) (pc := 18) hc dX4_meanByDays_18 (by decide) ?_
  refine x_istore (pc := 19) (L' := [(5, .int 0), (4, .int (nI (min 19 (d + r)))), (3, .int (nI (d - r))), (0, .ref (w.2.2 k)), (1, .int (nI d)), (2, .int (nI r))]) hc dX4_meanByDays_19 (by decide) rfl ?_
  refine x_iconst (v := 0) (pc := 21) hc dX4_meanByDays_21 (by decide) ?_
  refine x_istore (pc := 22) (L' := [(6, .int 0), (5, .int 0), (4, .int (nI (min 19 (d + r)))), (3, .int (nI (d - r))), (0, .ref (w.2.2 k)), (1, .int (nI d)), (2, .int (nI r))]) hc dX4_meanByDays_22 (by decide) rfl ?_
  refine x_iload_n (pc := 24) hc dX4_meanByDays_24 3 rfl ?_
  refine x_istore (pc := 25) (L' := [(7, .int (nI (d - r))), (6, .int 0), (5, .int 0), (4, .int (nI (min 19 (d + r)))), (3, .int (nI (d - r))), (0, .ref (w.2.2 k)), (1, .int (nI d)), (2, .int (nI r))]) hc dX4_meanByDays_25 (by decide) rfl ?_
  have loop27 : ∀ (n1 : Nat) (i : Nat), d - r ≤ i → i ≤ min 19 (d + r) + 1 → min 19 (d + r) + 1 < i + n1 → XX w K 8 G 27 [(7, .int (nI i)), (6, .int (nI (mCnt d r i))), (5, .int (mSum (G (k + 4)) d r i)), (4, .int (nI (min 19 (d + r)))), (3, .int (nI (d - r))), (0, .ref (w.2.2 k)), (1, .int (nI d)), (2, .int (nI r))] [] := by
    intro n1
    induction n1 with
    | zero => intro i h1 h2 hf; omega
    | succ n1 ih =>
      intro i h1 h2 hf
      have hct := mCnt_le d r i
      refine x_iload (pc := 27) hc dX4_meanByDays_27 0 rfl ?_
      refine x_iload (pc := 29) hc dX4_meanByDays_29 3 rfl ?_
      refine x_icmp_gt (pc := 31) hc dX4_meanByDays_31 55 (by decide) (fun c31 => ?_) (fun c31 => ?_)
      · have c31 : min 19 (d + r) < i := (nI_ltI (a := min 19 (d + r)) (b := i) (by omega) (by omega)).mp c31
        have e9 : i = min 20 (d + r + 1) := by omega
        have hpos : 0 < mCnt d r i := by
          rw [e9, (mSum_end (G (k + 4)) d r hd).2]
          exact mCnt_pos d r 20 hd
        refine x_iload (pc := 55) hc dX4_meanByDays_55 1 rfl ?_
        refine x_if_le (pc := 57) hc dX4_meanByDays_57 68 (by decide) (fun c57 => ?_) (fun c57 => ?_)
        · exact absurd c57 (nI_nle hpos (by omega))
        · have c57 : ¬ mCnt d r i ≤ 0 := fun h9 => c57 ((nI_leI (a := mCnt d r i) (b := 0) (by omega) (by omega)).mpr h9)
          refine x_iload (pc := 60) hc dX4_meanByDays_60 2 rfl ?_
          refine x_iload (pc := 62) hc dX4_meanByDays_62 1 rfl ?_
          refine x_idiv (pc := 64) hc dX4_meanByDays_64 (nI_ne0 hpos (by omega)) ?_
          refine x_goto (pc := 65) hc dX4_meanByDays_65 69 (by decide) ?_
          exact hret _ _ _ _ dX4_meanByDays_69 ⟨(by
              subst e9
              rw [(mSum_end (G (k + 4)) d r hd).1, (mSum_end (G (k + 4)) d r hd).2]; rfl), rfl⟩
      · have c31 : ¬ min 19 (d + r) < i := fun h9 => c31 ((nI_ltI (a := min 19 (d + r)) (b := i) (by omega) (by omega)).mpr h9)
        refine x_iload (pc := 34) hc dX4_meanByDays_34 2 rfl ?_
        refine x_aload_n (pc := 36) hc dX4_meanByDays_36 5 rfl ?_
        refine x_get (pc := 37) hc (cfY hk) kcX4 3 (by decide) fl_X4_21 rfl dX4_meanByDays_37 ?_
        refine x_iload (pc := 40) hc dX4_meanByDays_40 0 rfl ?_
        refine x_iald (pc := 42) hc (afY hk (i := 4) (by decide) (by decide)) (vp_in_nI (by omega) (by decide)) dX4_meanByDays_42 ?_
        refine x_as (G (k + 4) i) (congrArg _ (nI_clamp (by omega))) ?_
        refine x_iadd (pc := 43) hc dX4_meanByDays_43 ?_
        refine x_nm (fun x44 ex44 => ?_)
        refine x_istore (pc := 44) (L' := [(5, .int x44), (7, .int (nI i)), (6, .int (nI (mCnt d r i))), (4, .int (nI (min 19 (d + r)))), (3, .int (nI (d - r))), (0, .ref (w.2.2 k)), (1, .int (nI d)), (2, .int (nI r))]) hc dX4_meanByDays_44 (by decide) rfl ?_
        refine x_iinc (pc := 46) (L' := [(6, .int (nI (mCnt d r i + 1))), (5, .int x44), (7, .int (nI i)), (4, .int (nI (min 19 (d + r)))), (3, .int (nI (d - r))), (0, .ref (w.2.2 k)), (1, .int (nI d)), (2, .int (nI r))]) hc dX4_meanByDays_46 2 rfl (nI (mCnt d r i + 1)) (nI_1 _) (by decide) rfl ?_
        refine x_iinc (pc := 49) (L' := [(7, .int (nI (i + 1))), (6, .int (nI (mCnt d r i + 1))), (5, .int x44), (4, .int (nI (min 19 (d + r)))), (3, .int (nI (d - r))), (0, .ref (w.2.2 k)), (1, .int (nI d)), (2, .int (nI r))]) hc dX4_meanByDays_49 2 rfl (nI (i + 1)) (nI_1 _) (by decide) rfl ?_
        refine x_goto (pc := 52) hc dX4_meanByDays_52 27 (by decide) ?_
        refine x_loc [0, 1, 2, 3, 4, 5, 6, 7] rfl ?_
        have e1 : mSum (G (k + 4)) d r (i + 1) = x44 := by
          rw [ex44]
          show mSum (G (k + 4)) d r i + _ = _
          rw [if_pos (by omega)]
        have e2 : mCnt d r (i + 1) = mCnt d r i + 1 := by
          show mCnt d r i + _ = _
          rw [if_pos (by omega)]
        have z8 := ih (i + 1) (by omega) (by omega) (by omega)
        rw [e1, e2] at z8
        exact z8
  refine x_loc [0, 1, 2, 3, 4, 5, 6, 7] rfl ?_
  have z1 : mSum (G (k + 4)) d r (d - r) = 0 ∧ mCnt d r (d - r) = 0 := by
    by_cases h : r ≤ d
    · exact mSum_lo _ _ _ _ (by omega)
    · rw [show d - r = 0 by omega]; exact ⟨rfl, rfl⟩
  have z8 := loop27 22 (d - r) (by omega) (by omega) (by omega)
  rw [z1.1, z1.2] at z8
  exact z8
set_option maxHeartbeats 4000000 in
set_option maxRecDepth 100000 in
theorem m_X4_sumBefore {w : WT} (hI : xI w) (l : Launch) (G : GS) (k n : Nat) (hk : isY k) (hn : n ≤ 20) : Mi w l yX4_sumBefore cX4_sumBefore 4 (some .int) ⟨0, 0, 0, 0⟩ [.ref (w.2.2 k), .int (nI n)] G (fun v9 G' => v9 = pSum (G (k + 4)) n ∧ G' = G) := by
  refine mk_i (L0 := [(0, .ref (w.2.2 k)), (1, .int (nI n))]) hI (by decide +kernel) rfl (Nat.le_of_ble_eq_true rfl) (fun _ _ _ => rfl) (fun K hc hret => ?_)
  refine x_iconst (v := 0) (pc := 0) hc dX4_sumBefore_0 (by decide) ?_
  refine x_istore_n (pc := 1) (L' := [(2, .int 0), (0, .ref (w.2.2 k)), (1, .int (nI n))]) hc dX4_sumBefore_1 (by decide) rfl ?_
  refine x_iconst (v := 0) (pc := 2) hc dX4_sumBefore_2 (by decide) ?_
  refine x_istore_n (pc := 3) (L' := [(3, .int 0), (2, .int 0), (0, .ref (w.2.2 k)), (1, .int (nI n))]) hc dX4_sumBefore_3 (by decide) rfl ?_
  have loop4 : ∀ (n1 : Nat) (i : Nat), i ≤ n → n < i + n1 → XX w K 4 G 4 [(3, .int (nI i)), (2, .int (pSum (G (k + 4)) i)), (0, .ref (w.2.2 k)), (1, .int (nI n))] [] := by
    intro n1
    induction n1 with
    | zero => intro i hi hf; omega
    | succ n1 ih =>
      intro i hi hf
      refine x_iload_n (pc := 4) hc dX4_sumBefore_4 0 rfl ?_
      refine x_iload_n (pc := 5) hc dX4_sumBefore_5 3 rfl ?_
      refine x_icmp_ge (pc := 6) hc dX4_sumBefore_6 30 (by decide) (fun c6 => ?_) (fun c6 => ?_)
      · have c6 : n ≤ i := (nI_leI (a := n) (b := i) (by omega) (by omega)).mp c6
        refine x_iload_n (pc := 30) hc dX4_sumBefore_30 1 rfl ?_
        exact hret _ _ _ _ dX4_sumBefore_31 ⟨by rw [show n = i by omega], rfl⟩
      · have c6 : ¬ n ≤ i := fun h9 => c6 ((nI_leI (a := n) (b := i) (by omega) (by omega)).mpr h9)
        refine x_iload_n (pc := 9) hc dX4_sumBefore_9 0 rfl ?_
        refine x_bipush (v := 20) (pc := 10) hc dX4_sumBefore_10 (by decide) ?_
        refine x_icmp_ge (pc := 12) hc dX4_sumBefore_12 30 (by decide) (fun c12 => ?_) (fun c12 => ?_)
        · have c12 : 20 ≤ i := (nI_leI (a := 20) (b := i) (by omega) (by omega)).mp c12
          refine x_iload_n (pc := 30) hc dX4_sumBefore_30 1 rfl ?_
          exact hret _ _ _ _ dX4_sumBefore_31 ⟨by rw [show n = i by omega], rfl⟩
        · have c12 : ¬ 20 ≤ i := fun h9 => c12 ((nI_leI (a := 20) (b := i) (by omega) (by omega)).mpr h9)
          refine x_iload_n (pc := 15) hc dX4_sumBefore_15 1 rfl ?_
          refine x_aload_n (pc := 16) hc dX4_sumBefore_16 2 rfl ?_
          refine x_get (pc := 17) hc (cfY hk) kcX4 3 (by decide) fl_X4_21 rfl dX4_sumBefore_17 ?_
          refine x_iload_n (pc := 20) hc dX4_sumBefore_20 0 rfl ?_
          refine x_iald (pc := 21) hc (afY hk (i := 4) (by decide) (by decide)) (vp_in_nI (by omega) (by decide)) dX4_sumBefore_21 ?_
          refine x_as (G (k + 4) i) (congrArg _ (nI_clamp (by omega))) ?_
          refine x_iadd (pc := 22) hc dX4_sumBefore_22 ?_
          refine x_nm (fun x23 ex23 => ?_)
          refine x_istore_n (pc := 23) (L' := [(2, .int x23), (3, .int (nI i)), (0, .ref (w.2.2 k)), (1, .int (nI n))]) hc dX4_sumBefore_23 (by decide) rfl ?_
          refine x_iinc (pc := 24) (L' := [(3, .int (nI (i + 1))), (2, .int x23), (0, .ref (w.2.2 k)), (1, .int (nI n))]) hc dX4_sumBefore_24 1 rfl (nI (i + 1)) (nI_1 _) (by decide) rfl ?_
          refine x_goto (pc := 27) hc dX4_sumBefore_27 4 (by decide) ?_
          refine x_loc [0, 1, 2, 3] rfl ?_
          rw [ex23]
          exact ih (i + 1) (by omega) (by omega)
  refine x_loc [0, 1, 2, 3] rfl ?_
  exact loop4 21 0 (by omega) (by omega)
set_option maxHeartbeats 4000000 in
set_option maxRecDepth 100000 in
theorem m_X4_meanBySums {w : WT} (hI : xI w) (l : Launch) (G : GS) (k d r : Nat) (hk : isY k) (hd : d < 20) (hr : r ≤ 9) : Mi w l yX4_meanBySums cX4_meanBySums 7 (some .int) ⟨1, 0, 0, 30⟩ [.ref (w.2.2 k), .int (nI d), .int (nI r)] G (fun v9 G' => v9 = meanS (G (k + 4)) d r ∧ G' = G) := by
  refine mk_i (L0 := [(0, .ref (w.2.2 k)), (1, .int (nI d)), (2, .int (nI r))]) hI (by decide +kernel) rfl (Nat.le_of_ble_eq_true rfl) (fun _ _ _ => rfl) (fun K hc hret => ?_)
  refine x_iconst (v := 0) (pc := 0) hc dX4_meanBySums_0 (by decide) ?_
  refine x_iload_n (pc := 1) hc dX4_meanBySums_1 1 rfl ?_
  refine x_iload_n (pc := 2) hc dX4_meanBySums_2 2 rfl ?_
  refine x_isub (pc := 3) hc dX4_meanBySums_3 ?_
  refine x_max (pc := 4) hc ml_X4_42 (by decide) (by simp [Value.category]) dX4_meanBySums_4 ?_
  refine x_as (nI (d - r)) (max0 (by omega) (by omega)) ?_
  refine x_istore_n (pc := 7) (L' := [(3, .int (nI (d - r))), (0, .ref (w.2.2 k)), (1, .int (nI d)), (2, .int (nI r))]) hc dX4_meanBySums_7 (by decide) rfl ?_
  refine x_bipush (v := 19) (pc := 8) hc dX4_meanBySums_8 (by decide) ?_
  refine x_iload_n (pc := 10) hc dX4_meanBySums_10 2 rfl ?_
  refine x_iload_n (pc := 11) hc dX4_meanBySums_11 3 rfl ?_
  refine x_iadd (pc := 12) hc dX4_meanBySums_12 ?_
  refine x_as (nI (d + r)) (nI_add _ _) ?_
  refine x_min (pc := 13) hc ml_X4_47 (by decide) (by simp [Value.category]) dX4_meanBySums_13 ?_
  refine x_as (nI (min 19 (d + r))) (min19 (by omega)) ?_
  refine x_istore (pc := 16) (L' := [(4, .int (nI (min 19 (d + r)))), (3, .int (nI (d - r))), (0, .ref (w.2.2 k)), (1, .int (nI d)), (2, .int (nI r))]) hc dX4_meanBySums_16 (by decide) rfl ?_
  refine x_iload (pc := 18) hc dX4_meanBySums_18 0 rfl ?_
  refine x_iload_n (pc := 20) hc dX4_meanBySums_20 1 rfl ?_
  refine x_isub (pc := 21) hc dX4_meanBySums_21 ?_
  refine x_as (nI (min 19 (d + r) - (d - r))) (pk_sub (by omega)) ?_
  refine x_iconst (v := 1) (pc := 22) hc dX4_meanBySums_22 (by decide) ?_
  refine x_iadd (pc := 23) hc dX4_meanBySums_23 ?_
  refine x_as (nI (min 19 (d + r) - (d - r) + 1)) (nI_add _ _) ?_
  refine x_istore (pc := 24) (L' := [(5, .int (nI (min 19 (d + r) - (d - r) + 1))), (4, .int (nI (min 19 (d + r)))), (3, .int (nI (d - r))), (0, .ref (w.2.2 k)), (1, .int (nI d)), (2, .int (nI r))]) hc dX4_meanBySums_24 (by decide) rfl ?_
  refine x_aload_n (pc := 26) hc dX4_meanBySums_26 3 rfl ?_
  refine x_iload (pc := 27) hc dX4_meanBySums_27 1 rfl ?_
  refine x_iconst (v := 1) (pc := 29) hc dX4_meanBySums_29 (by decide) ?_
  refine x_iadd (pc := 30) hc dX4_meanBySums_30 ?_
  refine x_as (nI (min 19 (d + r) + 1)) (nI_add _ _) ?_
  refine x_callVi (pc := 31) hc cl_X4_50 (cfY hk) kcX4 [.int (nI (min 19 (d + r) + 1))] (m_X4_sumBefore hI (kl K) G k (min 19 (d + r) + 1) hk (by omega)) rfl rfl (by simp [Value.category]) rfl rfl ⟨by decide, by decide⟩ dX4_meanBySums_31 (fun r31 Gc31 q31 => ?_)
  obtain ⟨er31, eGc31⟩ := q31
  rw [eGc31]
  subst er31
  refine x_aload_n (pc := 34) hc dX4_meanBySums_34 3 rfl ?_
  refine x_iload_n (pc := 35) hc dX4_meanBySums_35 2 rfl ?_
  refine x_callVi (pc := 36) hc cl_X4_50 (cfY hk) kcX4 [.int (nI (d - r))] (m_X4_sumBefore hI (kl K) G k (d - r) hk (by omega)) rfl rfl (by simp [Value.category]) rfl rfl ⟨by decide, by decide⟩ dX4_meanBySums_36 (fun r36 Gc36 q36 => ?_)
  obtain ⟨er36, eGc36⟩ := q36
  rw [eGc36]
  subst er36
  refine x_isub (pc := 39) hc dX4_meanBySums_39 ?_
  refine x_nm (fun x40 ex40 => ?_)
  refine x_istore (pc := 40) (L' := [(6, .int x40), (5, .int (nI (min 19 (d + r) - (d - r) + 1))), (4, .int (nI (min 19 (d + r)))), (3, .int (nI (d - r))), (0, .ref (w.2.2 k)), (1, .int (nI d)), (2, .int (nI r))]) hc dX4_meanBySums_40 (by decide) rfl ?_
  refine x_iload (pc := 42) hc dX4_meanBySums_42 1 rfl ?_
  refine x_if_le (pc := 44) hc dX4_meanBySums_44 55 (by decide) (fun c44 => ?_) (fun c44 => ?_)
  · exact absurd c44 (nI_nle (by omega) (by omega))
  · have c44 : ¬ min 19 (d + r) - (d - r) + 1 ≤ 0 := fun h9 => c44 ((nI_leI (a := min 19 (d + r) - (d - r) + 1) (b := 0) (by omega) (by omega)).mpr h9)
    refine x_iload (pc := 47) hc dX4_meanBySums_47 0 rfl ?_
    refine x_iload (pc := 49) hc dX4_meanBySums_49 1 rfl ?_
    refine x_idiv (pc := 51) hc dX4_meanBySums_51 (nI_ne0 (by omega) (by omega)) ?_
    refine x_goto (pc := 52) hc dX4_meanBySums_52 56 (by decide) ?_
    exact hret _ _ _ _ dX4_meanBySums_56 ⟨(by unfold meanS; rw [show min 20 (d + r + 1) = min 19 (d + r) + 1 by omega, show min 19 (d + r) + 1 - (d - r) = min 19 (d + r) - (d - r) + 1 by omega]; subst ex40; rfl), rfl⟩
set_option maxHeartbeats 4000000 in
set_option maxRecDepth 100000 in
theorem m_X4_wrongFrosts {w : WT} (hI : xI w) (l : Launch) (G : GS) (k : Nat) (t : Int32) (hk : isY k) : Mi w l yX4_wrongFrosts cX4_wrongFrosts 4 (some .int) ⟨1, 0, 0, 20⟩ [.ref (w.2.2 k), .int t] G (fun v9 G' => v9 = cWr (G (k + 3)) (G (k + 2)) t 20 ∧ G' = G) := by
  refine mk_i (L0 := [(0, .ref (w.2.2 k)), (1, .int t)]) hI (by decide +kernel) rfl (Nat.le_of_ble_eq_true rfl) (fun _ _ _ => rfl) (fun K hc hret => ?_)
  refine x_iconst (v := 0) (pc := 0) hc dX4_wrongFrosts_0 (by decide) ?_
  refine x_istore_n (pc := 1) (L' := [(2, .int 0), (0, .ref (w.2.2 k)), (1, .int t)]) hc dX4_wrongFrosts_1 (by decide) rfl ?_
  refine x_iconst (v := 0) (pc := 2) hc dX4_wrongFrosts_2 (by decide) ?_
  refine x_istore_n (pc := 3) (L' := [(3, .int 0), (2, .int 0), (0, .ref (w.2.2 k)), (1, .int t)]) hc dX4_wrongFrosts_3 (by decide) rfl ?_
  have loop4 : ∀ (n1 : Nat) (i : Nat), i ≤ 20 → 20 < i + n1 → XX w K 4 G 4 [(3, .int (nI i)), (2, .int (cWr (G (k + 3)) (G (k + 2)) t i)), (0, .ref (w.2.2 k)), (1, .int t)] [] := by
    intro n1
    induction n1 with
    | zero => intro i hi hf; omega
    | succ n1 ih =>
      intro i hi hf
      refine x_iload_n (pc := 4) hc dX4_wrongFrosts_4 0 rfl ?_
      refine x_bipush (v := 20) (pc := 5) hc dX4_wrongFrosts_5 (by decide) ?_
      refine x_icmp_ge (pc := 7) hc dX4_wrongFrosts_7 46 (by decide) (fun c7 => ?_) (fun c7 => ?_)
      · have c7 : 20 ≤ i := (nI_leI (a := 20) (b := i) (by omega) (by omega)).mp c7
        refine x_iload_n (pc := 46) hc dX4_wrongFrosts_46 1 rfl ?_
        exact hret _ _ _ _ dX4_wrongFrosts_47 ⟨by rw [show (20 : Nat) = i by omega], rfl⟩
      · have c7 : ¬ 20 ≤ i := fun h9 => c7 ((nI_leI (a := 20) (b := i) (by omega) (by omega)).mpr h9)
        refine x_aload_n (pc := 10) hc dX4_wrongFrosts_10 2 rfl ?_
        refine x_get (pc := 11) hc (cfY hk) kcX4 2 (by decide) fl_X4_18 rfl dX4_wrongFrosts_11 ?_
        refine x_iload_n (pc := 14) hc dX4_wrongFrosts_14 0 rfl ?_
        refine x_iald (pc := 15) hc (afY hk (i := 3) (by decide) (by decide)) (vp_in_nI (by omega) (by decide)) dX4_wrongFrosts_15 ?_
        refine x_as (G (k + 3) i) (congrArg _ (nI_clamp (by omega))) ?_
        refine x_callNi (pc := 16) hc cl_X4_54 hc.2.2.2.2.2.2.2.1.2.2.2 [.int (G (k + 3) i)] (m_X5_isFrost hI (kl K) G (G (k + 3) i)) rfl rfl (by simp [Value.category]) rfl rfl ⟨by decide, by decide⟩ dX4_wrongFrosts_16 (fun r16 Gc16 q16 => ?_)
        obtain ⟨er16, eGc16⟩ := q16
        rw [eGc16]
        subst er16
        refine x_aload_n (pc := 19) hc dX4_wrongFrosts_19 2 rfl ?_
        refine x_get (pc := 20) hc (cfY hk) kcX4 1 (by decide) fl_X4_15 rfl dX4_wrongFrosts_20 ?_
        refine x_iload_n (pc := 23) hc dX4_wrongFrosts_23 0 rfl ?_
        refine x_iald (pc := 24) hc (afY hk (i := 2) (by decide) (by decide)) (vp_in_nI (by omega) (by decide)) dX4_wrongFrosts_24 ?_
        refine x_as (G (k + 2) i) (congrArg _ (nI_clamp (by omega))) ?_
        refine x_iload_n (pc := 25) hc dX4_wrongFrosts_25 3 rfl ?_
        refine x_icmp_gt (pc := 26) hc dX4_wrongFrosts_26 33 (by decide) (fun c26 => ?_) (fun c26 => ?_)
        · refine x_iconst (v := 0) (pc := 33) hc dX4_wrongFrosts_33 (by decide) ?_
          refine x_icmp_eq (pc := 34) hc dX4_wrongFrosts_34 40 (by decide) (fun c34 => ?_) (fun c34 => ?_)
          · refine x_iinc (pc := 40) (L' := [(3, .int (nI (i + 1))), (2, .int (cWr (G (k + 3)) (G (k + 2)) t i)), (0, .ref (w.2.2 k)), (1, .int t)]) hc dX4_wrongFrosts_40 0 rfl (nI (i + 1)) (nI_1 _) (by decide) rfl ?_
            refine x_goto (pc := 43) hc dX4_wrongFrosts_43 4 (by decide) ?_
            refine x_loc [0, 1, 2, 3] rfl ?_
            have q2 : b01 (G (k + 2) i ≤ t) = 0 := b01_neg (Int32.not_le.mpr c26)
            have e1 : cWr (G (k + 3)) (G (k + 2)) t (i + 1) = cWr (G (k + 3)) (G (k + 2)) t i := by
              show cWr _ _ t i + _ = _
              rw [q2, if_pos c34]
              exact Int32.add_zero _
            have z8 := ih (i + 1) (by omega) (by omega)
            rw [e1] at z8
            exact z8
          · refine x_iinc (pc := 37) (L' := [(2, .int ((cWr (G (k + 3)) (G (k + 2)) t i) + 1)), (3, .int (nI i)), (0, .ref (w.2.2 k)), (1, .int t)]) hc dX4_wrongFrosts_37 1 rfl ((cWr (G (k + 3)) (G (k + 2)) t i) + 1) (rfl) (by decide) rfl ?_
            refine x_iinc (pc := 40) (L' := [(3, .int (nI (i + 1))), (2, .int ((cWr (G (k + 3)) (G (k + 2)) t i) + 1)), (0, .ref (w.2.2 k)), (1, .int t)]) hc dX4_wrongFrosts_40 1 rfl (nI (i + 1)) (nI_1 _) (by decide) rfl ?_
            refine x_goto (pc := 43) hc dX4_wrongFrosts_43 4 (by decide) ?_
            refine x_loc [0, 1, 2, 3] rfl ?_
            have q2 : b01 (G (k + 2) i ≤ t) = 0 := b01_neg (Int32.not_le.mpr c26)
            have e1 : cWr (G (k + 3)) (G (k + 2)) t (i + 1) = (cWr (G (k + 3)) (G (k + 2)) t i) + 1 := by
              show cWr _ _ t i + _ = _
              rw [q2, if_neg c34]
            have z8 := ih (i + 1) (by omega) (by omega)
            rw [e1] at z8
            exact z8
        · refine x_iconst (v := 1) (pc := 29) hc dX4_wrongFrosts_29 (by decide) ?_
          refine x_goto (pc := 30) hc dX4_wrongFrosts_30 34 (by decide) ?_
          refine x_icmp_eq (pc := 34) hc dX4_wrongFrosts_34 40 (by decide) (fun c34_1 => ?_) (fun c34_1 => ?_)
          · refine x_iinc (pc := 40) (L' := [(3, .int (nI (i + 1))), (2, .int (cWr (G (k + 3)) (G (k + 2)) t i)), (0, .ref (w.2.2 k)), (1, .int t)]) hc dX4_wrongFrosts_40 0 rfl (nI (i + 1)) (nI_1 _) (by decide) rfl ?_
            refine x_goto (pc := 43) hc dX4_wrongFrosts_43 4 (by decide) ?_
            refine x_loc [0, 1, 2, 3] rfl ?_
            have q2 : b01 (G (k + 2) i ≤ t) = 1 := b01_pos (Int32.not_lt.mp c26)
            have e1 : cWr (G (k + 3)) (G (k + 2)) t (i + 1) = cWr (G (k + 3)) (G (k + 2)) t i := by
              show cWr _ _ t i + _ = _
              rw [q2, if_pos c34_1]
              exact Int32.add_zero _
            have z8 := ih (i + 1) (by omega) (by omega)
            rw [e1] at z8
            exact z8
          · refine x_iinc (pc := 37) (L' := [(2, .int ((cWr (G (k + 3)) (G (k + 2)) t i) + 1)), (3, .int (nI i)), (0, .ref (w.2.2 k)), (1, .int t)]) hc dX4_wrongFrosts_37 1 rfl ((cWr (G (k + 3)) (G (k + 2)) t i) + 1) (rfl) (by decide) rfl ?_
            refine x_iinc (pc := 40) (L' := [(3, .int (nI (i + 1))), (2, .int ((cWr (G (k + 3)) (G (k + 2)) t i) + 1)), (0, .ref (w.2.2 k)), (1, .int t)]) hc dX4_wrongFrosts_40 1 rfl (nI (i + 1)) (nI_1 _) (by decide) rfl ?_
            refine x_goto (pc := 43) hc dX4_wrongFrosts_43 4 (by decide) ?_
            refine x_loc [0, 1, 2, 3] rfl ?_
            have q2 : b01 (G (k + 2) i ≤ t) = 1 := b01_pos (Int32.not_lt.mp c26)
            have e1 : cWr (G (k + 3)) (G (k + 2)) t (i + 1) = (cWr (G (k + 3)) (G (k + 2)) t i) + 1 := by
              show cWr _ _ t i + _ = _
              rw [q2, if_neg c34_1]
            have z8 := ih (i + 1) (by omega) (by omega)
            rw [e1] at z8
            exact z8
  refine x_loc [0, 1, 2, 3] rfl ?_
  exact loop4 21 0 (by omega) (by omega)
