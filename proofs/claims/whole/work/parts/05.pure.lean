def inB (v lo hi : Int32) : Int32 := b01 (lo ≤ v ∧ v ≤ hi)
def bnd (v : Int32) : Int32 := if v < -40 then -40 else if 40 < v then 40 else v
def szI (v : Int32) : Int32 := if v < 0 then -v else v
theorem clamp_eq (v : Int32) : (if (-40 : Int32) < (if v < 40 then v else 40) then (if v < 40 then v else 40) else -40) = bnd v := by
  unfold bnd
  by_cases h1 : v < 40
  · rw [if_pos h1]
    by_cases h2 : v < -40
    · rw [if_pos h2, if_neg (by rw [Int32.lt_iff_toInt_lt] at *; omega)]
    · rw [if_neg h2]
      by_cases h3 : (-40 : Int32) < v
      · rw [if_pos h3, if_neg (by rw [Int32.lt_iff_toInt_lt] at *; omega)]
      · rw [if_neg h3, if_neg (by rw [Int32.lt_iff_toInt_lt] at *; omega)]
        apply Int32.toInt_inj.mp
        rw [Int32.lt_iff_toInt_lt] at *
        omega
  · rw [if_neg h1, if_pos (by decide), if_neg (by
      rw [Int32.lt_iff_toInt_lt] at *
      have : (40 : Int32).toInt = 40 := rfl
      have : (-40 : Int32).toInt = -40 := rfl
      omega)]
    by_cases h3 : (40 : Int32) < v
    · rw [if_pos h3]
    · rw [if_neg h3]
      apply Int32.toInt_inj.mp
      rw [Int32.lt_iff_toInt_lt] at *
      omega
theorem b01_le (p : Prop) [Decidable p] : b01 p = 0 ∨ b01 p = 1 := by
  unfold b01
  split
  · exact Or.inr rfl
  · exact Or.inl rfl
set_option maxHeartbeats 4000000 in
set_option maxRecDepth 100000 in
theorem m_X6_in {w : WT} (hI : xI w) (l : Launch) (G : GS) (v lo hi : Int32) : Mi w l yX6_in cX6_in 3 (some .boolean) ⟨0, 0, 0, 0⟩ [.int v, .int lo, .int hi] G (fun r G' => r = inB v lo hi ∧ G' = G) := by
  refine mk_i (L0 := [(0, .int v), (1, .int lo), (2, .int hi)]) hI (by decide +kernel) rfl (Nat.le_of_ble_eq_true rfl) (fun v G9 h => by rw [h.1]; exact nz_b01 _) (fun K hc hret => ?_)
  refine x_iload_n (pc := 0) hc dX6_in_0 0 rfl ?_
  refine x_iload_n (pc := 1) hc dX6_in_1 1 rfl ?_
  refine x_icmp_lt (pc := 2) hc dX6_in_2 14 (by decide) (fun c2 => ?_) (fun c2 => ?_)
  · refine x_iconst (v := 0) (pc := 14) hc dX6_in_14 (by decide) ?_
    exact hret _ _ _ _ dX6_in_15 ⟨by simp only [inB, b01, Int32.lt_iff_toInt_lt, Int32.le_iff_toInt_le] at *; (repeat' split) <;> first | rfl | omega, rfl⟩
  · refine x_iload_n (pc := 5) hc dX6_in_5 0 rfl ?_
    refine x_iload_n (pc := 6) hc dX6_in_6 2 rfl ?_
    refine x_icmp_gt (pc := 7) hc dX6_in_7 14 (by decide) (fun c7 => ?_) (fun c7 => ?_)
    · refine x_iconst (v := 0) (pc := 14) hc dX6_in_14 (by decide) ?_
      exact hret _ _ _ _ dX6_in_15 ⟨by simp only [inB, b01, Int32.lt_iff_toInt_lt, Int32.le_iff_toInt_le] at *; (repeat' split) <;> first | rfl | omega, rfl⟩
    · refine x_iconst (v := 1) (pc := 10) hc dX6_in_10 (by decide) ?_
      refine x_goto (pc := 11) hc dX6_in_11 15 (by decide) ?_
      exact hret _ _ _ _ dX6_in_15 ⟨by simp only [inB, b01, Int32.lt_iff_toInt_lt, Int32.le_iff_toInt_le] at *; (repeat' split) <;> first | rfl | omega, rfl⟩
set_option maxHeartbeats 4000000 in
set_option maxRecDepth 100000 in
theorem m_X6_isDay {w : WT} (hI : xI w) (l : Launch) (G : GS) (v : Int32) : Mi w l yX6_isDay cX6_isDay 1 (some .boolean) ⟨1, 0, 0, 22⟩ [.int v] G (fun r G' => r = inB v 0 19 ∧ G' = G) := by
  refine mk_i (L0 := [(0, .int v)]) hI (by decide +kernel) rfl (Nat.le_of_ble_eq_true rfl) (fun v G9 h => by rw [h.1]; exact nz_b01 _) (fun K hc hret => ?_)
  refine x_iload_n (pc := 0) hc dX6_isDay_0 0 rfl ?_
  refine x_iconst (v := 0) (pc := 1) hc dX6_isDay_1 (by decide) ?_
  refine x_bipush (v := 19) (pc := 2) hc dX6_isDay_2 (by decide) ?_
  refine x_callSi (pc := 4) hc cl_X6_29 [.int v, .int 0, .int 19] (m_X6_in hI (kl K) G v 0 19) rfl rfl (by simp [Value.category]) rfl rfl ⟨by decide, by decide⟩ dX6_isDay_4 (fun r4 Gc4 q4 => ?_)
  obtain ⟨er4, eGc4⟩ := q4
  rw [eGc4]
  subst er4
  exact hret _ _ _ _ dX6_isDay_7 ⟨rfl, rfl⟩
set_option maxHeartbeats 4000000 in
set_option maxRecDepth 100000 in
theorem m_X6_isReader {w : WT} (hI : xI w) (l : Launch) (G : GS) (v : Int32) : Mi w l yX6_isReader cX6_isReader 1 (some .boolean) ⟨1, 0, 0, 22⟩ [.int v] G (fun r G' => r = inB v 0 3 ∧ G' = G) := by
  refine mk_i (L0 := [(0, .int v)]) hI (by decide +kernel) rfl (Nat.le_of_ble_eq_true rfl) (fun v G9 h => by rw [h.1]; exact nz_b01 _) (fun K hc hret => ?_)
  refine x_iload_n (pc := 0) hc dX6_isReader_0 0 rfl ?_
  refine x_iconst (v := 0) (pc := 1) hc dX6_isReader_1 (by decide) ?_
  refine x_iconst (v := 3) (pc := 2) hc dX6_isReader_2 (by decide) ?_
  refine x_callSi (pc := 3) hc cl_X6_29 [.int v, .int 0, .int 3] (m_X6_in hI (kl K) G v 0 3) rfl rfl (by simp [Value.category]) rfl rfl ⟨by decide, by decide⟩ dX6_isReader_3 (fun r3 Gc3 q3 => ?_)
  obtain ⟨er3, eGc3⟩ := q3
  rw [eGc3]
  subst er3
  exact hret _ _ _ _ dX6_isReader_6 ⟨rfl, rfl⟩
set_option maxHeartbeats 4000000 in
set_option maxRecDepth 100000 in
theorem m_X6_reader {w : WT} (hI : xI w) (l : Launch) (G : GS) (p k : Nat) : Mi w l yX6_reader cX6_reader 2 (some .int) ⟨0, 0, 0, 0⟩ [.int (nI p), .int (nI k)] G (fun r G' => r = nI (p + 328 + 5 * k) ∧ G' = G) := by
  refine mk_i (L0 := [(0, .int (nI p)), (1, .int (nI k))]) hI (by decide +kernel) rfl (Nat.le_of_ble_eq_true rfl) (fun _ _ _ => rfl) (fun K hc hret => ?_)
  refine x_iload_n (pc := 0) hc dX6_reader_0 0 rfl ?_
  refine x_sipush (v := 328) (pc := 1) hc dX6_reader_1 (by decide) ?_
  refine x_iadd (pc := 4) hc dX6_reader_4 ?_
  refine x_as (nI (p + 328)) (nI_add _ _) ?_
  refine x_iconst (v := 5) (pc := 5) hc dX6_reader_5 (by decide) ?_
  refine x_iload_n (pc := 6) hc dX6_reader_6 1 rfl ?_
  refine x_imul (pc := 7) hc dX6_reader_7 ?_
  refine x_as (nI (5 * k)) (pk_mul _ _) ?_
  refine x_iadd (pc := 8) hc dX6_reader_8 ?_
  refine x_as (nI (p + 328 + 5 * k)) (nI_add _ _) ?_
  exact hret _ _ _ _ dX6_reader_9 ⟨rfl, rfl⟩
set_option maxHeartbeats 4000000 in
set_option maxRecDepth 100000 in
theorem m_X6_saintAt {w : WT} (hI : xI w) (l : Launch) (G : GS) (p k : Nat) : Mi w l yX6_saintAt cX6_saintAt 2 (some .int) ⟨0, 0, 0, 0⟩ [.int (nI p), .int (nI k)] G (fun r G' => r = nI (p + 308 + 4 * k) ∧ G' = G) := by
  refine mk_i (L0 := [(0, .int (nI p)), (1, .int (nI k))]) hI (by decide +kernel) rfl (Nat.le_of_ble_eq_true rfl) (fun _ _ _ => rfl) (fun K hc hret => ?_)
  refine x_iload_n (pc := 0) hc dX6_saintAt_0 0 rfl ?_
  refine x_sipush (v := 308) (pc := 1) hc dX6_saintAt_1 (by decide) ?_
  refine x_iadd (pc := 4) hc dX6_saintAt_4 ?_
  refine x_as (nI (p + 308)) (nI_add _ _) ?_
  refine x_iconst (v := 4) (pc := 5) hc dX6_saintAt_5 (by decide) ?_
  refine x_iload_n (pc := 6) hc dX6_saintAt_6 1 rfl ?_
  refine x_imul (pc := 7) hc dX6_saintAt_7 ?_
  refine x_as (nI (4 * k)) (pk_mul _ _) ?_
  refine x_iadd (pc := 8) hc dX6_saintAt_8 ?_
  refine x_as (nI (p + 308 + 4 * k)) (nI_add _ _) ?_
  exact hret _ _ _ _ dX6_saintAt_9 ⟨rfl, rfl⟩
set_option maxHeartbeats 4000000 in
set_option maxRecDepth 100000 in
theorem m_X6_size {w : WT} (hI : xI w) (l : Launch) (G : GS) (v : Int32) : Mi w l yX6_size cX6_size 1 (some .int) ⟨0, 0, 0, 0⟩ [.int v] G (fun r G' => r = szI v ∧ G' = G) := by
  refine mk_i (L0 := [(0, .int v)]) hI (by decide +kernel) rfl (Nat.le_of_ble_eq_true rfl) (fun _ _ _ => rfl) (fun K hc hret => ?_)
  refine x_iload_n (pc := 0) hc dX6_size_0 0 rfl ?_
  refine x_if_ge (pc := 1) hc dX6_size_1 9 (by decide) (fun c1 => ?_) (fun c1 => ?_)
  · refine x_iload_n (pc := 9) hc dX6_size_9 0 rfl ?_
    exact hret _ _ _ _ dX6_size_10 ⟨by simp only [szI, Int32.lt_iff_toInt_lt, Int32.le_iff_toInt_le] at *; (repeat' split) <;> first | rfl | omega, rfl⟩
  · refine x_iload_n (pc := 4) hc dX6_size_4 0 rfl ?_
    refine x_ineg (pc := 5) hc dX6_size_5 ?_
    refine x_goto (pc := 6) hc dX6_size_6 10 (by decide) ?_
    exact hret _ _ _ _ dX6_size_10 ⟨by simp only [szI, Int32.lt_iff_toInt_lt, Int32.le_iff_toInt_le] at *; (repeat' split) <;> first | rfl | omega, rfl⟩
set_option maxHeartbeats 4000000 in
set_option maxRecDepth 100000 in
theorem m_X6_bounded {w : WT} (hI : xI w) (l : Launch) (G : GS) (v : Int32) : Mi w l yX6_bounded cX6_bounded 1 (some .int) ⟨0, 0, 0, 0⟩ [.int v] G (fun r G' => r = bnd v ∧ G' = G) := by
  refine mk_i (L0 := [(0, .int v)]) hI (by decide +kernel) rfl (Nat.le_of_ble_eq_true rfl) (fun _ _ _ => rfl) (fun K hc hret => ?_)
  refine x_iload_n (pc := 0) hc dX6_bounded_0 0 rfl ?_
  refine x_bipush (v := (-40)) (pc := 1) hc dX6_bounded_1 (by decide) ?_
  refine x_icmp_ge (pc := 3) hc dX6_bounded_3 11 (by decide) (fun c3 => ?_) (fun c3 => ?_)
  · refine x_iload_n (pc := 11) hc dX6_bounded_11 0 rfl ?_
    refine x_bipush (v := 40) (pc := 12) hc dX6_bounded_12 (by decide) ?_
    refine x_icmp_le (pc := 14) hc dX6_bounded_14 22 (by decide) (fun c14 => ?_) (fun c14 => ?_)
    · refine x_iload_n (pc := 22) hc dX6_bounded_22 0 rfl ?_
      exact hret _ _ _ _ dX6_bounded_23 ⟨by simp only [bnd, Int32.lt_iff_toInt_lt, Int32.le_iff_toInt_le] at *; (repeat' split) <;> first | rfl | omega, rfl⟩
    · refine x_bipush (v := 40) (pc := 17) hc dX6_bounded_17 (by decide) ?_
      refine x_goto (pc := 19) hc dX6_bounded_19 23 (by decide) ?_
      exact hret _ _ _ _ dX6_bounded_23 ⟨by simp only [bnd, Int32.lt_iff_toInt_lt, Int32.le_iff_toInt_le] at *; (repeat' split) <;> first | rfl | omega, rfl⟩
  · refine x_bipush (v := (-40)) (pc := 6) hc dX6_bounded_6 (by decide) ?_
    refine x_goto (pc := 8) hc dX6_bounded_8 23 (by decide) ?_
    exact hret _ _ _ _ dX6_bounded_23 ⟨by simp only [bnd, Int32.lt_iff_toInt_lt, Int32.le_iff_toInt_le] at *; (repeat' split) <;> first | rfl | omega, rfl⟩
set_option maxHeartbeats 4000000 in
set_option maxRecDepth 100000 in
theorem m_X5_isIndex {w : WT} (hI : xI w) (l : Launch) (G : GS) (v n : Int32) : Mi w l yX5_isIndex cX5_isIndex 2 (some .boolean) ⟨0, 0, 0, 0⟩ [.int v, .int n] G (fun r G' => r = b01 (0 ≤ v ∧ v < n) ∧ G' = G) := by
  refine mk_i (L0 := [(0, .int v), (1, .int n)]) hI (by decide +kernel) rfl (Nat.le_of_ble_eq_true rfl) (fun v G9 h => by rw [h.1]; exact nz_b01 _) (fun K hc hret => ?_)
  refine x_iload_n (pc := 0) hc dX5_isIndex_0 0 rfl ?_
  refine x_if_lt (pc := 1) hc dX5_isIndex_1 13 (by decide) (fun c1 => ?_) (fun c1 => ?_)
  · refine x_iconst (v := 0) (pc := 13) hc dX5_isIndex_13 (by decide) ?_
    exact hret _ _ _ _ dX5_isIndex_14 ⟨by simp only [b01, Int32.lt_iff_toInt_lt, Int32.le_iff_toInt_le] at *; (repeat' split) <;> first | rfl | omega, rfl⟩
  · refine x_iload_n (pc := 4) hc dX5_isIndex_4 0 rfl ?_
    refine x_iload_n (pc := 5) hc dX5_isIndex_5 1 rfl ?_
    refine x_icmp_ge (pc := 6) hc dX5_isIndex_6 13 (by decide) (fun c6 => ?_) (fun c6 => ?_)
    · refine x_iconst (v := 0) (pc := 13) hc dX5_isIndex_13 (by decide) ?_
      exact hret _ _ _ _ dX5_isIndex_14 ⟨by simp only [b01, Int32.lt_iff_toInt_lt, Int32.le_iff_toInt_le] at *; (repeat' split) <;> first | rfl | omega, rfl⟩
    · refine x_iconst (v := 1) (pc := 9) hc dX5_isIndex_9 (by decide) ?_
      refine x_goto (pc := 10) hc dX5_isIndex_10 14 (by decide) ?_
      exact hret _ _ _ _ dX5_isIndex_14 ⟨by simp only [b01, Int32.lt_iff_toInt_lt, Int32.le_iff_toInt_le] at *; (repeat' split) <;> first | rfl | omega, rfl⟩
set_option maxHeartbeats 4000000 in
set_option maxRecDepth 100000 in
theorem m_X5_isWithin {w : WT} (hI : xI w) (l : Launch) (G : GS) (v n : Int32) : Mi w l yX5_isWithin cX5_isWithin 2 (some .boolean) ⟨0, 0, 0, 0⟩ [.int v, .int n] G (fun r G' => r = inB v (-n) n ∧ G' = G) := by
  refine mk_i (L0 := [(0, .int v), (1, .int n)]) hI (by decide +kernel) rfl (Nat.le_of_ble_eq_true rfl) (fun v G9 h => by rw [h.1]; exact nz_b01 _) (fun K hc hret => ?_)
  refine x_iload_n (pc := 0) hc dX5_isWithin_0 0 rfl ?_
  refine x_iload_n (pc := 1) hc dX5_isWithin_1 1 rfl ?_
  refine x_ineg (pc := 2) hc dX5_isWithin_2 ?_
  refine x_icmp_lt (pc := 3) hc dX5_isWithin_3 15 (by decide) (fun c3 => ?_) (fun c3 => ?_)
  · refine x_iconst (v := 0) (pc := 15) hc dX5_isWithin_15 (by decide) ?_
    exact hret _ _ _ _ dX5_isWithin_16 ⟨by simp only [inB, b01, Int32.lt_iff_toInt_lt, Int32.le_iff_toInt_le] at *; (repeat' split) <;> first | rfl | omega, rfl⟩
  · refine x_iload_n (pc := 6) hc dX5_isWithin_6 0 rfl ?_
    refine x_iload_n (pc := 7) hc dX5_isWithin_7 1 rfl ?_
    refine x_icmp_gt (pc := 8) hc dX5_isWithin_8 15 (by decide) (fun c8 => ?_) (fun c8 => ?_)
    · refine x_iconst (v := 0) (pc := 15) hc dX5_isWithin_15 (by decide) ?_
      exact hret _ _ _ _ dX5_isWithin_16 ⟨by simp only [inB, b01, Int32.lt_iff_toInt_lt, Int32.le_iff_toInt_le] at *; (repeat' split) <;> first | rfl | omega, rfl⟩
    · refine x_iconst (v := 1) (pc := 11) hc dX5_isWithin_11 (by decide) ?_
      refine x_goto (pc := 12) hc dX5_isWithin_12 16 (by decide) ?_
      exact hret _ _ _ _ dX5_isWithin_16 ⟨by simp only [inB, b01, Int32.lt_iff_toInt_lt, Int32.le_iff_toInt_le] at *; (repeat' split) <;> first | rfl | omega, rfl⟩
set_option maxHeartbeats 4000000 in
set_option maxRecDepth 100000 in
theorem m_X5_isFrost {w : WT} (hI : xI w) (l : Launch) (G : GS) (v : Int32) : Mi w l yX5_isFrost cX5_isFrost 1 (some .boolean) ⟨0, 0, 0, 0⟩ [.int v] G (fun r G' => r = b01 (v ≤ 0) ∧ G' = G) := by
  refine mk_i (L0 := [(0, .int v)]) hI (by decide +kernel) rfl (Nat.le_of_ble_eq_true rfl) (fun v G9 h => by rw [h.1]; exact nz_b01 _) (fun K hc hret => ?_)
  refine x_iload_n (pc := 0) hc dX5_isFrost_0 0 rfl ?_
  refine x_if_gt (pc := 1) hc dX5_isFrost_1 8 (by decide) (fun c1 => ?_) (fun c1 => ?_)
  · refine x_iconst (v := 0) (pc := 8) hc dX5_isFrost_8 (by decide) ?_
    exact hret _ _ _ _ dX5_isFrost_9 ⟨by simp only [b01, Int32.lt_iff_toInt_lt, Int32.le_iff_toInt_le] at *; (repeat' split) <;> first | rfl | omega, rfl⟩
  · refine x_iconst (v := 1) (pc := 4) hc dX5_isFrost_4 (by decide) ?_
    refine x_goto (pc := 5) hc dX5_isFrost_5 9 (by decide) ?_
    exact hret _ _ _ _ dX5_isFrost_9 ⟨by simp only [b01, Int32.lt_iff_toInt_lt, Int32.le_iff_toInt_le] at *; (repeat' split) <;> first | rfl | omega, rfl⟩
set_option maxHeartbeats 4000000 in
set_option maxRecDepth 100000 in
theorem m_X5_oneIf {w : WT} (hI : xI w) (l : Launch) (G : GS) (v : Int32) (hv : v = 0 ∨ v = 1) : Mi w l yX5_oneIf cX5_oneIf 1 (some .int) ⟨0, 0, 0, 0⟩ [.int v] G (fun r G' => r = v ∧ G' = G) := by
  refine mk_i (L0 := [(0, .int v)]) hI (by decide +kernel) rfl (Nat.le_of_ble_eq_true rfl) (fun _ _ _ => rfl) (fun K hc hret => ?_)
  refine x_iload_n (pc := 0) hc dX5_oneIf_0 0 rfl ?_
  refine x_if_eq (pc := 1) hc dX5_oneIf_1 8 (by decide) (fun c1 => ?_) (fun c1 => ?_)
  · refine x_iconst (v := 0) (pc := 8) hc dX5_oneIf_8 (by decide) ?_
    exact hret _ _ _ _ dX5_oneIf_9 ⟨by rcases hv with rfl | rfl <;> simp_all, rfl⟩
  · refine x_iconst (v := 1) (pc := 4) hc dX5_oneIf_4 (by decide) ?_
    refine x_goto (pc := 5) hc dX5_oneIf_5 9 (by decide) ?_
    exact hret _ _ _ _ dX5_oneIf_9 ⟨by rcases hv with rfl | rfl <;> simp_all, rfl⟩
set_option maxHeartbeats 4000000 in
set_option maxRecDepth 100000 in
theorem m_X5_clampWarmth {w : WT} (hI : xI w) (l : Launch) (G : GS) (v : Int32) : Mi w l yX5_clampWarmth cX5_clampWarmth 1 (some .int) ⟨1, 0, 0, 30⟩ [.int v] G (fun r G' => r = bnd v ∧ G' = G) := by
  refine mk_i (L0 := [(0, .int v)]) hI (by decide +kernel) rfl (Nat.le_of_ble_eq_true rfl) (fun _ _ _ => rfl) (fun K hc hret => ?_)
  refine x_bipush (v := (-40)) (pc := 0) hc dX5_clampWarmth_0 (by decide) ?_
  refine x_bipush (v := 40) (pc := 2) hc dX5_clampWarmth_2 (by decide) ?_
  refine x_iload_n (pc := 4) hc dX5_clampWarmth_4 0 rfl ?_
  refine x_min (pc := 5) hc ml_X5_234 (by decide) (by simp [Value.category]) dX5_clampWarmth_5 ?_
  refine x_max (pc := 8) hc ml_X5_237 (by decide) (by simp [Value.category]) dX5_clampWarmth_8 ?_
  exact hret _ _ _ _ dX5_clampWarmth_11 ⟨clamp_eq v, rfl⟩
set_option maxHeartbeats 4000000 in
set_option maxRecDepth 100000 in
theorem m_X5_mended {w : WT} (hI : xI w) (l : Launch) (G : GS) (b m t : Int32) : Mi w l yX5_mended cX5_mended 3 (some .int) ⟨2, 0, 0, 50⟩ [.int b, .int m, .int t] G (fun r G' => r = bnd (b + m * t / 100) ∧ G' = G) := by
  refine mk_i (L0 := [(0, .int b), (1, .int m), (2, .int t)]) hI (by decide +kernel) rfl (Nat.le_of_ble_eq_true rfl) (fun _ _ _ => rfl) (fun K hc hret => ?_)
  refine x_iload_n (pc := 0) hc dX5_mended_0 0 rfl ?_
  refine x_iload_n (pc := 1) hc dX5_mended_1 1 rfl ?_
  refine x_iload_n (pc := 2) hc dX5_mended_2 2 rfl ?_
  refine x_imul (pc := 3) hc dX5_mended_3 ?_
  refine x_bipush (v := 100) (pc := 4) hc dX5_mended_4 (by decide) ?_
  refine x_idiv (pc := 6) hc dX5_mended_6 (by decide) ?_
  refine x_iadd (pc := 7) hc dX5_mended_7 ?_
  refine x_callSi (pc := 8) hc cl_X5_240 [.int (b + ((m * t) / 100))] (m_X5_clampWarmth hI (kl K) G (b + ((m * t) / 100))) rfl rfl (by simp [Value.category]) rfl rfl ⟨by decide, by decide⟩ dX5_mended_8 (fun r8 Gc8 q8 => ?_)
  obtain ⟨er8, eGc8⟩ := q8
  rw [eGc8]
  subst er8
  exact hret _ _ _ _ dX5_mended_11 ⟨rfl, rfl⟩
