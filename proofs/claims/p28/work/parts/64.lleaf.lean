/-! THE LAW'S LEAVES -/
def lowI (v n : Int32) : Int32 := (v &&& 2147483647) - (v &&& 2147483647) / n * n
theorem and_pos (v : Int32) : ¬ (v &&& 2147483647) < 0 := by
  have e : (v &&& 2147483647).toBitVec.toNat = v.toBitVec.toNat % 2 ^ 31 := by
    rw [Int32.toBitVec_and, BitVec.toNat_and]
    exact Nat.and_two_pow_sub_one_eq_mod _ 31
  rw [Int32.lt_iff_toInt_lt]
  have e2 : (v &&& 2147483647).toInt = (v &&& 2147483647).toBitVec.toInt := rfl
  rw [e2, BitVec.toInt_eq_toNat_cond, e]
  have h0 : (0 : Int32).toInt = 0 := rfl
  rw [h0]
  split <;> omega
theorem low_nI (v : Int32) {m : Nat} (h0 : 0 < m) (hm : m < 2 ^ 31) : ∃ j, j < m ∧ lowI v (nI m) = nI j := by
  obtain ⟨x, hx, e⟩ := nI_of (and_pos v)
  unfold lowI
  rw [e]
  exact ⟨x % m, Nat.mod_lt _ h0, pk_rem hx h0 hm⟩
set_option maxHeartbeats 4000000 in
set_option maxRecDepth 100000 in
theorem l_size {w : WT} (hI : xI w) (l : Launch) (A : AT) (D : Nat → Int32) (v : Int32) : LMi w l yL_size cL_size 1 (some .int) ⟨0, 0, 0, 0⟩ [.int v] A D (fun r A' D' => r = szI v ∧ A' = A ∧ D' = D) := by
  refine mk_l (L0 := [(0, .int v)]) hI (by decide +kernel) rfl (Nat.le_of_ble_eq_true rfl) (fun _ _ _ _ => rfl) (fun K hc hret => ?_)
  refine l_iload_n (pc := 0) hc dL_size_0 0 rfl ?_
  refine l_if_ge (pc := 1) hc dL_size_1 9 (by decide) (fun c1 => ?_) (fun c1 => ?_)
  · refine l_iload_n (pc := 9) hc dL_size_9 0 rfl ?_
    exact hret _ _ _ _ _ dL_size_10 ⟨by simp only [szI, Int32.lt_iff_toInt_lt, Int32.le_iff_toInt_le] at *; (repeat' split) <;> first | rfl | omega, rfl, rfl⟩
  · refine l_iload_n (pc := 4) hc dL_size_4 0 rfl ?_
    refine l_ineg (pc := 5) hc dL_size_5 ?_
    refine l_goto (pc := 6) hc dL_size_6 10 (by decide) ?_
    exact hret _ _ _ _ _ dL_size_10 ⟨by simp only [szI, Int32.lt_iff_toInt_lt, Int32.le_iff_toInt_le] at *; (repeat' split) <;> first | rfl | omega, rfl, rfl⟩
set_option maxHeartbeats 4000000 in
set_option maxRecDepth 100000 in
theorem l_bounded {w : WT} (hI : xI w) (l : Launch) (A : AT) (D : Nat → Int32) (v : Int32) : LMi w l yL_bounded cL_bounded 1 (some .int) ⟨0, 0, 0, 0⟩ [.int v] A D (fun r A' D' => r = bnd v ∧ A' = A ∧ D' = D) := by
  refine mk_l (L0 := [(0, .int v)]) hI (by decide +kernel) rfl (Nat.le_of_ble_eq_true rfl) (fun _ _ _ _ => rfl) (fun K hc hret => ?_)
  refine l_iload_n (pc := 0) hc dL_bounded_0 0 rfl ?_
  refine l_bipush (v := (-40)) (pc := 1) hc dL_bounded_1 (by decide) ?_
  refine l_icmp_ge (pc := 3) hc dL_bounded_3 11 (by decide) (fun c3 => ?_) (fun c3 => ?_)
  · refine l_iload_n (pc := 11) hc dL_bounded_11 0 rfl ?_
    refine l_bipush (v := 40) (pc := 12) hc dL_bounded_12 (by decide) ?_
    refine l_icmp_le (pc := 14) hc dL_bounded_14 22 (by decide) (fun c14 => ?_) (fun c14 => ?_)
    · refine l_iload_n (pc := 22) hc dL_bounded_22 0 rfl ?_
      exact hret _ _ _ _ _ dL_bounded_23 ⟨by simp only [bnd, Int32.lt_iff_toInt_lt, Int32.le_iff_toInt_le] at *; (repeat' split) <;> first | rfl | omega, rfl, rfl⟩
    · refine l_bipush (v := 40) (pc := 17) hc dL_bounded_17 (by decide) ?_
      refine l_goto (pc := 19) hc dL_bounded_19 23 (by decide) ?_
      exact hret _ _ _ _ _ dL_bounded_23 ⟨by simp only [bnd, Int32.lt_iff_toInt_lt, Int32.le_iff_toInt_le] at *; (repeat' split) <;> first | rfl | omega, rfl, rfl⟩
  · refine l_bipush (v := (-40)) (pc := 6) hc dL_bounded_6 (by decide) ?_
    refine l_goto (pc := 8) hc dL_bounded_8 23 (by decide) ?_
    exact hret _ _ _ _ _ dL_bounded_23 ⟨by simp only [bnd, Int32.lt_iff_toInt_lt, Int32.le_iff_toInt_le] at *; (repeat' split) <;> first | rfl | omega, rfl, rfl⟩
set_option maxHeartbeats 4000000 in
set_option maxRecDepth 100000 in
theorem l_low {w : WT} (hI : xI w) (l : Launch) (A : AT) (D : Nat → Int32) (v n : Int32) (hn : ¬ n = 0) : LMi w l yL_low cL_low 2 (some .int) ⟨0, 0, 0, 0⟩ [.int v, .int n] A D (fun r A' D' => r = lowI v n ∧ A' = A ∧ D' = D) := by
  refine mk_l (L0 := [(0, .int v), (1, .int n)]) hI (by decide +kernel) rfl (Nat.le_of_ble_eq_true rfl) (fun _ _ _ _ => rfl) (fun K hc hret => ?_)
  refine l_iload_n (pc := 0) hc dL_low_0 0 rfl ?_
  refine l_ldc (pc := 1) hc dL_low_1 kc_L_7 ?_
  refine l_iand (pc := 3) hc dL_low_3 ?_
  refine l_iload_n (pc := 4) hc dL_low_4 1 rfl ?_
  refine l_irem (pc := 5) hc dL_low_5 hn (lowI v n) rfl ?_
  exact hret _ _ _ _ _ dL_low_6 ⟨rfl, rfl, rfl⟩
