theorem y_cast {w : WT} {n0 : Nat} {K : KT} {nL : Nat} {E E2 : Nat → va_E} {m m2 ce ce2 sl sl2 pc : Nat} {L : List (Nat × Value)} {st : List Value} (e : E = E2) (em : m = m2) (e1 : ce = ce2) (e2 : sl = sl2) (kk : YY w n0 K nL E2 m2 ce2 sl2 pc L st) : YY w n0 K nL E m ce sl pc L st := by
  subst e em e1 e2
  exact kk
theorem c_X1_init {w : WT} (l : Launch) (n0 a m : Nat) (E : Nat → va_E) : Mc w l yX1_init cX1_init 1 ⟨1, 0, 0, 30⟩ [.ref (n0 + a)] n0 E m E m 0 0 := by
  refine mk_c (L0 := [(0, .ref (n0 + a))]) (by decide +kernel) rfl (Nat.le_of_ble_eq_true rfl) (fun K hc hnm hret => ?_)
  refine y_aload_n (pc := 0) hc dX1_init_0 0 rfl ?_
  refine y_obj (pc := 1) hc ml_X1_1 (Nat.le_of_ble_eq_true rfl) (Nat.le_of_ble_eq_true rfl) dX1_init_1 ?_
  exact hret _ _ dX1_init_4
theorem c_X2_init {w : WT} (l : Launch) (n0 a m : Nat) (E : Nat → va_E) : Mc w l yX2_init cX2_init 1 ⟨1, 0, 0, 30⟩ [.ref (n0 + a)] n0 E m E m 0 0 := by
  refine mk_c (L0 := [(0, .ref (n0 + a))]) (by decide +kernel) rfl (Nat.le_of_ble_eq_true rfl) (fun K hc hnm hret => ?_)
  refine y_aload_n (pc := 0) hc dX2_init_0 0 rfl ?_
  refine y_obj (pc := 1) hc ml_X2_1 (Nat.le_of_ble_eq_true rfl) (Nat.le_of_ble_eq_true rfl) dX2_init_1 ?_
  exact hret _ _ dX2_init_4
/-- a new year: its object at a, its arrays from m on -/
def yearE (w : WT) (n0 : Nat) (E : Nat → va_E) (a m : Nat) : Nat → va_E := fun q => if q = a then .inr (4, [.ref (n0 + m), .ref (n0 + (m + 1)), .ref (n0 + (m + 2)), .ref (n0 + (m + 3)), .int 0]) else if m ≤ q ∧ q < m + 4 then .inl (w.2.1 0, 20, .inl (fun _ => 0)) else E q
theorem updE_s (E : Nat → va_E) (a : Nat) (x : va_E) : updE E a x a = x := if_pos rfl
theorem updE_n (E : Nat → va_E) {a q : Nat} (x : va_E) (h : q ≠ a) : updE E a x q = E q := if_neg h
set_option maxHeartbeats 4000000 in
set_option maxRecDepth 100000 in
theorem c_X4_init {w : WT} (l : Launch) (n0 a m : Nat) (E : Nat → va_E) (ha : a < m) (hE : E a = .inr (4, [.null, .null, .null, .null, .int 0])) : Mc w l yX4_init cX4_init 1 ⟨1, 4, 80, 30⟩ [.ref (n0 + a)] n0 E m (yearE w n0 E a m) (m + 4) 4 80 := by
  refine mk_c (L0 := [(0, .ref (n0 + a))]) (by decide +kernel) rfl (Nat.le_of_ble_eq_true rfl) (fun K hc hnm hret => ?_)
  refine y_aload_n (pc := 0) hc dX4_init_0 0 rfl ?_
  refine y_obj (pc := 1) hc ml_X4_3 (Nat.le_of_ble_eq_true rfl) (Nat.le_of_ble_eq_true rfl) dX4_init_1 ?_
  refine y_aload_n (pc := 4) hc dX4_init_4 0 rfl ?_
  refine y_bipush (v := 20) (pc := 5) hc dX4_init_5 (by decide) ?_
  refine y_newa (atype := .int) (pc := 7) hc ar_int rfl 0 (cA := w.2.1 0) rfl (N' := 20) (a0 := (20, .inl (fun _ => 0))) (fun cA => rfl) (by decide) (by decide) (Nat.le_of_ble_eq_true rfl) (Nat.le_of_ble_eq_true rfl) (Nat.le_of_ble_eq_true rfl) dX4_init_7 ?_
  refine y_putF (pc := 9) (a := a) hc (by omega) (by rw [updE_n _ _ (by omega)]; exact hE) kcX4 0 (by decide) fl_X4_9 rfl hnm rfl rfl rfl (Nat.le_of_ble_eq_true rfl) dX4_init_9 ?_
  refine y_aload_n (pc := 12) hc dX4_init_12 0 rfl ?_
  refine y_bipush (v := 20) (pc := 13) hc dX4_init_13 (by decide) ?_
  refine y_newa (atype := .int) (pc := 15) hc ar_int rfl 0 (cA := w.2.1 0) rfl (N' := 20) (a0 := (20, .inl (fun _ => 0))) (fun cA => rfl) (by decide) (by decide) (Nat.le_of_ble_eq_true rfl) (Nat.le_of_ble_eq_true rfl) (Nat.le_of_ble_eq_true rfl) dX4_init_15 ?_
  refine y_putF (pc := 17) (a := a) hc (by omega) (by rw [updE_n _ _ (by omega)]; exact updE_s _ _ _) kcX4 1 (by decide) fl_X4_15 rfl hnm rfl rfl rfl (Nat.le_of_ble_eq_true rfl) dX4_init_17 ?_
  refine y_aload_n (pc := 20) hc dX4_init_20 0 rfl ?_
  refine y_bipush (v := 20) (pc := 21) hc dX4_init_21 (by decide) ?_
  refine y_newa (atype := .int) (pc := 23) hc ar_int rfl 0 (cA := w.2.1 0) rfl (N' := 20) (a0 := (20, .inl (fun _ => 0))) (fun cA => rfl) (by decide) (by decide) (Nat.le_of_ble_eq_true rfl) (Nat.le_of_ble_eq_true rfl) (Nat.le_of_ble_eq_true rfl) dX4_init_23 ?_
  refine y_putF (pc := 25) (a := a) hc (by omega) (by rw [updE_n _ _ (by omega)]; exact updE_s _ _ _) kcX4 2 (by decide) fl_X4_18 rfl hnm rfl rfl rfl (Nat.le_of_ble_eq_true rfl) dX4_init_25 ?_
  refine y_aload_n (pc := 28) hc dX4_init_28 0 rfl ?_
  refine y_bipush (v := 20) (pc := 29) hc dX4_init_29 (by decide) ?_
  refine y_newa (atype := .int) (pc := 31) hc ar_int rfl 0 (cA := w.2.1 0) rfl (N' := 20) (a0 := (20, .inl (fun _ => 0))) (fun cA => rfl) (by decide) (by decide) (Nat.le_of_ble_eq_true rfl) (Nat.le_of_ble_eq_true rfl) (Nat.le_of_ble_eq_true rfl) dX4_init_31 ?_
  refine y_putF (pc := 33) (a := a) hc (by omega) (by rw [updE_n _ _ (by omega)]; exact updE_s _ _ _) kcX4 3 (by decide) fl_X4_21 rfl hnm rfl rfl rfl (Nat.le_of_ble_eq_true rfl) dX4_init_33 ?_
  refine y_aload_n (pc := 36) hc dX4_init_36 0 rfl ?_
  refine y_iconst (v := 0) (pc := 37) hc dX4_init_37 (by decide) ?_
  refine y_put (pc := 38) (a := a) hc (by omega) (by exact updE_s _ _ _) kcX4 4 (by decide) fl_X4_24 rfl rfl rfl (Nat.le_of_ble_eq_true rfl) dX4_init_38 ?_
  refine y_cast ?_ rfl rfl rfl (hret _ _ dX4_init_41)
  funext q
  unfold updE yearE
  by_cases h : q = a
  · rw [if_pos h, if_pos h]; rfl
  · rw [if_neg h, if_neg h, if_neg h, if_neg h, if_neg h, if_neg h]
    by_cases h3 : q = m + 3
    · subst h3; rw [if_pos (by omega), if_pos (by omega)]
    · rw [if_neg (by omega)]
      by_cases h2 : q = m + 2
      · subst h2; rw [if_pos (by omega), if_pos (by omega)]
      · rw [if_neg (by omega)]
        by_cases h1 : q = m + 1
        · subst h1; rw [if_pos (by omega), if_pos (by omega)]
        · rw [if_neg (by omega)]
          by_cases h0 : q = m
          · subst h0; rw [if_pos rfl, if_pos (by omega)]
          · rw [if_neg h0, if_neg (by omega)]
/-- a new text -/
def textE (w : WT) (n0 : Nat) (E : Nat → va_E) (a m : Nat) : Nat → va_E := fun q => if q = a then .inr (0, [.ref (n0 + m), .int 0, .int 0, .int 0, .int 0, .int 0]) else if q = m then .inl (w.2.1 1, 60, .inl (fun _ => 0)) else E q
set_option maxHeartbeats 4000000 in
set_option maxRecDepth 100000 in
theorem c_X0_init {w : WT} (l : Launch) (n0 a m : Nat) (E : Nat → va_E) (ha : a < m) (hE : E a = .inr (0, [.null, .int 0, .int 0, .int 0, .int 0, .int 0])) : Mc w l yX0_init cX0_init 1 ⟨1, 1, 60, 30⟩ [.ref (n0 + a)] n0 E m (textE w n0 E a m) (m + 1) 1 60 := by
  refine mk_c (L0 := [(0, .ref (n0 + a))]) (by decide +kernel) rfl (Nat.le_of_ble_eq_true rfl) (fun K hc hnm hret => ?_)
  refine y_aload_n (pc := 0) hc dX0_init_0 0 rfl ?_
  refine y_obj (pc := 1) hc ml_X0_3 (Nat.le_of_ble_eq_true rfl) (Nat.le_of_ble_eq_true rfl) dX0_init_1 ?_
  refine y_aload_n (pc := 4) hc dX0_init_4 0 rfl ?_
  refine y_bipush (v := 60) (pc := 5) hc dX0_init_5 (by decide) ?_
  refine y_newa (atype := .char) (pc := 7) hc ar_char rfl 1 (cA := w.2.1 1) rfl (N' := 60) (a0 := (60, .inl (fun _ => 0))) (fun cA => rfl) (by decide) (by decide) (Nat.le_of_ble_eq_true rfl) (Nat.le_of_ble_eq_true rfl) (Nat.le_of_ble_eq_true rfl) dX0_init_7 ?_
  refine y_putF (pc := 9) (a := a) hc (by omega) (by rw [updE_n _ _ (by omega)]; exact hE) kcX0 0 (by decide) fl_X0_9 rfl hnm rfl rfl rfl (Nat.le_of_ble_eq_true rfl) dX0_init_9 ?_
  refine y_aload_n (pc := 12) hc dX0_init_12 0 rfl ?_
  refine y_iconst (v := 0) (pc := 13) hc dX0_init_13 (by decide) ?_
  refine y_put (pc := 14) (a := a) hc (by omega) (by exact updE_s _ _ _) kcX0 1 (by decide) fl_X0_15 rfl rfl rfl (Nat.le_of_ble_eq_true rfl) dX0_init_14 ?_
  refine y_aload_n (pc := 17) hc dX0_init_17 0 rfl ?_
  refine y_iconst (v := 0) (pc := 18) hc dX0_init_18 (by decide) ?_
  refine y_put (pc := 19) (a := a) hc (by omega) (by exact updE_s _ _ _) kcX0 2 (by decide) fl_X0_19 rfl rfl rfl (Nat.le_of_ble_eq_true rfl) dX0_init_19 ?_
  refine y_cast ?_ rfl rfl rfl (hret _ _ dX0_init_22)
  funext q
  unfold updE textE
  by_cases h : q = a
  · rw [if_pos h, if_pos h]; rfl
  · rw [if_neg h, if_neg h, if_neg h, if_neg h]
