/-- the fresh world's rows -/
def G0 : GS := fun k i => if k = 0 then (if i = 4 then 5 else 0) else if k = 3 then nI i else if 5 ≤ k ∧ k < 239 then gs0 ((k - 5) % 39) i else 0
/-- which cell is the q-th that is made -/
def inv (q : Nat) : Nat := if q < 4 then q else if q = 199 then 4 else if q < 199 then q + 1 else q
def EF (w : WT) : Nat → va_E := fun q => cellSh w.2.1 w.2.2 (inv q) (G0 (inv q))
theorem inv_lo {q : Nat} (h : q < 4) : inv q = q := if_pos h
theorem inv_199 : inv 199 = 4 := rfl
theorem inv_mid {q : Nat} (h1 : 4 ≤ q) (h2 : q < 199) : inv q = q + 1 := by
  unfold inv
  rw [if_neg (by omega), if_neg (by omega), if_pos h2]
theorem inv_hi {q : Nat} (h1 : 200 ≤ q) : inv q = q := by
  unfold inv
  rw [if_neg (by omega), if_neg (by omega), if_neg (by omega)]
theorem G0_st {j c : Nat} (hj : j < 6) (hc : c < 39) : G0 (5 + 39 * j + c) = gs0 c := by
  funext i
  unfold G0
  rw [if_neg (by omega), if_neg (by omega), if_pos (by omega), show (5 + 39 * j + c - 5) % 39 = c by omega]
def fA (x0 x1 x2 x3 x4 : Value) : List Value := [x0, x1, x2, x3, x4, .int 0, .int 0]
/-- the almanac while it is being made -/
def almP (w : WT) (n0 : Nat) (fs : List Value) (nh : Nat) : Nat → va_E := fun q =>
  if q = 0 then .inr (5, fs) else if q = 3 then va_aq (w.2.1 5) 4 (fun j => if j < nh then some (n0 + (4 + 39 * j)) else none) else EF w q
theorem al_0 {w : WT} {n0 : Nat} {fs : List Value} {nh : Nat} : almP w n0 fs nh 0 = .inr (5, fs) := if_pos rfl
theorem al_3 {w : WT} {n0 : Nat} {fs : List Value} {nh : Nat} : almP w n0 fs nh 3 = va_aq (w.2.1 5) 4 (fun j => if j < nh then some (n0 + (4 + 39 * j)) else none) := by
  unfold almP
  rw [if_neg (by omega), if_pos rfl]
theorem al_n {w : WT} {n0 : Nat} {fs : List Value} {nh q : Nat} (h0 : q ≠ 0) (h3 : q ≠ 3) : almP w n0 fs nh q = EF w q := by
  unfold almP
  rw [if_neg h0, if_neg h3]
/-- the places of the cells -/
def aN0 (w : WT) (n0 : Nat) : Prop := ∀ q, q < 240 → w.2.2 (inv q) = n0 + q
theorem had_lo {w : WT} {n0 a : Nat} (hA : aN0 w n0) (h1 : 4 ≤ a) (h2 : a ≤ 160) : ∀ c, c < 39 → w.2.2 (a + 1 + c) = n0 + (a + c) := fun c hc => by
  rw [← hA (a + c) (by omega), inv_mid (by omega) (by omega), show a + c + 1 = a + 1 + c by omega]
theorem had_hi {w : WT} {n0 : Nat} (hA : aN0 w n0) : ∀ c, c < 39 → w.2.2 (200 + c) = n0 + (200 + c) := fun c hc => by
  rw [← hA (200 + c) (by omega), inv_hi (by omega)]
theorem al_st {w : WT} {M b q : Nat} (h1 : M ≤ q) (h2 : q < M + 39) (hb : isB b) (hi : inv q = b + (q - M)) : cellSh w.2.1 w.2.2 (b + (q - M)) (gs0 (q - M)) = EF w q := by
  obtain ⟨j, hj, rfl⟩ := hb
  unfold EF
  rw [hi, G0_st hj (by omega)]
set_option maxHeartbeats 4000000 in
set_option maxRecDepth 100000 in
theorem st_hist {w : WT} {n0 : Nat} {K : KT} {fs : List Value} (hc : CY w n0 K cX5_init 2 yX5_init.cls ⟨3, 238, 3066, 90⟩) (hZ : yZ n0 (ks K)) (hA : aN0 w n0) {ce sl i : Nat} {v v9 : Int32} (hvi : v.toNatClampNeg = i) (hv1 : v + Int32.ofInt 1 = v9) (hi : i < 4) (hin : vp_in v 4) (hlt : ¬ (4 : Int32) ≤ v) (hfs : fs[1]? = some (.ref (n0 + 3))) (hce : ce + 39 ≤ 238) (hsl : sl + 496 ≤ 3066) (kk : YY w n0 K 2 (almP w n0 fs (i + 1)) (4 + 39 * (i + 1)) (ce + 39) (sl + 496) 25 [(1, .int v9), (0, .ref (n0 + 0))] []) : YY w n0 K 2 (almP w n0 fs i) (4 + 39 * i) ce sl 25 [(1, .int v), (0, .ref (n0 + 0))] [] := by
  refine y_iload_n (pc := 25) hc dX5_init_25 0 rfl ?_
  refine y_iconst (v := 4) (pc := 26) hc dX5_init_26 (by decide) ?_
  refine y_icmp_ge (pc := 27) hc dX5_init_27 49 (by decide) (fun z => absurd z hlt) (fun _ => ?_)
  refine y_aload_n (pc := 30) hc dX5_init_30 1 rfl ?_
  refine y_get (pc := 31) (a := 0) hc (by omega) al_0 kcX5 1 (by decide) fl_X5_18 hfs dX5_init_31 ?_
  refine y_iload_n (pc := 34) hc dX5_init_34 0 rfl ?_
  refine y_new (pc := 35) (ci := 3) (T := TX3) (N := 13) (fs := fS .null .null .null .null) hc uw_X3 tyX3 tyX3_ok kl_X5_16 ib_X3 in_X3 rfl (fun j hj => by rcases (show j = 0 ∨ j = 1 ∨ j = 2 ∨ j = 3 ∨ j = 4 ∨ j = 5 ∨ j = 6 ∨ j = 7 ∨ j = 8 ∨ j = 9 ∨ j = 10 ∨ j = 11 ∨ j = 12 by omega) with rfl | rfl | rfl | rfl | rfl | rfl | rfl | rfl | rfl | rfl | rfl | rfl | rfl <;> rfl) (show ce + 1 ≤ 238 by omega) (show sl + 13 ≤ 3066 by omega) dX5_init_35 ?_
  refine y_dupr (pc := 38) hc dX5_init_38 ?_
  refine y_ctorz (pc := 39) hc hZ cl_X5_22 rfl (a := 4 + 39 * i) [] (c_X3_init (kl K) n0 (4 + 39 * i) (4 + 39 * i + 1) _ ⟨i, by omega, by omega⟩ (had_lo hA (by omega) (by omega)) (updE_s _ _ _)) rfl (Nat.le_of_ble_eq_true rfl) rfl rfl ⟨(Nat.le_of_ble_eq_true rfl), (Nat.le_of_ble_eq_true rfl)⟩ (show ce + 1 + 38 ≤ 238 by omega) (show sl + 13 + 483 ≤ 3066 by omega) dX5_init_39 rfl ?_
  refine y_astq (pc := 42) (a := 3) (v := 4 + 39 * i) hc (by omega) (by omega) 5 3 (by unfold stateE; rw [if_pos (by omega), updE_n _ _ (by omega)]; exact al_3) rfl (show stateE w _ (4 + 39 * i) (4 + 39 * i + 1) (4 + 39 * i) = .inr (3, fX3 w.2.2 (4 + 39 * i + 1) (gs0 0)) by unfold stateE; rw [if_neg (by omega), Nat.sub_self]; exact (cfS (w := w) ⟨i, by omega, by omega⟩).2 _) (r := (RX3, TX3, 13)) rfl hin dX5_init_42 ?_
  refine y_iinc (pc := 43) (L' := [(1, .int v9), (0, .ref (n0 + 0))]) hc dX5_init_43 0 rfl v9 hv1 (by decide) rfl ?_
  refine y_goto (pc := 46) hc dX5_init_46 25 (by decide) ?_
  refine y_cast rfl (show 4 + 39 * i + 39 = 4 + 39 * (i + 1) by omega) (show ce + 1 + 38 = ce + 39 by omega) (show sl + 13 + 483 = sl + 496 by omega) (y_castE (fun q hq => ?_) kk)
  by_cases h3 : q = 3
  · subst h3
    rw [updE_s, al_3]
    exact congrArg (fun f => (.inl (w.2.1 5, 4, .inr (.inr (.inr (.inr f)))) : va_E)) (up_next (B := fun j => n0 + (4 + 39 * j)) hvi rfl)
  · rw [updE_n _ _ h3]
    unfold stateE
    by_cases h4 : q < 4 + 39 * i
    · rw [if_pos h4, updE_n _ _ (by omega)]
      by_cases h0 : q = 0
      · subst h0; rw [al_0, al_0]
      · rw [al_n h0 h3, al_n h0 h3]
    · rw [if_neg h4, al_n (by omega) h3]
      exact al_st (by omega) (by omega) ⟨i, by omega, by omega⟩ (by rw [inv_mid (by omega) (by omega)]; omega)
set_option maxHeartbeats 8000000 in
set_option maxRecDepth 100000 in
theorem c_X5_init {w : WT} (l : Launch) (n0 : Nat) (hA : aN0 w n0) (E : Nat → va_E) (hE : E 0 = .inr (5, fA .null .null .null .null .null)) : Mcz w l yX5_init cX5_init 2 ⟨3, 238, 3066, 90⟩ [.ref (n0 + 0)] n0 E 1 (EF w) 239 238 3066 := by
  refine mk_cz (L0 := [(0, .ref (n0 + 0))]) (by decide +kernel) rfl (Nat.le_of_ble_eq_true rfl) (fun K hc hZ hnm hret => ?_)
  have hA2 : w.2.2 2 = n0 + 2 := hA 2 (by omega)
  refine y_aload_n (pc := 0) hc dX5_init_0 0 rfl ?_
  refine y_obj (pc := 1) hc ml_X5_3 (Nat.le_of_ble_eq_true rfl) (Nat.le_of_ble_eq_true rfl) dX5_init_1 ?_
  refine y_aload_n (pc := 4) hc dX5_init_4 0 rfl ?_
  refine y_new (pc := 5) (ci := 0) (T := TX0) (N := 6) (fs := [.null, .int 0, .int 0, .int 0, .int 0, .int 0]) hc uw_X0 tyX0 tyX0_ok kl_X5_9 ib_X0 in_X0 rfl (fun j hj => by rcases (show j = 0 ∨ j = 1 ∨ j = 2 ∨ j = 3 ∨ j = 4 ∨ j = 5 by omega) with rfl | rfl | rfl | rfl | rfl | rfl <;> rfl) (Nat.le_of_ble_eq_true rfl) (Nat.le_of_ble_eq_true rfl) dX5_init_5 ?_
  refine y_dupr (pc := 8) hc dX5_init_8 ?_
  refine y_ctor (pc := 9) hc cl_X5_11 rfl (a := 1) [] (c_X0_init (kl K) n0 1 2 _ (by omega) (updE_s _ _ _)) rfl (Nat.le_of_ble_eq_true rfl) rfl rfl ⟨(Nat.le_of_ble_eq_true rfl), (Nat.le_of_ble_eq_true rfl)⟩ (Nat.le_of_ble_eq_true rfl) (Nat.le_of_ble_eq_true rfl) dX5_init_9 rfl ?_
  refine y_putF (pc := 12) (a := 0) hc (by omega) (by unfold textE; rw [if_neg (by omega), if_neg (by omega), updE_n _ _ (by omega)]; exact hE) kcX5 0 (by decide) fl_X5_12 rfl hnm rfl rfl rfl (Nat.le_of_ble_eq_true rfl) dX5_init_12 ?_
  refine y_aload_n (pc := 15) hc dX5_init_15 0 rfl ?_
  refine y_iconst (v := 4) (pc := 16) hc dX5_init_16 (by decide) ?_
  refine y_newq (pc := 17) hc kl_X5_16 hZ.2.2.2.1 5 (cA := w.2.1 5) rfl (N' := 4) (by decide) (by decide) (Nat.le_of_ble_eq_true rfl) (Nat.le_of_ble_eq_true rfl) (Nat.le_of_ble_eq_true rfl) dX5_init_17 ?_
  refine y_putF (pc := 20) (a := 0) hc (by omega) (by rw [updE_n _ _ (by omega)]; exact updE_s _ _ _) kcX5 1 (by decide) fl_X5_18 rfl hnm rfl rfl rfl (Nat.le_of_ble_eq_true rfl) dX5_init_20 ?_
  refine y_iconst (v := 0) (pc := 23) hc dX5_init_23 (by decide) ?_
  refine y_istore_n (pc := 24) (L' := [(1, .int 0), (0, .ref (n0 + 0))]) hc dX5_init_24 (by decide) rfl ?_
  refine y_cast rfl (show 2 + 1 + 1 = 4 + 39 * 0 from rfl) rfl rfl (y_castE (E2 := almP w n0 (fA (.ref (n0 + 1)) (.ref (n0 + 3)) .null .null .null) 0) (fun q hq => ?_) ?_)
  · rcases (show q = 0 ∨ q = 1 ∨ q = 2 ∨ q = 3 by omega) with h | h | h | h
    · subst h
      rw [updE_s, al_0]; rfl
    · subst h
      rw [updE_n _ _ (by omega), updE_n _ _ (by omega), updE_n _ _ (by omega), al_n (by omega) (by omega)]
      show (.inr (0, [.ref (n0 + 2), .int 0, .int 0, .int 0, .int 0, .int 0]) : va_E) = .inr (0, [.ref (w.2.2 2), .int 0, .int 0, .int 0, .int 0, .int 0])
      rw [hA2]
    · subst h
      rw [updE_n _ _ (by omega), updE_n _ _ (by omega), updE_n _ _ (by omega), al_n (by omega) (by omega)]
      rfl
    · subst h
      rw [updE_n _ _ (by omega), al_3]
      refine (updE_s _ _ _).trans (congrArg (fun f => (.inl (w.2.1 5, 4, .inr (.inr (.inr (.inr f)))) : va_E)) ?_)
      funext j
      rw [if_neg (by omega)]
  refine st_hist (i := 0) (v9 := 1) hc hZ hA (by decide) (by decide) (by decide) (by unfold vp_in; decide) (by decide) rfl (by decide) (by decide) ?_
  refine st_hist (i := 1) (v9 := 2) hc hZ hA (by decide) (by decide) (by decide) (by unfold vp_in; decide) (by decide) rfl (by decide) (by decide) ?_
  refine st_hist (i := 2) (v9 := 3) hc hZ hA (by decide) (by decide) (by decide) (by unfold vp_in; decide) (by decide) rfl (by decide) (by decide) ?_
  refine st_hist (i := 3) (v9 := 4) hc hZ hA (by decide) (by decide) (by decide) (by unfold vp_in; decide) (by decide) rfl (by decide) (by decide) ?_
  refine y_iload_n (pc := 25) hc dX5_init_25 0 rfl ?_
  refine y_iconst (v := 4) (pc := 26) hc dX5_init_26 (by decide) ?_
  refine y_icmp_ge (pc := 27) hc dX5_init_27 49 (by decide) (fun _ => ?_) (fun z => absurd (by decide) z)
  refine y_cast rfl (show 4 + 39 * (3 + 1) = 160 from rfl) rfl rfl ?_
  refine y_aload_n (pc := 49) hc dX5_init_49 1 rfl ?_
  refine y_new (pc := 50) (ci := 3) (T := TX3) (N := 13) (fs := fS .null .null .null .null) hc uw_X3 tyX3 tyX3_ok kl_X5_16 ib_X3 in_X3 rfl (fun j hj => by rcases (show j = 0 ∨ j = 1 ∨ j = 2 ∨ j = 3 ∨ j = 4 ∨ j = 5 ∨ j = 6 ∨ j = 7 ∨ j = 8 ∨ j = 9 ∨ j = 10 ∨ j = 11 ∨ j = 12 by omega) with rfl | rfl | rfl | rfl | rfl | rfl | rfl | rfl | rfl | rfl | rfl | rfl | rfl <;> rfl) (Nat.le_of_ble_eq_true rfl) (Nat.le_of_ble_eq_true rfl) dX5_init_50 ?_
  refine y_dupr (pc := 53) hc dX5_init_53 ?_
  refine y_ctorz (pc := 54) hc hZ cl_X5_22 rfl (a := 160) [] (c_X3_init (kl K) n0 160 161 _ ⟨4, by omega, by omega⟩ (had_lo hA (by omega) (by omega)) (updE_s _ _ _)) rfl (Nat.le_of_ble_eq_true rfl) rfl rfl ⟨(Nat.le_of_ble_eq_true rfl), (Nat.le_of_ble_eq_true rfl)⟩ (Nat.le_of_ble_eq_true rfl) (Nat.le_of_ble_eq_true rfl) dX5_init_54 rfl ?_
  refine y_putF (pc := 57) (a := 0) hc (by omega) (by unfold stateE; rw [if_pos (by omega), updE_n _ _ (by omega)]; exact al_0) kcX5 2 (by decide) fl_X5_23 rfl hnm rfl rfl rfl (Nat.le_of_ble_eq_true rfl) dX5_init_57 ?_
  refine y_castE (E2 := almP w n0 (fA (.ref (n0 + 1)) (.ref (n0 + 3)) (.ref (n0 + 160)) .null .null) 4) (fun q hq => ?_) ?_
  · by_cases h0 : q = 0
    · subst h0; rw [updE_s, al_0]; rfl
    · rw [updE_n _ _ h0]
      unfold stateE
      by_cases h4 : q < 160
      · rw [if_pos h4, updE_n _ _ (by omega)]
        by_cases h3 : q = 3
        · subst h3; rw [al_3, al_3]
        · rw [al_n h0 h3, al_n h0 h3]
      · rw [if_neg h4, al_n h0 (by omega)]
        exact al_st (by omega) (by omega) ⟨4, by omega, by omega⟩ (by rw [inv_mid (by omega) (by omega)]; omega)
  refine y_aload_n (pc := 60) hc dX5_init_60 1 rfl ?_
  refine y_bipush (v := 20) (pc := 61) hc dX5_init_61 (by decide) ?_
  refine y_newa (atype := .int) (pc := 63) hc ar_int rfl 0 (cA := w.2.1 0) rfl (N' := 20) (a0 := (20, .inl (fun _ => 0))) (fun cA => rfl) (by decide) (by decide) (Nat.le_of_ble_eq_true rfl) (Nat.le_of_ble_eq_true rfl) (Nat.le_of_ble_eq_true rfl) dX5_init_63 ?_
  refine y_putF (pc := 65) (a := 0) hc (by omega) (by rw [updE_n _ _ (by omega)]; exact al_0) kcX5 3 (by decide) fl_X5_27 rfl hnm rfl rfl rfl (Nat.le_of_ble_eq_true rfl) dX5_init_65 ?_
  refine y_cast rfl (show 160 + 39 + 1 = 200 from rfl) rfl rfl (y_castE (E2 := almP w n0 (fA (.ref (n0 + 1)) (.ref (n0 + 3)) (.ref (n0 + 160)) (.ref (n0 + 199)) .null) 4) (fun q hq => ?_) ?_)
  · by_cases h0 : q = 0
    · subst h0; rw [updE_s, al_0]; rfl
    · rw [updE_n _ _ h0]
      by_cases h4 : q = 199
      · subst h4
        rw [al_n (by omega) (by omega)]
        exact updE_s _ _ _
      · rw [updE_n _ _ (by omega)]
        by_cases h3 : q = 3
        · subst h3; rw [al_3, al_3]
        · rw [al_n h0 h3, al_n h0 h3]
  refine y_aload_n (pc := 68) hc dX5_init_68 1 rfl ?_
  refine y_new (pc := 69) (ci := 3) (T := TX3) (N := 13) (fs := fS .null .null .null .null) hc uw_X3 tyX3 tyX3_ok kl_X5_16 ib_X3 in_X3 rfl (fun j hj => by rcases (show j = 0 ∨ j = 1 ∨ j = 2 ∨ j = 3 ∨ j = 4 ∨ j = 5 ∨ j = 6 ∨ j = 7 ∨ j = 8 ∨ j = 9 ∨ j = 10 ∨ j = 11 ∨ j = 12 by omega) with rfl | rfl | rfl | rfl | rfl | rfl | rfl | rfl | rfl | rfl | rfl | rfl | rfl <;> rfl) (Nat.le_of_ble_eq_true rfl) (Nat.le_of_ble_eq_true rfl) dX5_init_69 ?_
  refine y_dupr (pc := 72) hc dX5_init_72 ?_
  refine y_ctorz (pc := 73) hc hZ cl_X5_22 rfl (a := 200) [] (c_X3_init (kl K) n0 200 200 _ ⟨5, by omega, by omega⟩ (had_hi hA) (updE_s _ _ _)) rfl (Nat.le_of_ble_eq_true rfl) rfl rfl ⟨(Nat.le_of_ble_eq_true rfl), (Nat.le_of_ble_eq_true rfl)⟩ (Nat.le_of_ble_eq_true rfl) (Nat.le_of_ble_eq_true rfl) dX5_init_73 rfl ?_
  refine y_put (pc := 76) (a := 0) hc (by omega) (by unfold stateE; rw [if_pos (by omega), updE_n _ _ (by omega)]; exact al_0) kcX5 4 (by decide) fl_X5_31 rfl rfl rfl (Nat.le_of_ble_eq_true rfl) dX5_init_76 ?_
  refine y_castE (E2 := almP w n0 (fA (.ref (n0 + 1)) (.ref (n0 + 3)) (.ref (n0 + 160)) (.ref (n0 + 199)) (.ref (n0 + 200))) 4) (fun q hq => ?_) ?_
  · by_cases h0 : q = 0
    · subst h0; rw [updE_s, al_0]; rfl
    · rw [updE_n _ _ h0]
      unfold stateE
      by_cases h4 : q < 200
      · rw [if_pos h4, updE_n _ _ (by omega)]
        by_cases h3 : q = 3
        · subst h3; rw [al_3, al_3]
        · rw [al_n h0 h3, al_n h0 h3]
      · rw [if_neg h4, al_n h0 (by omega)]
        exact al_st (by omega) (by omega) ⟨5, by omega, by omega⟩ (by rw [inv_hi (by omega)]; omega)
  refine y_aload_n (pc := 79) hc dX5_init_79 1 rfl ?_
  refine y_iconst (v := 0) (pc := 80) hc dX5_init_80 (by decide) ?_
  refine y_put (pc := 81) (a := 0) hc (by omega) al_0 kcX5 5 (by decide) fl_X5_34 rfl rfl rfl (Nat.le_of_ble_eq_true rfl) dX5_init_81 ?_
  refine y_aload_n (pc := 84) hc dX5_init_84 1 rfl ?_
  refine y_iconst (v := 0) (pc := 85) hc dX5_init_85 (by decide) ?_
  refine y_put (pc := 86) (a := 0) hc (by omega) (updE_s _ _ _) kcX5 6 (by decide) fl_X5_38 rfl rfl rfl (Nat.le_of_ble_eq_true rfl) dX5_init_86 ?_
  refine y_castQ (fun q hq => ?_) (hret _ _ dX5_init_89)
  by_cases h0 : q = 0
  · subst h0
    rw [updE_s]
    refine Or.inl ?_
    have e1 : w.2.2 1 = n0 + 1 := hA 1 (by omega)
    have e3 : w.2.2 3 = n0 + 3 := hA 3 (by omega)
    have e4 : w.2.2 4 = n0 + 199 := hA 199 (by omega)
    have e161 : w.2.2 161 = n0 + 160 := hA 160 (by omega)
    have e200 : w.2.2 200 = n0 + 200 := hA 200 (by omega)
    have es : stb (G0 0 4) = 200 := by decide
    show _ = (.inr (5, [.ref (w.2.2 1), .ref (w.2.2 3), .ref (w.2.2 161), .ref (w.2.2 4), .ref (w.2.2 (stb (G0 0 4))), .int 0, .int 0]) : va_E)
    rw [es, e1, e3, e4, e161, e200]
    rfl
  · rw [updE_n _ _ h0, updE_n _ _ h0]
    by_cases h3 : q = 3
    · subst h3
      rw [al_3]
      refine Or.inr ⟨_, _, _, _, rfl, rfl, fun j hj => ?_⟩
      rw [if_pos hj]
      have es : stb (G0 3 j) = 4 + 39 * j + 1 := by
        show 5 + 39 * (nI j).toNatClampNeg = _
        rw [nI_clamp (by omega)]; omega
      show _ = some (w.2.2 (stb (G0 3 j)))
      rw [es, ← inv_mid (q := 4 + 39 * j) (by omega) (by omega), hA _ (by omega)]
    · rw [al_n h0 h3]
      exact Or.inl rfl
