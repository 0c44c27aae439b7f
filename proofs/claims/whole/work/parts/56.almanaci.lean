/-- the fresh world's rows -/
def G0 : GS := fun k i => if k = 0 then (if i = 4 then 5 else 0) else if k = 3 then nI i else if 5 ≤ k ∧ k < 239 then gs0 ((k - 5) % 39) i else if k = 240 then f0 i else 0
/-- which cell is the q-th that is made -/
def inv (q : Nat) : Nat := if q < 4 then q else if q = 199 then 4 else if q < 199 then q + 1 else q
def EF (w : WT) : Nat → va_E := fun q => cellSh w.2.1 w.2.2 (inv q) (G0 (inv q))
theorem inv_lo {q : Nat} (h : q < 4) : inv q = q := if_pos h
theorem inv_199 : inv 199 = 4 := rfl
theorem inv_mid {q : Nat} (h1 : 4 ≤ q) (h2 : q < 199) : inv q = q + 1 := by
  unfold inv
  rw [if_neg (by omega), if_neg (by omega), if_pos h2]
theorem inv_hi {q : Nat} (h1 : 200 ≤ q) : inv q = q := by
  unfold inv
  rw [if_neg (by omega), if_neg (by omega), if_neg (by omega)]
theorem G0_st {j c : Nat} (hj : j < 6) (hc : c < 39) : G0 (5 + 39 * j + c) = gs0 c := by
  funext i
  unfold G0
  rw [if_neg (by omega), if_neg (by omega), if_pos (by omega), show (5 + 39 * j + c - 5) % 39 = c by omega]
def fA (x0 x1 x2 x3 x4 : Value) : List Value := [x0, x1, x2, x3, x4, .int 0, .int 0]
/-- the almanac while it is being made -/
def almP (w : WT) (n0 : Nat) (fs : List Value) (nh : Nat) : Nat → va_E := fun q =>
  if q = 0 then .inr (5, fs) else if q = 3 then va_aq (w.2.1 5) 4 (fun j => if j < nh then some (n0 + (4 + 39 * j)) else none) else EF w q
theorem al_0 {w : WT} {n0 : Nat} {fs : List Value} {nh : Nat} : almP w n0 fs nh 0 = .inr (5, fs) := if_pos rfl
theorem al_3 {w : WT} {n0 : Nat} {fs : List Value} {nh : Nat} : almP w n0 fs nh 3 = va_aq (w.2.1 5) 4 (fun j => if j < nh then some (n0 + (4 + 39 * j)) else none) := by
  unfold almP
  rw [if_neg (by omega), if_pos rfl]
theorem al_n {w : WT} {n0 : Nat} {fs : List Value} {nh q : Nat} (h0 : q ≠ 0) (h3 : q ≠ 3) : almP w n0 fs nh q = EF w q := by
  unfold almP
  rw [if_neg h0, if_neg h3]
/-- the places of the cells -/
def aN0 (w : WT) (n0 : Nat) : Prop := ∀ q, q < 245 → w.2.2 (inv q) = n0 + q
theorem had_lo {w : WT} {n0 a : Nat} (hA : aN0 w n0) (h1 : 4 ≤ a) (h2 : a ≤ 160) : ∀ c, c < 39 → w.2.2 (a + 1 + c) = n0 + (a + c) := fun c hc => by
  rw [← hA (a + c) (by omega), inv_mid (by omega) (by omega), show a + c + 1 = a + 1 + c by omega]
theorem had_hi {w : WT} {n0 : Nat} (hA : aN0 w n0) : ∀ c, c < 39 → w.2.2 (200 + c) = n0 + (200 + c) := fun c hc => by
  rw [← hA (200 + c) (by omega), inv_hi (by omega)]
theorem al_st {w : WT} {M b q : Nat} (h1 : M ≤ q) (h2 : q < M + 39) (hb : isB b) (hi : inv q = b + (q - M)) : cellSh w.2.1 w.2.2 (b + (q - M)) (gs0 (q - M)) = EF w q := by
  obtain ⟨j, hj, rfl⟩ := hb
  unfold EF
  rw [hi, G0_st hj (by omega)]
set_option maxHeartbeats 4000000 in
set_option maxRecDepth 100000 in
theorem st_hist {w : WT} {n0 : Nat} {K : KT} {fs : List Value} (hc : CY w n0 K cX5_init 2 yX5_init.cls ⟨3, 238, 3066, 90⟩) (hZ : yZ n0 (ks K)) (hA : aN0 w n0) {ce sl i : Nat} {v v9 : Int32} (hvi : v.toNatClampNeg = i) (hv1 : v + Int32.ofInt 1 = v9) (hi : i < 4) (hin : vp_in v 4) (hlt : ¬ (4 : Int32) ≤ v) (hfs : fs[1]? = some (.ref (n0 + 3))) (hce : ce + 39 ≤ 238) (hsl : sl + 496 ≤ 3066) (kk : YY w n0 K 2 (almP w n0 fs (i + 1)) (4 + 39 * (i + 1)) (ce + 39) (sl + 496) 25 [(1, .int v9), (0, .ref (n0 + 0))] []) : YY w n0 K 2 (almP w n0 fs i) (4 + 39 * i) ce sl 25 [(1, .int v), (0, .ref (n0 + 0))] [] := by
  refine y_iload_n (pc := 25) hc dX5_init_25 0 rfl ?_
  refine y_iconst (v := 4) (pc := 26) hc dX5_init_26 (by decide) ?_
  refine y_icmp_ge (pc := 27) hc dX5_init_27 49 (by decide) (fun z => absurd z hlt) (fun _ => ?_)
  refine y_aload_n (pc := 30) hc dX5_init_30 1 rfl ?_
  refine y_get (pc := 31) (a := 0) hc (by omega) al_0 kcX5 1 (by decide) fl_X5_18 hfs dX5_init_31 ?_
  refine y_iload_n (pc := 34) hc dX5_init_34 0 rfl ?_
  refine y_new (pc := 35) (ci := 3) (T := TX3) (N := 13) (fs := fS .null .null .null .null) hc uw_X3 tyX3 tyX3_ok kl_X5_16 ib_X3 in_X3 rfl (fun j hj => by rcases (show j = 0 ∨ j = 1 ∨ j = 2 ∨ j = 3 ∨ j = 4 ∨ j = 5 ∨ j = 6 ∨ j = 7 ∨ j = 8 ∨ j = 9 ∨ j = 10 ∨ j = 11 ∨ j = 12 by omega) with rfl | rfl | rfl | rfl | rfl | rfl | rfl | rfl | rfl | rfl | rfl | rfl | rfl <;> rfl) (show ce + 1 ≤ 238 by omega) (show sl + 13 ≤ 3066 by omega) dX5_init_35 ?_
  refine y_dupr (pc := 38) hc dX5_init_38 ?_
  refine y_ctorz (pc := 39) hc hZ cl_X5_22 rfl (a := 4 + 39 * i) [] (c_X3_init (kl K) n0 (4 + 39 * i) (4 + 39 * i + 1) _ ⟨i, by omega, by omega⟩ (had_lo hA (by omega) (by omega)) (updE_s _ _ _)) rfl (Nat.le_of_ble_eq_true rfl) rfl rfl ⟨(Nat.le_of_ble_eq_true rfl), (Nat.le_of_ble_eq_true rfl)⟩ (show ce + 1 + 38 ≤ 238 by omega) (show sl + 13 + 483 ≤ 3066 by omega) dX5_init_39 rfl ?_
  refine y_astq (pc := 42) (a := 3) (v := 4 + 39 * i) hc (by omega) (by omega) 5 3 (by unfold stateE; rw [if_pos (by omega), updE_n _ _ (by omega)]; exact al_3) rfl (show stateE w _ (4 + 39 * i) (4 + 39 * i + 1) (4 + 39 * i) = .inr (3, fX3 w.2.2 (4 + 39 * i + 1) (gs0 0)) by unfold stateE; rw [if_neg (by omega), Nat.sub_self]; exact (cfS (w := w) ⟨i, by omega, by omega⟩).2 _) (r := (RX3, TX3, 13)) rfl hin dX5_init_42 ?_
  refine y_iinc (pc := 43) (L' := [(1, .int v9), (0, .ref (n0 + 0))]) hc dX5_init_43 0 rfl v9 hv1 (by decide) rfl ?_
  refine y_goto (pc := 46) hc dX5_init_46 25 (by decide) ?_
  refine y_cast rfl (show 4 + 39 * i + 39 = 4 + 39 * (i + 1) by omega) (show ce + 1 + 38 = ce + 39 by omega) (show sl + 13 + 483 = sl + 496 by omega) (y_castE (fun q hq => ?_) kk)
  by_cases h3 : q = 3
  · subst h3
    rw [updE_s, al_3]
    exact congrArg (fun f => (.inl (w.2.1 5, 4, .inr (.inr (.inr (.inr f)))) : va_E)) (up_next (B := fun j => n0 + (4 + 39 * j)) hvi rfl)
  · rw [updE_n _ _ h3]
    unfold stateE
    by_cases h4 : q < 4 + 39 * i
    · rw [if_pos h4, updE_n _ _ (by omega)]
      by_cases h0 : q = 0
      · subst h0; rw [al_0, al_0]
      · rw [al_n h0 h3, al_n h0 h3]
    · rw [if_neg h4, al_n (by omega) h3]
      exact al_st (by omega) (by omega) ⟨i, by omega, by omega⟩ (by rw [inv_mid (by omega) (by omega)]; omega)
set_option maxHeartbeats 8000000 in
set_option maxRecDepth 100000 in
theorem c_X5_init {w : WT} (l : Launch) (n0 : Nat) (hA : aN0 w n0) (E : Nat → va_E) (hE : E 0 = .inr (5, fA .null .null .null .null .null)) : Mcz w l yX5_init cX5_init 2 ⟨3, 238, 3066, 90⟩ [.ref (n0 + 0)] n0 E 1 (EF w) 239 238 3066 := by
  refine mk_cz (L0 := [(0, .ref (n0 + 0))]) (by decide +kernel) rfl (Nat.le_of_ble_eq_true rfl) (fun K hc hZ hnm hret => ?_)
  have hA2 : w.2.2 2 = n0 + 2 := hA 2 (by omega)
  refine y_aload_n (pc := 0) hc dX5_init_0 0 rfl ?_
  refine y_obj (pc := 1) hc ml_X5_3 (Nat.le_of_ble_eq_true rfl) (Nat.le_of_ble_eq_true rfl) dX5_init_1 ?_
  refine y_aload_n (pc := 4) hc dX5_init_4 0 rfl ?_
  refine y_new (pc := 5) (ci := 0) (T := TX0) (N := 6) (fs := [.null, .int 0, .int 0, .int 0, .int 0, .int 0]) hc uw_X0 tyX0 tyX0_ok kl_X5_9 ib_X0 in_X0 rfl (fun j hj => by rcases (show j = 0 ∨ j = 1 ∨ j = 2 ∨ j = 3 ∨ j = 4 ∨ j = 5 by omega) with rfl | rfl | rfl | rfl | rfl | rfl <;> rfl) (Nat.le_of_ble_eq_true rfl) (Nat.le_of_ble_eq_true rfl) dX5_init_5 ?_
  refine y_dupr (pc := 8) hc dX5_init_8 ?_
  refine y_ctor (pc := 9) hc cl_X5_11 rfl (a := 1) [] (c_X0_init (kl K) n0 1 2 _ (by omega) (updE_s _ _ _)) rfl (Nat.le_of_ble_eq_true rfl) rfl rfl ⟨(Nat.le_of_ble_eq_true rfl), (Nat.le_of_ble_eq_true rfl)⟩ (Nat.le_of_ble_eq_true rfl) (Nat.le_of_ble_eq_true rfl) dX5_init_9 rfl ?_
  refine y_putF (pc := 12) (a := 0) hc (by omega) (by unfold textE; rw [if_neg (by omega), if_neg (by omega), updE_n _ _ (by omega)]; exact hE) kcX5 0 (by decide) fl_X5_12 rfl hnm rfl rfl rfl (Nat.le_of_ble_eq_true rfl) dX5_init_12 ?_
  refine y_aload_n (pc := 15) hc dX5_init_15 0 rfl ?_
  refine y_iconst (v := 4) (pc := 16) hc dX5_init_16 (by decide) ?_
  refine y_newq (pc := 17) hc kl_X5_16 hZ.2.2.2.1 5 (cA := w.2.1 5) rfl (N' := 4) (by decide) (by decide) (Nat.le_of_ble_eq_true rfl) (Nat.le_of_ble_eq_true rfl) (Nat.le_of_ble_eq_true rfl) dX5_init_17 ?_
  refine y_putF (pc := 20) (a := 0) hc (by omega) (by rw [updE_n _ _ (by omega)]; exact updE_s _ _ _) kcX5 1 (by decide) fl_X5_18 rfl hnm rfl rfl rfl (Nat.le_of_ble_eq_true rfl) dX5_init_20 ?_
  refine y_iconst (v := 0) (pc := 23) hc dX5_init_23 (by decide) ?_
  refine y_istore_n (pc := 24) (L' := [(1, .int 0), (0, .ref (n0 + 0))]) hc dX5_init_24 (by decide) rfl ?_
  refine y_cast rfl (show 2 + 1 + 1 = 4 + 39 * 0 from rfl) rfl rfl (y_castE (E2 := almP w n0 (fA (.ref (n0 + 1)) (.ref (n0 + 3)) .null .null .null) 0) (fun q hq => ?_) ?_)
  · rcases (show q = 0 ∨ q = 1 ∨ q = 2 ∨ q = 3 by omega) with h | h | h | h
    · subst h
      rw [updE_s, al_0]; rfl
    · subst h
      rw [updE_n _ _ (by omega), updE_n _ _ (by omega), updE_n _ _ (by omega), al_n (by omega) (by omega)]
      show (.inr (0, [.ref (n0 + 2), .int 0, .int 0, .int 0, .int 0, .int 0]) : va_E) = .inr (0, [.ref (w.2.2 2), .int 0, .int 0, .int 0, .int 0, .int 0])
      rw [hA2]
    · subst h
      rw [updE_n _ _ (by omega), updE_n _ _ (by omega), updE_n _ _ (by omega), al_n (by omega) (by omega)]
      rfl
    · subst h
      rw [updE_n _ _ (by omega), al_3]
      refine (updE_s _ _ _).trans (congrArg (fun f => (.inl (w.2.1 5, 4, .inr (.inr (.inr (.inr f)))) : va_E)) ?_)
      funext j
      rw [if_neg (by omega)]
  refine st_hist (i := 0) (v9 := 1) hc hZ hA (by decide) (by decide) (by decide) (by unfold vp_in; decide) (by decide) rfl (by decide) (by decide) ?_
  refine st_hist (i := 1) (v9 := 2) hc hZ hA (by decide) (by decide) (by decide) (by unfold vp_in; decide) (by decide) rfl (by decide) (by decide) ?_
  refine st_hist (i := 2) (v9 := 3) hc hZ hA (by decide) (by decide) (by decide) (by unfold vp_in; decide) (by decide) rfl (by decide) (by decide) ?_
  refine st_hist (i := 3) (v9 := 4) hc hZ hA (by decide) (by decide) (by decide) (by unfold vp_in; decide) (by decide) rfl (by decide) (by decide) ?_
  refine y_iload_n (pc := 25) hc dX5_init_25 0 rfl ?_
  refine y_iconst (v := 4) (pc := 26) hc dX5_init_26 (by decide) ?_
  refine y_icmp_ge (pc := 27) hc dX5_init_27 49 (by decide) (fun _ => ?_) (fun z => absurd (by decide) z)
  refine y_cast rfl (show 4 + 39 * (3 + 1) = 160 from rfl) rfl rfl ?_
  refine y_aload_n (pc := 49) hc dX5_init_49 1 rfl ?_
  refine y_new (pc := 50) (ci := 3) (T := TX3) (N := 13) (fs := fS .null .null .null .null) hc uw_X3 tyX3 tyX3_ok kl_X5_16 ib_X3 in_X3 rfl (fun j hj => by rcases (show j = 0 ∨ j = 1 ∨ j = 2 ∨ j = 3 ∨ j = 4 ∨ j = 5 ∨ j = 6 ∨ j = 7 ∨ j = 8 ∨ j = 9 ∨ j = 10 ∨ j = 11 ∨ j = 12 by omega) with rfl | rfl | rfl | rfl | rfl | rfl | rfl | rfl | rfl | rfl | rfl | rfl | rfl <;> rfl) (Nat.le_of_ble_eq_true rfl) (Nat.le_of_ble_eq_true rfl) dX5_init_50 ?_
  refine y_dupr (pc := 53) hc dX5_init_53 ?_
  refine y_ctorz (pc := 54) hc hZ cl_X5_22 rfl (a := 160) [] (c_X3_init (kl K) n0 160 161 _ ⟨4, by omega, by omega⟩ (had_lo hA (by omega) (by omega)) (updE_s _ _ _)) rfl (Nat.le_of_ble_eq_true rfl) rfl rfl ⟨(Nat.le_of_ble_eq_true rfl), (Nat.le_of_ble_eq_true rfl)⟩ (Nat.le_of_ble_eq_true rfl) (Nat.le_of_ble_eq_true rfl) dX5_init_54 rfl ?_
  refine y_putF (pc := 57) (a := 0) hc (by omega) (by unfold stateE; rw [if_pos (by omega), updE_n _ _ (by omega)]; exact al_0) kcX5 2 (by decide) fl_X5_23 rfl hnm rfl rfl rfl (Nat.le_of_ble_eq_true rfl) dX5_init_57 ?_
  refine y_castE (E2 := almP w n0 (fA (.ref (n0 + 1)) (.ref (n0 + 3)) (.ref (n0 + 160)) .null .null) 4) (fun q hq => ?_) ?_
  · by_cases h0 : q = 0
    · subst h0; rw [updE_s, al_0]; rfl
    · rw [updE_n _ _ h0]
      unfold stateE
      by_cases h4 : q < 160
      · rw [if_pos h4, updE_n _ _ (by omega)]
        by_cases h3 : q = 3
        · subst h3; rw [al_3, al_3]
        · rw [al_n h0 h3, al_n h0 h3]
      · rw [if_neg h4, al_n h0 (by omega)]
        exact al_st (by omega) (by omega) ⟨4, by omega, by omega⟩ (by rw [inv_mid (by omega) (by omega)]; omega)
  refine y_aload_n (pc := 60) hc dX5_init_60 1 rfl ?_
  refine y_bipush (v := 20) (pc := 61) hc dX5_init_61 (by decide) ?_
  refine y_newa (atype := .int) (pc := 63) hc ar_int rfl 0 (cA := w.2.1 0) rfl (N' := 20) (a0 := (20, .inl (fun _ => 0))) (fun cA => rfl) (by decide) (by decide) (Nat.le_of_ble_eq_true rfl) (Nat.le_of_ble_eq_true rfl) (Nat.le_of_ble_eq_true rfl) dX5_init_63 ?_
  refine y_putF (pc := 65) (a := 0) hc (by omega) (by rw [updE_n _ _ (by omega)]; exact al_0) kcX5 3 (by decide) fl_X5_27 rfl hnm rfl rfl rfl (Nat.le_of_ble_eq_true rfl) dX5_init_65 ?_
  refine y_cast rfl (show 160 + 39 + 1 = 200 from rfl) rfl rfl (y_castE (E2 := almP w n0 (fA (.ref (n0 + 1)) (.ref (n0 + 3)) (.ref (n0 + 160)) (.ref (n0 + 199)) .null) 4) (fun q hq => ?_) ?_)
  · by_cases h0 : q = 0
    · subst h0; rw [updE_s, al_0]; rfl
    · rw [updE_n _ _ h0]
      by_cases h4 : q = 199
      · subst h4
        rw [al_n (by omega) (by omega)]
        exact updE_s _ _ _
      · rw [updE_n _ _ (by omega)]
        by_cases h3 : q = 3
        · subst h3; rw [al_3, al_3]
        · rw [al_n h0 h3, al_n h0 h3]
  refine y_aload_n (pc := 68) hc dX5_init_68 1 rfl ?_
  refine y_new (pc := 69) (ci := 3) (T := TX3) (N := 13) (fs := fS .null .null .null .null) hc uw_X3 tyX3 tyX3_ok kl_X5_16 ib_X3 in_X3 rfl (fun j hj => by rcases (show j = 0 ∨ j = 1 ∨ j = 2 ∨ j = 3 ∨ j = 4 ∨ j = 5 ∨ j = 6 ∨ j = 7 ∨ j = 8 ∨ j = 9 ∨ j = 10 ∨ j = 11 ∨ j = 12 by omega) with rfl | rfl | rfl | rfl | rfl | rfl | rfl | rfl | rfl | rfl | rfl | rfl | rfl <;> rfl) (Nat.le_of_ble_eq_true rfl) (Nat.le_of_ble_eq_true rfl) dX5_init_69 ?_
  refine y_dupr (pc := 72) hc dX5_init_72 ?_
  refine y_ctorz (pc := 73) hc hZ cl_X5_22 rfl (a := 200) [] (c_X3_init (kl K) n0 200 200 _ ⟨5, by omega, by omega⟩ (had_hi hA) (updE_s _ _ _)) rfl (Nat.le_of_ble_eq_true rfl) rfl rfl ⟨(Nat.le_of_ble_eq_true rfl), (Nat.le_of_ble_eq_true rfl)⟩ (Nat.le_of_ble_eq_true rfl) (Nat.le_of_ble_eq_true rfl) dX5_init_73 rfl ?_
  refine y_put (pc := 76) (a := 0) hc (by omega) (by unfold stateE; rw [if_pos (by omega), updE_n _ _ (by omega)]; exact al_0) kcX5 4 (by decide) fl_X5_31 rfl rfl rfl (Nat.le_of_ble_eq_true rfl) dX5_init_76 ?_
  refine y_castE (E2 := almP w n0 (fA (.ref (n0 + 1)) (.ref (n0 + 3)) (.ref (n0 + 160)) (.ref (n0 + 199)) (.ref (n0 + 200))) 4) (fun q hq => ?_) ?_
  · by_cases h0 : q = 0
    · subst h0; rw [updE_s, al_0]; rfl
    · rw [updE_n _ _ h0]
      unfold stateE
      by_cases h4 : q < 200
      · rw [if_pos h4, updE_n _ _ (by omega)]
        by_cases h3 : q = 3
        · subst h3; rw [al_3, al_3]
        · rw [al_n h0 h3, al_n h0 h3]
      · rw [if_neg h4, al_n h0 (by omega)]
        exact al_st (by omega) (by omega) ⟨5, by omega, by omega⟩ (by rw [inv_hi (by omega)]; omega)
  refine y_aload_n (pc := 79) hc dX5_init_79 1 rfl ?_
  refine y_iconst (v := 0) (pc := 80) hc dX5_init_80 (by decide) ?_
  refine y_put (pc := 81) (a := 0) hc (by omega) al_0 kcX5 5 (by decide) fl_X5_34 rfl rfl rfl (Nat.le_of_ble_eq_true rfl) dX5_init_81 ?_
  refine y_aload_n (pc := 84) hc dX5_init_84 1 rfl ?_
  refine y_iconst (v := 0) (pc := 85) hc dX5_init_85 (by decide) ?_
  refine y_put (pc := 86) (a := 0) hc (by omega) (updE_s _ _ _) kcX5 6 (by decide) fl_X5_38 rfl rfl rfl (Nat.le_of_ble_eq_true rfl) dX5_init_86 ?_
  refine y_castQ (fun q hq => ?_) (hret _ _ dX5_init_89)
  by_cases h0 : q = 0
  · subst h0
    rw [updE_s]
    refine Or.inl ?_
    have e1 : w.2.2 1 = n0 + 1 := hA 1 (by omega)
    have e3 : w.2.2 3 = n0 + 3 := hA 3 (by omega)
    have e4 : w.2.2 4 = n0 + 199 := hA 199 (by omega)
    have e161 : w.2.2 161 = n0 + 160 := hA 160 (by omega)
    have e200 : w.2.2 200 = n0 + 200 := hA 200 (by omega)
    have es : stb (G0 0 4) = 200 := by decide
    show _ = (.inr (5, [.ref (w.2.2 1), .ref (w.2.2 3), .ref (w.2.2 161), .ref (w.2.2 4), .ref (w.2.2 (stb (G0 0 4))), .int 0, .int 0]) : va_E)
    rw [es, e1, e3, e4, e161, e200]
    rfl
  · rw [updE_n _ _ h0, updE_n _ _ h0]
    by_cases h3 : q = 3
    · subst h3
      rw [al_3]
      refine Or.inr ⟨_, _, _, _, rfl, rfl, fun j hj => ?_⟩
      rw [if_pos hj]
      have es : stb (G0 3 j) = 4 + 39 * j + 1 := by
        show 5 + 39 * (nI j).toNatClampNeg = _
        rw [nI_clamp (by omega)]; omega
      show _ = some (w.2.2 (stb (G0 3 j)))
      rw [es, ← inv_mid (q := 4 + 39 * j) (by omega) (by omega), hA _ (by omega)]
    · rw [al_n h0 h3]
      exact Or.inl rfl
def Mci (w : WT) (l : Launch) (y : MethodName) (c : ByteArray) (n : Nat) (rm : Room) (av : List Value) (n0 : Nat) (E : Nat → va_E) (m : Nat) (r : Int32) : Prop :=
  Met l y (ws_ y c n (some .int)) rm (va_Pc av (gPre w n0 E m)) (va_Qi (fun (v : Int32) (_ : Unit) => v = r) (fun _ t => va_P w.1 vwCl (wlE n0 E m) t.heap ∧ t.heap.size = n0 + m) (yA n0)) 0 0 (yA n0)
theorem mk_ci {w : WT} {l : Launch} {y : MethodName} {c : ByteArray} {n : Nat} {rm : Room} {av : List Value} {n0 : Nat} {E : Nat → va_E} {m : Nat} {r : Int32} {L0 : List (Nat × Value)} (hy : plainName y.cls = true) (hL : lv_args 0 av = L0) (hlen : (lg_sl av).length ≤ n)
    (body : ∀ K : KT, CY w n0 K c n y.cls rm → (∀ (pc : Nat) (L : List (Nat × Value)), decode c pc = .ok (.ireturn, 1) → YY w n0 K n E m 0 0 pc L [.int r]) → YY w n0 K n E m 0 0 0 L0 []) : Mci w l y c n rm av n0 E m r := by
  refine Met.ofW (cc := c) (maxL := n) (ret := some .int) hy rfl ?_
  intro p e s mm args below meth cd s₁ B hml hv
  obtain ⟨rfl, hP, hz, hK⟩ := hv
  have hts := atoms_spec (ws := ws_ y c n (some .int)) B.pre
  have hc : CY w n0 (p, l, e, (headSpec (ws_ y c n (some .int)) rm).room, s, mm, av.toArray, below, meth, cd, 0, 0, MQ below (va_Qi (fun (v : Int32) (_ : Unit) => v = r) (fun _ t => va_P w.1 vwCl (wlE n0 E m) t.heap ∧ t.heap.size = n0 + m) (yA n0)) av.toArray s 0 0 (yA n0)) c n y.cls rm :=
    ⟨B.exec, B.bytes, hml, findClass_of_methodNamed B.named, fun wd h => hts wd (List.mem_cons_of_mem _ h), hK, by show n0 ≤ s.heap.size; omega, rfl⟩
  have hb := body _ hc (fun pc L hd H locs ls hP' hz' hS' hl' =>
    W.zret (v := r) B.exec B.bytes B.returns rfl (fun t ht hW => ⟨⟨r, (), rfl, rfl, by show va_P _ _ _ t.heap ∧ t.heap.size = _; rw [ht]; exact ⟨hP', hz'⟩⟩, hS'.F ht⟩) hS'.2.2 hd B.notSynchronized)
  have hl := lv_entry av (n := n) hlen
  rw [lg_entry_eq]
  exact hb s.heap [] _ hP hz va_S.rf (hL ▸ hl)
theorem y_calls {w : WT} {n0 : Nat} {K : KT} {cc : ByteArray} {nL : Nat} {own : String} {rm : Room} {E : Nat → va_E} {m ce sl pc : Nat} {L : List (Nat × Value)} {st : List Value} (hc : CY w n0 K cc nL own rm) {y : MethodName} {bytes : ByteArray} {maxL n index : Nat} {rm' : Room} (hv : SW own index y bytes maxL (some .int) n) (As : List Value) {r : Int32} (hM : Mci w (kl K) y bytes maxL rm' As n0 E m r) (hn : As.length = n) (hcat : (st.map fun v => v.category).sum ≤ 8) (hz9 : rm'.cells = 0) (hs9 : rm'.slots = 0) (hR : rm'.frames + 1 ≤ rm.frames ∧ 8 + (maxL + 11) + rm'.locals ≤ rm.locals) (hcells : ce ≤ rm.cells) (hslots : sl ≤ rm.slots) (hd : decode cc pc = .ok (.invokestatic index, 3)) {st0 : List Value} (hst : st0 = As.reverse ++ st) (kk : YY w n0 K nL E m ce sl (pc + 3) L (.int r :: st)) : YY w n0 K nL E m ce sl pc L st0 := by
  intro H locs ls hP hz hS hl
  subst hst
  have hml : CallFix (kp K) (km K) (kco K) cc nL (ks K) (ka K) AW own := ⟨hc.1, hc.2.1, hc.2.2.1, hc.2.2.2.1, hc.2.2.2.2.1⟩
  have hcw : CallB (kR K) (ks K) (ka K) own index y bytes maxL (some .int) (ws_ y bytes maxL (some .int)) rm' 0 0 n :=
    callB_of n hc.2.2.2.2.1 (ws_good hv.1) rfl hz9 hs9 (hc.2.2.2.2.1 _ hv.2.2.2.1) (hc.2.2.2.2.1 _ hv.2.1) hv.2.2.2.2 (by rw [hc.2.2.2.2.2.2.2]; exact hR)
  exact va_calli (va_runS (As := As) (rest := st) hml hM ⟨hcw, hc.2.2.2.2.1 _ hv.2.2.1⟩ ⟨gPre_blind, gPre_at hP hz hc.2.2.2.2.2.1⟩ rfl hn hl.1 rfl (lv_room hcat) hd (by rw [hc.2.2.2.2.2.2.2]; exact ⟨hcells, hslots⟩)) hS (fun q _ h => h) (fun q h => h) (fun v u t H1 locs ht hvm hw hB hz1 hk1 hS1 => by
    have hw9 : v = r := hw
    subst hw9
    exact kk H1 locs ls (by rw [← ht]; exact hB.1) (by rw [← ht]; exact hB.2) hS1 hl)
theorem c_X6_reader {w : WT} (l : Launch) (n0 m : Nat) (E : Nat → va_E) (k : Nat) : Mci w l yX6_reader cX6_reader 2 ⟨0, 0, 0, 0⟩ [.int 0, .int (nI k)] n0 E m (nI (0 + 328 + 5 * k)) := by
  refine mk_ci (L0 := [(0, .int 0), (1, .int (nI k))]) (by decide +kernel) rfl (Nat.le_of_ble_eq_true rfl) (fun K hc hret => ?_)
  refine y_iload_n (pc := 0) hc dX6_reader_0 0 rfl ?_
  refine y_sipush (v := nI 328) (pc := 1) hc dX6_reader_1 (by decide) ?_
  refine y_iadd (pc := 4) hc dX6_reader_4 ?_
  refine y_iconst (v := nI 5) (pc := 5) hc dX6_reader_5 (by decide) ?_
  refine y_iload_n (pc := 6) hc dX6_reader_6 1 rfl ?_
  refine y_imul (pc := 7) hc dX6_reader_7 ?_
  refine y_iadd (pc := 8) hc dX6_reader_8 ?_
  have e : (0 : Int32) + nI 328 + nI 5 * nI k = nI (0 + 328 + 5 * k) := by
    rw [show (0 : Int32) = nI 0 from rfl, nI_add, pk_mul, nI_add]
  rw [e]
  exact hret _ _ dX6_reader_9
def fM (x0 x1 x2 x3 x4 : Value) : List Value := [x0, x1, .int 0, x2, .int 0, x3, .int 0, x4]
/-- the model while it is being made; f its row -/
def modP (w : WT) (E : Nat → va_E) (fs : List Value) (f : Nat → Int32) : Nat → va_E := fun q =>
  if q < 239 then E q else if q = 239 then .inr (6, fs) else va_ai (w.2.1 0) (if q = 240 then 708 else if q = 241 then 1416 else if q = 242 then 354 else if q = 243 then 60 else 20) (if q = 240 then f else fun _ => 0)
theorem mo_239 {w : WT} {E : Nat → va_E} {fs : List Value} {f : Nat → Int32} : modP w E fs f 239 = .inr (6, fs) := rfl
theorem mo_240 {w : WT} {E : Nat → va_E} {fs : List Value} {f : Nat → Int32} : modP w E fs f 240 = .inl (w.2.1 0, 708, .inl f) := rfl
theorem mo_eq {w : WT} {E : Nat → va_E} {fs : List Value} {f g : Nat → Int32} {q : Nat} (h : q ≠ 240) : modP w E fs f q = modP w E fs g q := by
  unfold modP
  by_cases h1 : q < 239
  · rw [if_pos h1, if_pos h1]
  · rw [if_neg h1, if_neg h1]
    by_cases h2 : q = 239
    · rw [if_pos h2, if_pos h2]
    · rw [if_neg h2, if_neg h2, if_neg h, if_neg h, if_neg h]
theorem mo_up {w : WT} {E : Nat → va_E} {fs : List Value} {f : Nat → Int32} {x : va_E} {g : Nat → Int32} (hx : x = .inl (w.2.1 0, 708, .inl g)) (q : Nat) : updE (modP w E fs f) 240 x q = modP w E fs g q := by
  by_cases h : q = 240
  · subst h
    rw [updE_s, hx, mo_240]
  · rw [updE_n _ _ h]
    exact mo_eq h
set_option maxHeartbeats 4000000 in
set_option maxRecDepth 100000 in
theorem st_mread {w : WT} {n0 : Nat} {K : KT} {E : Nat → va_E} (hc : CY w n0 K cX6_init 2 yX6_init.cls ⟨1, 5, 2558, 40⟩) {i : Nat} {v v9 : Int32} {f : Nat → Int32} (hvi : v = nI i) (hv1 : v + Int32.ofInt 1 = v9) (hi : i < 4) (hlt : ¬ (4 : Int32) ≤ v) (kk : YY w n0 K 2 (modP w E (fM (.ref (n0 + 240)) (.ref (n0 + 241)) (.ref (n0 + 242)) (.ref (n0 + 243)) (.ref (n0 + 244))) (upd f (328 + 5 * i) 100)) 245 5 2558 77 [(1, .int v9), (0, .ref (n0 + 239))] []) : YY w n0 K 2 (modP w E (fM (.ref (n0 + 240)) (.ref (n0 + 241)) (.ref (n0 + 242)) (.ref (n0 + 243)) (.ref (n0 + 244))) f) 245 5 2558 77 [(1, .int v), (0, .ref (n0 + 239))] [] := by
  refine y_iload_n (pc := 77) hc dX6_init_77 0 rfl ?_
  refine y_iconst (v := 4) (pc := 78) hc dX6_init_78 (by decide) ?_
  refine y_icmp_ge (pc := 79) hc dX6_init_79 100 (by decide) (fun z => absurd z hlt) (fun _ => ?_)
  refine y_aload_n (pc := 82) hc dX6_init_82 1 rfl ?_
  refine y_get (pc := 83) (a := 239) hc (by omega) mo_239 kcX6 0 (by decide) fl_X6_7 (v := .ref (n0 + 240)) rfl dX6_init_83 ?_
  refine y_iconst (v := 0) (pc := 86) hc dX6_init_86 (by decide) ?_
  refine y_iload_n (pc := 87) hc dX6_init_87 0 rfl ?_
  refine y_calls (pc := 88) hc cl_X6_25 [.int 0, .int (nI i)] (c_X6_reader (kl K) n0 245 _ i) rfl (Nat.le_of_ble_eq_true rfl) rfl rfl ⟨(Nat.le_of_ble_eq_true rfl), (Nat.le_of_ble_eq_true rfl)⟩ (Nat.le_refl _) (Nat.le_refl _) dX6_init_88 (by rw [hvi]; rfl) ?_
  refine y_bipush (v := 100) (pc := 91) hc dX6_init_91 (by decide) ?_
  refine y_iast (pc := 93) (a := 240) hc (by omega) 0 mo_240 rfl (vp_in_nI (by omega) (by omega)) dX6_init_93 ?_
  refine y_iinc (pc := 94) (L' := [(1, .int v9), (0, .ref (n0 + 239))]) hc dX6_init_94 0 rfl v9 hv1 (by decide) rfl ?_
  refine y_goto (pc := 97) hc dX6_init_97 77 (by decide) ?_
  refine y_castE (fun q hq => mo_up ?_ q) kk
  rw [nI_clamp (by omega), Nat.zero_add]
theorem f0_is : upd (upd (upd (upd (upd (upd (upd (fun _ => (0 : Int32)) 303 2) 304 50) 306 2) (328 + 5 * 0) 100) (328 + 5 * 1) 100) (328 + 5 * 2) 100) (328 + 5 * 3) 100 = f0 := by
  funext i
  by_cases h1 : i = 303
  · subst h1; rfl
  by_cases h2 : i = 304
  · subst h2; rfl
  by_cases h3 : i = 306
  · subst h3; rfl
  by_cases h4 : 328 ≤ i ∧ i < 348 ∧ (i - 328) % 5 = 0
  · rcases (show i = 328 ∨ i = 333 ∨ i = 338 ∨ i = 343 by omega) with h | h | h | h <;> subst h <;> rfl
  · rw [f0_z h1 h2 h3 h4, upd_n _ _ (by omega), upd_n _ _ (by omega), upd_n _ _ (by omega), upd_n _ _ (by omega), upd_n _ _ h3, upd_n _ _ h2, upd_n _ _ h1]
set_option maxHeartbeats 8000000 in
set_option maxRecDepth 100000 in
theorem c_X6_init {w : WT} (l : Launch) (n0 : Nat) (hA : aN0 w n0) (E : Nat → va_E) (hEF : ∀ q, q < 239 → E q = EF w q) (hE : E 239 = .inr (6, fM .null .null .null .null .null)) : Mc w l yX6_init cX6_init 2 ⟨1, 5, 2558, 40⟩ [.ref (n0 + 239)] n0 E 240 (EF w) 245 5 2558 := by
  refine mk_c (L0 := [(0, .ref (n0 + 239))]) (by decide +kernel) rfl (Nat.le_of_ble_eq_true rfl) (fun K hc hnm hret => ?_)
  refine y_aload_n (pc := 0) hc dX6_init_0 0 rfl ?_
  refine y_obj (pc := 1) hc ml_X6_1 (Nat.le_of_ble_eq_true rfl) (Nat.le_of_ble_eq_true rfl) dX6_init_1 ?_
  refine y_aload_n (pc := 4) hc dX6_init_4 0 rfl ?_
  refine y_sipush (v := 708) (pc := 5) hc dX6_init_5 (by decide) ?_
  refine y_newa (atype := .int) (pc := 8) hc ar_int rfl 0 (cA := w.2.1 0) rfl (N' := 708) (a0 := (708, .inl (fun _ => 0))) (fun cA => rfl) (by decide) (by decide) (Nat.le_of_ble_eq_true rfl) (Nat.le_of_ble_eq_true rfl) (Nat.le_of_ble_eq_true rfl) dX6_init_8 ?_
  refine y_putF (pc := 10) (a := 239) hc (by omega) (by rw [updE_n _ _ (by omega)]; exact hE) kcX6 0 (by decide) fl_X6_7 rfl hnm rfl rfl rfl (Nat.le_of_ble_eq_true rfl) dX6_init_10 ?_
  refine y_aload_n (pc := 13) hc dX6_init_13 0 rfl ?_
  refine y_sipush (v := 1416) (pc := 14) hc dX6_init_14 (by decide) ?_
  refine y_newa (atype := .int) (pc := 17) hc ar_int rfl 0 (cA := w.2.1 0) rfl (N' := 1416) (a0 := (1416, .inl (fun _ => 0))) (fun cA => rfl) (by decide) (by decide) (Nat.le_of_ble_eq_true rfl) (Nat.le_of_ble_eq_true rfl) (Nat.le_of_ble_eq_true rfl) dX6_init_17 ?_
  refine y_putF (pc := 19) (a := 239) hc (by omega) (by rw [updE_n _ _ (by omega)]; exact updE_s _ _ _) kcX6 1 (by decide) fl_X6_13 rfl hnm rfl rfl rfl (Nat.le_of_ble_eq_true rfl) dX6_init_19 ?_
  refine y_aload_n (pc := 22) hc dX6_init_22 0 rfl ?_
  refine y_sipush (v := 354) (pc := 23) hc dX6_init_23 (by decide) ?_
  refine y_newa (atype := .int) (pc := 26) hc ar_int rfl 0 (cA := w.2.1 0) rfl (N' := 354) (a0 := (354, .inl (fun _ => 0))) (fun cA => rfl) (by decide) (by decide) (Nat.le_of_ble_eq_true rfl) (Nat.le_of_ble_eq_true rfl) (Nat.le_of_ble_eq_true rfl) dX6_init_26 ?_
  refine y_putF (pc := 28) (a := 239) hc (by omega) (by rw [updE_n _ _ (by omega)]; exact updE_s _ _ _) kcX6 3 (by decide) fl_X6_16 rfl hnm rfl rfl rfl (Nat.le_of_ble_eq_true rfl) dX6_init_28 ?_
  refine y_aload_n (pc := 31) hc dX6_init_31 0 rfl ?_
  refine y_bipush (v := 60) (pc := 32) hc dX6_init_32 (by decide) ?_
  refine y_newa (atype := .int) (pc := 34) hc ar_int rfl 0 (cA := w.2.1 0) rfl (N' := 60) (a0 := (60, .inl (fun _ => 0))) (fun cA => rfl) (by decide) (by decide) (Nat.le_of_ble_eq_true rfl) (Nat.le_of_ble_eq_true rfl) (Nat.le_of_ble_eq_true rfl) dX6_init_34 ?_
  refine y_putF (pc := 36) (a := 239) hc (by omega) (by rw [updE_n _ _ (by omega)]; exact updE_s _ _ _) kcX6 5 (by decide) fl_X6_19 rfl hnm rfl rfl rfl (Nat.le_of_ble_eq_true rfl) dX6_init_36 ?_
  refine y_aload_n (pc := 39) hc dX6_init_39 0 rfl ?_
  refine y_bipush (v := 20) (pc := 40) hc dX6_init_40 (by decide) ?_
  refine y_newa (atype := .int) (pc := 42) hc ar_int rfl 0 (cA := w.2.1 0) rfl (N' := 20) (a0 := (20, .inl (fun _ => 0))) (fun cA => rfl) (by decide) (by decide) (Nat.le_of_ble_eq_true rfl) (Nat.le_of_ble_eq_true rfl) (Nat.le_of_ble_eq_true rfl) dX6_init_42 ?_
  refine y_putF (pc := 44) (a := 239) hc (by omega) (by rw [updE_n _ _ (by omega)]; exact updE_s _ _ _) kcX6 7 (by decide) fl_X6_22 rfl hnm rfl rfl rfl (Nat.le_of_ble_eq_true rfl) dX6_init_44 ?_
  refine y_castE (E2 := modP w E (fM (.ref (n0 + 240)) (.ref (n0 + 241)) (.ref (n0 + 242)) (.ref (n0 + 243)) (.ref (n0 + 244))) (fun _ => 0)) (fun q hq => ?_) ?_
  · by_cases h0 : q = 239
    · subst h0; rw [updE_s]; rfl
    · rw [updE_n _ _ h0]
      by_cases h : q = 244
      · subst h; exact updE_s _ _ _
      rw [updE_n _ _ (by omega), updE_n _ _ h0]
      by_cases h : q = 243
      · subst h; exact updE_s _ _ _
      rw [updE_n _ _ (by omega), updE_n _ _ h0]
      by_cases h : q = 242
      · subst h; exact updE_s _ _ _
      rw [updE_n _ _ (by omega), updE_n _ _ h0]
      by_cases h : q = 241
      · subst h; exact updE_s _ _ _
      rw [updE_n _ _ (by omega), updE_n _ _ h0]
      by_cases h : q = 240
      · subst h; exact updE_s _ _ _
      rw [updE_n _ _ (by omega)]
      unfold modP
      rw [if_pos (by omega)]
  refine y_aload_n (pc := 47) hc dX6_init_47 0 rfl ?_
  refine y_get (pc := 48) (a := 239) hc (by omega) mo_239 kcX6 0 (by decide) fl_X6_7 (v := .ref (n0 + 240)) rfl dX6_init_48 ?_
  refine y_sipush (v := nI 303) (pc := 51) hc dX6_init_51 (by decide) ?_
  refine y_iconst (v := 2) (pc := 54) hc dX6_init_54 (by decide) ?_
  refine y_iast (pc := 55) (a := 240) hc (by omega) 0 mo_240 rfl (vp_in_nI (by omega) (by omega)) dX6_init_55 ?_
  refine y_castE (fun q hq => mo_up (by rw [nI_clamp (by omega)]) q) ?_
  refine y_aload_n (pc := 56) hc dX6_init_56 0 rfl ?_
  refine y_get (pc := 57) (a := 239) hc (by omega) mo_239 kcX6 0 (by decide) fl_X6_7 (v := .ref (n0 + 240)) rfl dX6_init_57 ?_
  refine y_sipush (v := nI 304) (pc := 60) hc dX6_init_60 (by decide) ?_
  refine y_bipush (v := 50) (pc := 63) hc dX6_init_63 (by decide) ?_
  refine y_iast (pc := 65) (a := 240) hc (by omega) 0 mo_240 rfl (vp_in_nI (by omega) (by omega)) dX6_init_65 ?_
  refine y_castE (fun q hq => mo_up (by rw [nI_clamp (by omega)]) q) ?_
  refine y_aload_n (pc := 66) hc dX6_init_66 0 rfl ?_
  refine y_get (pc := 67) (a := 239) hc (by omega) mo_239 kcX6 0 (by decide) fl_X6_7 (v := .ref (n0 + 240)) rfl dX6_init_67 ?_
  refine y_sipush (v := nI 306) (pc := 70) hc dX6_init_70 (by decide) ?_
  refine y_iconst (v := 2) (pc := 73) hc dX6_init_73 (by decide) ?_
  refine y_iast (pc := 74) (a := 240) hc (by omega) 0 mo_240 rfl (vp_in_nI (by omega) (by omega)) dX6_init_74 ?_
  refine y_castE (fun q hq => mo_up (by rw [nI_clamp (by omega)]) q) ?_
  refine y_iconst (v := 0) (pc := 75) hc dX6_init_75 (by decide) ?_
  refine y_istore_n (pc := 76) (L' := [(1, .int 0), (0, .ref (n0 + 239))]) hc dX6_init_76 (by decide) rfl ?_
  refine y_cast rfl rfl (show 0 + 1 + 1 + 1 + 1 + 1 = 5 from rfl) (show 0 + 708 + 1416 + 354 + 60 + 20 = 2558 from rfl) ?_
  refine st_mread (i := 0) (v9 := 1) hc (by decide) (by decide) (by decide) (by decide) ?_
  refine st_mread (i := 1) (v9 := 2) hc (by decide) (by decide) (by decide) (by decide) ?_
  refine st_mread (i := 2) (v9 := 3) hc (by decide) (by decide) (by decide) (by decide) ?_
  refine st_mread (i := 3) (v9 := 4) hc (by decide) (by decide) (by decide) (by decide) ?_
  refine y_iload_n (pc := 77) hc dX6_init_77 0 rfl ?_
  refine y_iconst (v := 4) (pc := 78) hc dX6_init_78 (by decide) ?_
  refine y_icmp_ge (pc := 79) hc dX6_init_79 100 (by decide) (fun _ => ?_) (fun z => absurd (by decide) z)
  rw [f0_is]
  refine y_castE (fun q hq => ?_) (hret _ _ dX6_init_100)
  by_cases h : q < 239
  · unfold modP
    rw [if_pos h]
    exact hEF q h
  · have e : ∀ q, 239 ≤ q → q < 245 → w.2.2 q = n0 + q := fun q h1 h2 => by rw [← hA q h2, inv_hi (by omega)]
    rcases (show q = 239 ∨ q = 240 ∨ q = 241 ∨ q = 242 ∨ q = 243 ∨ q = 244 by omega) with h | h | h | h | h | h
    · subst h
      rw [mo_239]
      show _ = (.inr (6, [.ref (w.2.2 240), .ref (w.2.2 241), .int 0, .ref (w.2.2 242), .int 0, .ref (w.2.2 243), .int 0, .ref (w.2.2 244)]) : va_E)
      rw [e 240 (by omega) (by omega), e 241 (by omega) (by omega), e 242 (by omega) (by omega), e 243 (by omega) (by omega), e 244 (by omega) (by omega)]
      rfl
    · subst h; rfl
    · subst h; rfl
    · subst h; rfl
    · subst h; rfl
    · subst h; rfl
