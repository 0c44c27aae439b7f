/-- the fields of a state that is being made -/
def fS (x0 x1 x2 x3 : Value) : List Value := [x0, x1, x2, x3, .int 0, .int 0, .int 0, .int 0, .int 0, .int 0, .int 0, .int 0, .int 0]
def partE (w : WT) (n0 : Nat) (E : Nat → va_E) (a : Nat) (fs : List Value) (ny ns nr : Nat) : Nat → va_E := fun q =>
  if q < a then E q else if q = a then .inr (3, fs) else if q = a + 1 then .inl (w.2.1 0, 4, .inl (gs0 1))
  else if q = a + 2 then va_aq (w.2.1 2) 5 (fun j => if j < ny then some (n0 + (a + (3 + 5 * j))) else none)
  else if q < a + 28 then (if (q - (a + 3)) % 5 = 0 then .inr (4, [.ref (n0 + (q + 1)), .ref (n0 + (q + 2)), .ref (n0 + (q + 3)), .ref (n0 + (q + 4)), .int 0]) else va_ai (w.2.1 0) 20 (fun _ => 0))
  else if q = a + 28 then va_aq (w.2.1 3) 5 (fun j => if j < ns then some (n0 + (a + (29 + j))) else none)
  else if q < a + 34 then .inr (2, [.int 0, .int 0, .int 0, .int 0])
  else if q = a + 34 then va_aq (w.2.1 4) 4 (fun j => if j < nr then some (n0 + (a + (35 + j))) else none)
  else .inr (1, [.int 100, .int 0, .int 0, .int 0, .int 0])
theorem pe_lt {w : WT} {n0 : Nat} {E : Nat → va_E} {a : Nat} {fs : List Value} {ny ns nr q : Nat} (h : q < a) : partE w n0 E a fs ny ns nr q = E q := if_pos h
theorem pe_0 {w : WT} {n0 : Nat} {E : Nat → va_E} {a : Nat} {fs : List Value} {ny ns nr : Nat} : partE w n0 E a fs ny ns nr a = .inr (3, fs) := by
  unfold partE
  rw [if_neg (by omega), if_pos rfl]
theorem pe_1 {w : WT} {n0 : Nat} {E : Nat → va_E} {a : Nat} {fs : List Value} {ny ns nr : Nat} : partE w n0 E a fs ny ns nr (a + 1) = .inl (w.2.1 0, 4, .inl (gs0 1)) := by
  unfold partE
  rw [if_neg (by omega), if_neg (by omega), if_pos rfl]
theorem pe_2 {w : WT} {n0 : Nat} {E : Nat → va_E} {a : Nat} {fs : List Value} {ny ns nr : Nat} : partE w n0 E a fs ny ns nr (a + 2) = va_aq (w.2.1 2) 5 (fun j => if j < ny then some (n0 + (a + (3 + 5 * j))) else none) := by
  unfold partE
  rw [if_neg (by omega), if_neg (by omega), if_neg (by omega), if_pos rfl]
theorem pe_yo {w : WT} {n0 : Nat} {E : Nat → va_E} {a : Nat} {fs : List Value} {ny ns nr q : Nat} (h1 : a + 3 ≤ q) (h2 : q < a + 28) (h3 : (q - (a + 3)) % 5 = 0) : partE w n0 E a fs ny ns nr q = .inr (4, [.ref (n0 + (q + 1)), .ref (n0 + (q + 2)), .ref (n0 + (q + 3)), .ref (n0 + (q + 4)), .int 0]) := by
  unfold partE
  rw [if_neg (by omega), if_neg (by omega), if_neg (by omega), if_neg (by omega), if_pos h2, if_pos h3]
theorem pe_ya {w : WT} {n0 : Nat} {E : Nat → va_E} {a : Nat} {fs : List Value} {ny ns nr q : Nat} (h1 : a + 3 ≤ q) (h2 : q < a + 28) (h3 : ¬ (q - (a + 3)) % 5 = 0) : partE w n0 E a fs ny ns nr q = va_ai (w.2.1 0) 20 (fun _ => 0) := by
  unfold partE
  rw [if_neg (by omega), if_neg (by omega), if_neg (by omega), if_neg (by omega), if_pos h2, if_neg h3]
theorem pe_28 {w : WT} {n0 : Nat} {E : Nat → va_E} {a : Nat} {fs : List Value} {ny ns nr : Nat} : partE w n0 E a fs ny ns nr (a + 28) = va_aq (w.2.1 3) 5 (fun j => if j < ns then some (n0 + (a + (29 + j))) else none) := by
  unfold partE
  rw [if_neg (by omega), if_neg (by omega), if_neg (by omega), if_neg (by omega), if_neg (by omega), if_pos rfl]
theorem pe_n {w : WT} {n0 : Nat} {E : Nat → va_E} {a : Nat} {fs : List Value} {ny ns nr q : Nat} (h1 : a + 29 ≤ q) (h2 : q < a + 34) : partE w n0 E a fs ny ns nr q = .inr (2, [.int 0, .int 0, .int 0, .int 0]) := by
  unfold partE
  rw [if_neg (by omega), if_neg (by omega), if_neg (by omega), if_neg (by omega), if_neg (by omega), if_neg (by omega), if_pos h2]
theorem pe_34 {w : WT} {n0 : Nat} {E : Nat → va_E} {a : Nat} {fs : List Value} {ny ns nr : Nat} : partE w n0 E a fs ny ns nr (a + 34) = va_aq (w.2.1 4) 4 (fun j => if j < nr then some (n0 + (a + (35 + j))) else none) := by
  unfold partE
  rw [if_neg (by omega), if_neg (by omega), if_neg (by omega), if_neg (by omega), if_neg (by omega), if_neg (by omega), if_neg (by omega), if_pos rfl]
theorem pe_r {w : WT} {n0 : Nat} {E : Nat → va_E} {a : Nat} {fs : List Value} {ny ns nr q : Nat} (h1 : a + 35 ≤ q) : partE w n0 E a fs ny ns nr q = .inr (1, [.int 100, .int 0, .int 0, .int 0, .int 0]) := by
  unfold partE
  rw [if_neg (by omega), if_neg (by omega), if_neg (by omega), if_neg (by omega), if_neg (by omega), if_neg (by omega), if_neg (by omega), if_neg (by omega)]
theorem pe_eq {w : WT} {n0 : Nat} {E : Nat → va_E} {a : Nat} {fs fs' : List Value} {ny ns nr ny' ns' nr' q : Nat} (h0 : q ≠ a ∨ fs = fs') (h1 : q ≠ a + 2 ∨ ny = ny') (h2 : q ≠ a + 28 ∨ ns = ns') (h3 : q ≠ a + 34 ∨ nr = nr') : partE w n0 E a fs ny ns nr q = partE w n0 E a fs' ny' ns' nr' q := by
  rcases (show q < a ∨ q = a ∨ q = a + 1 ∨ q = a + 2 ∨ (a + 3 ≤ q ∧ q < a + 28) ∨ q = a + 28 ∨ (a + 29 ≤ q ∧ q < a + 34) ∨ q = a + 34 ∨ a + 35 ≤ q by omega) with h | h | h | h | h | h | h | h | h
  · rw [pe_lt h, pe_lt h]
  · subst h
    rcases h0 with e | e
    · exact absurd rfl e
    · rw [pe_0, pe_0, e]
  · subst h; rw [pe_1, pe_1]
  · subst h
    rcases h1 with e | e
    · exact absurd rfl e
    · rw [pe_2, pe_2, e]
  · by_cases h9 : (q - (a + 3)) % 5 = 0
    · rw [pe_yo h.1 h.2 h9, pe_yo h.1 h.2 h9]
    · rw [pe_ya h.1 h.2 h9, pe_ya h.1 h.2 h9]
  · subst h
    rcases h2 with e | e
    · exact absurd rfl e
    · rw [pe_28, pe_28, e]
  · rw [pe_n h.1 h.2, pe_n h.1 h.2]
  · subst h
    rcases h3 with e | e
    · exact absurd rfl e
    · rw [pe_34, pe_34, e]
  · rw [pe_r h, pe_r h]
theorem up_next {B : Nat → Nat} {i k : Nat} (hk : k = i) {x : Option Nat} (hx : x = some (B i)) : va_up (fun j => if j < i then some (B j) else none) k x = fun j => if j < i + 1 then some (B j) else none := by
  subst hk
  funext j
  unfold va_up
  by_cases h : j = k
  · subst h; rw [if_pos rfl, if_pos (by omega), hx]
  · rw [if_neg h]
    show (if j < k then some (B j) else none) = _
    by_cases h2 : j < k
    · rw [if_pos h2, if_pos (by omega)]
    · rw [if_neg h2, if_neg (by omega)]
set_option maxHeartbeats 4000000 in
set_option maxRecDepth 100000 in
theorem st_year {w : WT} {n0 : Nat} {K : KT} {E : Nat → va_E} {a : Nat} {fs : List Value} (hc : CY w n0 K cX3_init 2 yX3_init.cls ⟨2, 38, 483, 60⟩) {ce sl i : Nat} {v v9 : Int32} (hvi : v.toNatClampNeg = i) (hv1 : v + Int32.ofInt 1 = v9) (hi : i < 5) (hin : vp_in v 5) (hlt : ¬ (5 : Int32) ≤ v) (hfs : fs[1]? = some (.ref (n0 + (a + 2)))) (hce : ce + 5 ≤ 38) (hsl : sl + 85 ≤ 483) (kk : YY w n0 K 2 (partE w n0 E a fs (i + 1) 0 0) (a + (3 + 5 * (i + 1))) (ce + 5) (sl + 85) 34 [(1, .int v9), (0, .ref (n0 + a))] []) : YY w n0 K 2 (partE w n0 E a fs i 0 0) (a + (3 + 5 * i)) ce sl 34 [(1, .int v), (0, .ref (n0 + a))] [] := by
  refine y_iload_n (pc := 34) hc dX3_init_34 0 rfl ?_
  refine y_iconst (v := 5) (pc := 35) hc dX3_init_35 (by decide) ?_
  refine y_icmp_ge (pc := 36) hc dX3_init_36 58 (by decide) (fun z => absurd z hlt) (fun _ => ?_)
  refine y_aload_n (pc := 39) hc dX3_init_39 1 rfl ?_
  refine y_get (pc := 40) (a := a) hc (by omega) pe_0 kcX3 1 (by decide) fl_X3_26 hfs dX3_init_40 ?_
  refine y_iload_n (pc := 43) hc dX3_init_43 0 rfl ?_
  refine y_new (pc := 44) (ci := 4) (T := TX4) (N := 5) (fs := [.null, .null, .null, .null, .int 0]) hc uw_X4 tyX4 tyX4_ok kl_X3_24 ib_X4 in_X4 rfl (fun j hj => by rcases (show j = 0 ∨ j = 1 ∨ j = 2 ∨ j = 3 ∨ j = 4 by omega) with rfl | rfl | rfl | rfl | rfl <;> rfl) (show ce + 1 ≤ 38 by omega) (show sl + 5 ≤ 483 by omega) dX3_init_44 ?_
  refine y_dupr (pc := 47) hc dX3_init_47 ?_
  refine y_ctor (pc := 48) hc cl_X3_30 rfl (a := a + (3 + 5 * i)) [] (c_X4_init (kl K) n0 (a + (3 + 5 * i)) (a + (3 + 5 * i) + 1) _ (by omega) (updE_s _ _ _)) rfl (Nat.le_of_ble_eq_true rfl) rfl rfl ⟨(Nat.le_of_ble_eq_true rfl), (Nat.le_of_ble_eq_true rfl)⟩ (show ce + 1 + 4 ≤ 38 by omega) (show sl + 5 + 80 ≤ 483 by omega) dX3_init_48 rfl ?_
  refine y_astq (pc := 51) (a := a + 2) (v := a + (3 + 5 * i)) hc (by omega) (by omega) 2 4 (by unfold yearE; rw [if_neg (by omega), if_neg (by omega), updE_n _ _ (by omega)]; exact pe_2) rfl (by unfold yearE; exact if_pos rfl) (r := (RX4, TX4, 5)) rfl hin dX3_init_51 ?_
  refine y_iinc (pc := 52) (L' := [(1, .int v9), (0, .ref (n0 + a))]) hc dX3_init_52 0 rfl v9 hv1 (by decide) rfl ?_
  refine y_goto (pc := 55) hc dX3_init_55 34 (by decide) ?_
  refine y_cast rfl (show a + (3 + 5 * i) + 1 + 4 = a + (3 + 5 * (i + 1)) by omega) (show ce + 1 + 4 = ce + 5 by omega) (show sl + 5 + 80 = sl + 85 by omega) (y_castE (fun q hq => ?_) kk)
  by_cases h2 : q = a + 2
  · subst h2
    rw [updE_s, pe_2]
    exact congrArg (fun f => (.inl (w.2.1 2, 5, .inr (.inr (.inr (.inr f)))) : va_E)) (up_next (B := fun j => n0 + (a + (3 + 5 * j))) hvi rfl)
  · rw [updE_n _ _ h2]
    unfold yearE
    by_cases h3 : q = a + (3 + 5 * i)
    · subst h3
      rw [if_pos rfl, pe_yo (by omega) (by omega) (by omega)]
    · rw [if_neg h3]
      by_cases h4 : a + (3 + 5 * i) + 1 ≤ q
      · rw [if_pos (by omega), pe_ya (by omega) (by omega) (by omega)]
        rfl
      · rw [if_neg (by omega), updE_n _ _ h3]
        exact pe_eq (Or.inr rfl) (Or.inl h2) (Or.inr rfl) (Or.inr rfl)
set_option maxHeartbeats 4000000 in
set_option maxRecDepth 100000 in
theorem st_saint {w : WT} {n0 : Nat} {K : KT} {E : Nat → va_E} {a : Nat} {fs : List Value} (hc : CY w n0 K cX3_init 2 yX3_init.cls ⟨2, 38, 483, 60⟩) {ce sl i : Nat} {v v9 : Int32} (hvi : v.toNatClampNeg = i) (hv1 : v + Int32.ofInt 1 = v9) (hZ : yZ n0 (ks K)) (hi : i < 5) (hin : vp_in v 5) (hlt : ¬ (5 : Int32) ≤ v) (hfs : fs[2]? = some (.ref (n0 + (a + 28)))) (hce : ce + 1 ≤ 38) (hsl : sl + 4 ≤ 483) (kk : YY w n0 K 2 (partE w n0 E a fs 5 (i + 1) 0) (a + (29 + (i + 1))) (ce + 1) (sl + 4) 68 [(1, .int v9), (0, .ref (n0 + a))] []) : YY w n0 K 2 (partE w n0 E a fs 5 i 0) (a + (29 + i)) ce sl 68 [(1, .int v), (0, .ref (n0 + a))] [] := by
  refine y_iload_n (pc := 68) hc dX3_init_68 0 rfl ?_
  refine y_iconst (v := 5) (pc := 69) hc dX3_init_69 (by decide) ?_
  refine y_icmp_ge (pc := 70) hc dX3_init_70 92 (by decide) (fun z => absurd z hlt) (fun _ => ?_)
  refine y_aload_n (pc := 73) hc dX3_init_73 1 rfl ?_
  refine y_get (pc := 74) (a := a) hc (by omega) pe_0 kcX3 2 (by decide) fl_X3_33 hfs dX3_init_74 ?_
  refine y_iload_n (pc := 77) hc dX3_init_77 0 rfl ?_
  refine y_new (pc := 78) (ci := 2) (T := TX2) (N := 4) (fs := [.int 0, .int 0, .int 0, .int 0]) hc uw_X2 tyX2 tyX2_ok kl_X3_31 ib_X2 in_X2 rfl (fun j hj => by rcases (show j = 0 ∨ j = 1 ∨ j = 2 ∨ j = 3 by omega) with rfl | rfl | rfl | rfl <;> rfl) (show ce + 1 ≤ 38 by omega) (show sl + 4 ≤ 483 by omega) dX3_init_78 ?_
  refine y_dupr (pc := 81) hc dX3_init_81 ?_
  refine y_ctorN (pc := 82) hc cl_X3_37 hZ.2.2.2.2.1 rfl (a := a + (29 + i)) [] (c_X2_init (kl K) n0 (a + (29 + i)) (a + (29 + i) + 1) _) rfl (Nat.le_of_ble_eq_true rfl) rfl rfl ⟨(Nat.le_of_ble_eq_true rfl), (Nat.le_of_ble_eq_true rfl)⟩ (show ce + 1 + 0 ≤ 38 by omega) (show sl + 4 + 0 ≤ 483 by omega) dX3_init_82 rfl ?_
  refine y_astq (pc := 85) (a := a + 28) (v := a + (29 + i)) hc (by omega) (by omega) 3 2 (by rw [updE_n _ _ (by omega)]; exact pe_28) rfl (updE_s _ _ _) (r := (RX2, TX2, 4)) rfl hin dX3_init_85 ?_
  refine y_iinc (pc := 86) (L' := [(1, .int v9), (0, .ref (n0 + a))]) hc dX3_init_86 0 rfl v9 hv1 (by decide) rfl ?_
  refine y_goto (pc := 89) hc dX3_init_89 68 (by decide) ?_
  refine y_cast rfl (show a + (29 + i) + 1 = a + (29 + (i + 1)) by omega) (show ce + 1 + 0 = ce + 1 by omega) (show sl + 4 + 0 = sl + 4 by omega) (y_castE (fun q hq => ?_) kk)
  by_cases h2 : q = a + 28
  · subst h2
    rw [updE_s, pe_28]
    exact congrArg (fun f => (.inl (w.2.1 3, 5, .inr (.inr (.inr (.inr f)))) : va_E)) (up_next (B := fun j => n0 + (a + (29 + j))) hvi rfl)
  · rw [updE_n _ _ h2]
    by_cases h3 : q = a + (29 + i)
    · subst h3
      rw [updE_s, pe_n (by omega) (by omega)]
    · rw [updE_n _ _ h3]
      exact pe_eq (Or.inr rfl) (Or.inr rfl) (Or.inl h2) (Or.inr rfl)
set_option maxHeartbeats 4000000 in
set_option maxRecDepth 100000 in
theorem st_reader {w : WT} {n0 : Nat} {K : KT} {E : Nat → va_E} {a : Nat} {fs : List Value} (hc : CY w n0 K cX3_init 2 yX3_init.cls ⟨2, 38, 483, 60⟩) {ce sl i : Nat} {v v9 : Int32} (hvi : v.toNatClampNeg = i) (hv1 : v + Int32.ofInt 1 = v9) (hZ : yZ n0 (ks K)) (hi : i < 4) (hin : vp_in v 4) (hlt : ¬ (4 : Int32) ≤ v) (hfs : fs[3]? = some (.ref (n0 + (a + 34)))) (hce : ce + 1 ≤ 38) (hsl : sl + 5 ≤ 483) (kk : YY w n0 K 2 (partE w n0 E a fs 5 5 (i + 1)) (a + (35 + (i + 1))) (ce + 1) (sl + 5) 102 [(1, .int v9), (0, .ref (n0 + a))] []) : YY w n0 K 2 (partE w n0 E a fs 5 5 i) (a + (35 + i)) ce sl 102 [(1, .int v), (0, .ref (n0 + a))] [] := by
  refine y_iload_n (pc := 102) hc dX3_init_102 0 rfl ?_
  refine y_iconst (v := 4) (pc := 103) hc dX3_init_103 (by decide) ?_
  refine y_icmp_ge (pc := 104) hc dX3_init_104 137 (by decide) (fun z => absurd z hlt) (fun _ => ?_)
  refine y_aload_n (pc := 107) hc dX3_init_107 1 rfl ?_
  refine y_get (pc := 108) (a := a) hc (by omega) pe_0 kcX3 3 (by decide) fl_X3_40 hfs dX3_init_108 ?_
  refine y_iload_n (pc := 111) hc dX3_init_111 0 rfl ?_
  refine y_new (pc := 112) (ci := 1) (T := TX1) (N := 5) (fs := [.int 0, .int 0, .int 0, .int 0, .int 0]) hc uw_X1 tyX1 tyX1_ok kl_X3_38 ib_X1 in_X1 rfl (fun j hj => by rcases (show j = 0 ∨ j = 1 ∨ j = 2 ∨ j = 3 ∨ j = 4 by omega) with rfl | rfl | rfl | rfl | rfl <;> rfl) (show ce + 1 ≤ 38 by omega) (show sl + 5 ≤ 483 by omega) dX3_init_112 ?_
  refine y_dupr (pc := 115) hc dX3_init_115 ?_
  refine y_ctorN (pc := 116) hc cl_X3_44 hZ.2.2.2.2.2.1 rfl (a := a + (35 + i)) [] (c_X1_init (kl K) n0 (a + (35 + i)) (a + (35 + i) + 1) _) rfl (Nat.le_of_ble_eq_true rfl) rfl rfl ⟨(Nat.le_of_ble_eq_true rfl), (Nat.le_of_ble_eq_true rfl)⟩ (show ce + 1 + 0 ≤ 38 by omega) (show sl + 5 + 0 ≤ 483 by omega) dX3_init_116 rfl ?_
  refine y_astq (pc := 119) (a := a + 34) (v := a + (35 + i)) hc (by omega) (by omega) 4 1 (by rw [updE_n _ _ (by omega)]; exact pe_34) rfl (updE_s _ _ _) (r := (RX1, TX1, 5)) rfl hin dX3_init_119 ?_
  refine y_aload_n (pc := 120) hc dX3_init_120 1 rfl ?_
  refine y_get (pc := 121) (a := a) hc (by omega) (by rw [updE_n _ _ (by omega), updE_n _ _ (by omega)]; exact pe_0) kcX3 3 (by decide) fl_X3_40 hfs dX3_init_121 ?_
  refine y_iload_n (pc := 124) hc dX3_init_124 0 rfl ?_
  refine y_aald (pc := 125) (a := a + 34) hc (by omega) 4 (updE_s _ _ _) rfl hin (show va_up _ v.toNatClampNeg _ v.toNatClampNeg = some (n0 + (a + (35 + i))) from if_pos rfl) dX3_init_125 ?_
  refine y_bipush (v := 100) (pc := 126) hc dX3_init_126 (by decide) ?_
  refine y_put (pc := 128) (a := a + (35 + i)) hc (by omega) (by rw [updE_n _ _ (by omega)]; exact updE_s _ _ _) kcX1 0 (by decide) fl_X3_45 rfl rfl rfl (Nat.le_of_ble_eq_true rfl) dX3_init_128 ?_
  refine y_iinc (pc := 131) (L' := [(1, .int v9), (0, .ref (n0 + a))]) hc dX3_init_131 0 rfl v9 hv1 (by decide) rfl ?_
  refine y_goto (pc := 134) hc dX3_init_134 102 (by decide) ?_
  refine y_cast rfl (show a + (35 + i) + 1 = a + (35 + (i + 1)) by omega) (show ce + 1 + 0 = ce + 1 by omega) (show sl + 5 + 0 = sl + 5 by omega) (y_castE (fun q hq => ?_) kk)
  by_cases h3 : q = a + (35 + i)
  · subst h3
    rw [updE_s, pe_r (by omega)]
    rfl
  · rw [updE_n _ _ h3]
    by_cases h2 : q = a + 34
    · subst h2
      rw [updE_s, pe_34]
      exact congrArg (fun f => (.inl (w.2.1 4, 4, .inr (.inr (.inr (.inr f)))) : va_E)) (up_next (B := fun j => n0 + (a + (35 + j))) hvi rfl)
    · rw [updE_n _ _ h2, updE_n _ _ h3]
      exact pe_eq (Or.inr rfl) (Or.inr rfl) (Or.inr rfl) (Or.inl h2)
/-- a state at a, in its world's own shapes -/
def stateE (w : WT) (E : Nat → va_E) (a b : Nat) : Nat → va_E := fun q => if q < a then E q else cellSh w.2.1 w.2.2 (b + (q - a)) (gs0 (q - a))
theorem gs0_cpy : va_cpy (gs0 1) (fun _ => (0 : Int32)) 0 0 4 = gs0 1 := by
  funext j
  unfold va_cpy
  by_cases h : j < 4
  · rw [if_pos (by omega)]
    show gs0 1 (0 + (j - 0)) = _
    rw [Nat.zero_add, Nat.sub_zero]
  · rw [if_neg (by omega)]
    unfold gs0
    rw [if_pos rfl, if_neg (by omega), if_neg (by omega), if_neg (by omega)]
theorem gs0_zf {c : Nat} (h1 : c ≠ 1) (h2 : c < 35) : gs0 c = fun _ => 0 := by
  funext i
  exact gs0_z h1 h2
theorem state_eq {w : WT} {n0 : Nat} {E : Nat → va_E} {a b : Nat} (hb : isB b) (had : ∀ c, c < 39 → w.2.2 (b + c) = n0 + (a + c)) (q : Nat) (hq : q < a + 39) : eqE n0 q (partE w n0 E a (fS (.ref (n0 + (a + 1))) (.ref (n0 + (a + 2))) (.ref (n0 + (a + 28))) (.ref (n0 + (a + 34)))) 5 5 4 q) (stateE w E a b q) := by
  unfold stateE
  by_cases h0 : q < a
  · rw [pe_lt h0, if_pos h0]; exact Or.inl rfl
  rw [if_neg h0]
  obtain ⟨c, rfl⟩ : ∃ c, q = a + c := ⟨q - a, by omega⟩
  have hc : c < 39 := by omega
  rw [show a + c - a = c by omega, (st_sh hb hc w.2.1 w.2.2 (gs0 c)).2.2]
  unfold stSh
  rcases (show c = 0 ∨ c = 1 ∨ c = 2 ∨ (3 ≤ c ∧ c < 28) ∨ c = 28 ∨ (29 ≤ c ∧ c < 34) ∨ c = 34 ∨ 35 ≤ c by omega) with h | h | h | h | h | h | h | h
  · subst h
    rw [if_pos rfl, Nat.add_zero, pe_0]
    refine Or.inl ?_
    unfold fX3 fS
    rw [had 1 (by omega), had 2 (by omega), had 28 (by omega), had 34 (by omega)]
    rfl
  · subst h
    rw [if_neg (by omega), if_pos rfl, pe_1]
    exact Or.inl rfl
  · subst h
    rw [if_neg (by omega), if_neg (by omega), if_pos rfl, pe_2]
    refine Or.inr ⟨_, _, _, _, rfl, rfl, fun j hj => ?_⟩
    rw [if_pos hj, had _ (by omega)]
  · rw [if_neg (by omega), if_neg (by omega), if_neg (by omega), if_pos (by omega), gs0_zf (by omega) (by omega)]
    by_cases h9 : (c - 3) % 5 = 0
    · rw [if_pos h9, pe_yo (by omega) (by omega) (by rw [show a + c - (a + 3) = c - 3 by omega]; exact h9)]
      refine Or.inl ?_
      unfold fX4
      rw [show b + c + 1 = b + (c + 1) by omega, show b + c + 2 = b + (c + 2) by omega, show b + c + 3 = b + (c + 3) by omega, show b + c + 4 = b + (c + 4) by omega, had (c + 1) (by omega), had (c + 2) (by omega), had (c + 3) (by omega), had (c + 4) (by omega)]
      rfl
    · rw [if_neg h9, pe_ya (by omega) (by omega) (by rw [show a + c - (a + 3) = c - 3 by omega]; exact h9)]
      exact Or.inl rfl
  · subst h
    rw [if_neg (by omega), if_neg (by omega), if_neg (by omega), if_neg (by omega), if_pos rfl, pe_28]
    refine Or.inr ⟨_, _, _, _, rfl, rfl, fun j hj => ?_⟩
    rw [if_pos hj, had _ (by omega)]
  · rw [if_neg (by omega), if_neg (by omega), if_neg (by omega), if_neg (by omega), if_neg (by omega), if_pos (by omega), pe_n (by omega) (by omega), gs0_zf (by omega) (by omega)]
    exact Or.inl rfl
  · subst h
    rw [if_neg (by omega), if_neg (by omega), if_neg (by omega), if_neg (by omega), if_neg (by omega), if_neg (by omega), if_pos rfl, pe_34]
    refine Or.inr ⟨_, _, _, _, rfl, rfl, fun j hj => ?_⟩
    rw [if_pos hj, had _ (by omega)]
  · rw [if_neg (by omega), if_neg (by omega), if_neg (by omega), if_neg (by omega), if_neg (by omega), if_neg (by omega), if_neg (by omega), pe_r (by omega)]
    refine Or.inl ?_
    have e : gs0 c = fun i => if i = 0 then 100 else 0 := by
      funext i
      unfold gs0
      rw [if_neg (by omega), if_pos h]
    rw [e]
    rfl
set_option maxHeartbeats 8000000 in
set_option maxRecDepth 100000 in
theorem c_X3_init {w : WT} (l : Launch) (n0 a b : Nat) (E : Nat → va_E) (hb : isB b) (had : ∀ c, c < 39 → w.2.2 (b + c) = n0 + (a + c)) (hE : E a = .inr (3, fS .null .null .null .null)) : Mcz w l yX3_init cX3_init 2 ⟨2, 38, 483, 60⟩ [.ref (n0 + a)] n0 E (a + 1) (stateE w E a b) (a + 39) 38 483 := by
  refine mk_cz (L0 := [(0, .ref (n0 + a))]) (by decide +kernel) rfl (Nat.le_of_ble_eq_true rfl) (fun K hc hZ hnm hret => ?_)
  obtain ⟨z, hz1, hz2⟩ := hZ.2.2.2.2.2.2.2
  refine y_aload_n (pc := 0) hc dX3_init_0 0 rfl ?_
  refine y_obj (pc := 1) hc ml_X3_3 (Nat.le_of_ble_eq_true rfl) (Nat.le_of_ble_eq_true rfl) dX3_init_1 ?_
  refine y_aload_n (pc := 4) hc dX3_init_4 0 rfl ?_
  refine y_iconst (v := 4) (pc := 5) hc dX3_init_5 (by decide) ?_
  refine y_newa (atype := .int) (pc := 6) hc ar_int rfl 0 (cA := w.2.1 0) rfl (N' := 4) (a0 := (4, .inl (fun _ => 0))) (fun cA => rfl) (by decide) (by decide) (Nat.le_of_ble_eq_true rfl) (Nat.le_of_ble_eq_true rfl) (Nat.le_of_ble_eq_true rfl) dX3_init_6 ?_
  refine y_putF (pc := 8) (a := a) hc (by omega) (by rw [updE_n _ _ (by omega)]; exact hE) kcX3 0 (by decide) fl_X3_9 rfl hnm rfl rfl rfl (Nat.le_of_ble_eq_true rfl) dX3_init_8 ?_
  refine y_getsN (pc := 11) hc hz1 hZ.2.2.2.2.2.2.1 (fun _ h => h) dX3_init_11 ?_
  refine y_iconst (v := 0) (pc := 14) hc dX3_init_14 (by decide) ?_
  refine y_aload_n (pc := 15) hc dX3_init_15 0 rfl ?_
  refine y_get (pc := 16) (a := a) hc (by omega) (updE_s _ _ _) kcX3 0 (by decide) fl_X3_9 (v := .ref (n0 + (a + 1))) rfl dX3_init_16 ?_
  refine y_iconst (v := 0) (pc := 19) hc dX3_init_19 (by decide) ?_
  refine y_iconst (v := 4) (pc := 20) hc dX3_init_20 (by decide) ?_
  refine y_copyT (pc := 21) (a := a + 1) (f := gs0 1) (g := fun _ => 0) hc (by omega) 0 rfl hz2 (by rw [updE_n _ _ (by omega)]; exact updE_s _ _ _) ml_X3_18 (Nat.le_of_ble_eq_true rfl) (Nat.le_of_ble_eq_true rfl) dX3_init_21 ?_
  refine y_aload_n (pc := 24) hc dX3_init_24 0 rfl ?_
  refine y_iconst (v := 5) (pc := 25) hc dX3_init_25 (by decide) ?_
  refine y_newq (pc := 26) hc kl_X3_24 hZ.1 2 (cA := w.2.1 2) rfl (N' := 5) (by decide) (by decide) (Nat.le_of_ble_eq_true rfl) (Nat.le_of_ble_eq_true rfl) (Nat.le_of_ble_eq_true rfl) dX3_init_26 ?_
  refine y_putF (pc := 29) (a := a) hc (by omega) (by rw [updE_n _ _ (by omega), updE_n _ _ (by omega)]; exact updE_s _ _ _) kcX3 1 (by decide) fl_X3_26 rfl hnm rfl rfl rfl (Nat.le_of_ble_eq_true rfl) dX3_init_29 ?_
  refine y_iconst (v := 0) (pc := 32) hc dX3_init_32 (by decide) ?_
  refine y_istore_n (pc := 33) (L' := [(1, .int 0), (0, .ref (n0 + a))]) hc dX3_init_33 (by decide) rfl ?_
  refine y_cast rfl (show a + 1 + 1 + 1 = a + (3 + 5 * 0) by omega) rfl rfl (y_castE (E2 := partE w n0 E a (fS (.ref (n0 + (a + 1))) (.ref (n0 + (a + 2))) .null .null) 0 0 0) (fun q hq => ?_) ?_)
  · rcases (show q < a ∨ q = a ∨ q = a + 1 ∨ q = a + 2 by omega) with h | h | h | h
    · rw [updE_n _ _ (by omega), updE_n _ _ (by omega), updE_n _ _ (by omega), updE_n _ _ (by omega), updE_n _ _ (by omega), pe_lt h]
    · subst h
      rw [updE_s, pe_0]; rfl
    · subst h
      rw [updE_n _ _ (by omega), updE_n _ _ (by omega), updE_s, pe_1, gs0_cpy]
    · subst h
      rw [updE_n _ _ (by omega), pe_2]
      refine (updE_s _ _ _).trans (congrArg (fun f => (.inl (w.2.1 2, 5, .inr (.inr (.inr (.inr f)))) : va_E)) ?_)
      funext j
      rw [if_neg (by omega)]
  refine st_year (i := 0) (v9 := 1) hc (by decide) (by decide) (by decide) (by unfold vp_in; decide) (by decide) rfl (by decide) (by decide) ?_
  refine st_year (i := 1) (v9 := 2) hc (by decide) (by decide) (by decide) (by unfold vp_in; decide) (by decide) rfl (by decide) (by decide) ?_
  refine st_year (i := 2) (v9 := 3) hc (by decide) (by decide) (by decide) (by unfold vp_in; decide) (by decide) rfl (by decide) (by decide) ?_
  refine st_year (i := 3) (v9 := 4) hc (by decide) (by decide) (by decide) (by unfold vp_in; decide) (by decide) rfl (by decide) (by decide) ?_
  refine st_year (i := 4) (v9 := 5) hc (by decide) (by decide) (by decide) (by unfold vp_in; decide) (by decide) rfl (by decide) (by decide) ?_
  refine y_iload_n (pc := 34) hc dX3_init_34 0 rfl ?_
  refine y_iconst (v := 5) (pc := 35) hc dX3_init_35 (by decide) ?_
  refine y_icmp_ge (pc := 36) hc dX3_init_36 58 (by decide) (fun _ => ?_) (fun z => absurd (by decide) z)
  refine y_aload_n (pc := 58) hc dX3_init_58 1 rfl ?_
  refine y_iconst (v := 5) (pc := 59) hc dX3_init_59 (by decide) ?_
  refine y_newq (pc := 60) hc kl_X3_31 hZ.2.1 3 (cA := w.2.1 3) rfl (N' := 5) (by decide) (by decide) (Nat.le_of_ble_eq_true rfl) (Nat.le_of_ble_eq_true rfl) (Nat.le_of_ble_eq_true rfl) dX3_init_60 ?_
  refine y_putF (pc := 63) (a := a) hc (by omega) (by rw [updE_n _ _ (by omega)]; exact pe_0) kcX3 2 (by decide) fl_X3_33 rfl hnm rfl rfl rfl (Nat.le_of_ble_eq_true rfl) dX3_init_63 ?_
  refine y_iconst (v := 0) (pc := 66) hc dX3_init_66 (by decide) ?_
  refine y_istore_n (pc := 67) (L' := [(1, .int 0), (0, .ref (n0 + a))]) hc dX3_init_67 (by decide) rfl ?_
  refine y_cast rfl (show a + (3 + 5 * 5) + 1 = a + (29 + 0) by omega) rfl rfl (y_castE (E2 := partE w n0 E a (fS (.ref (n0 + (a + 1))) (.ref (n0 + (a + 2))) (.ref (n0 + (a + 28))) .null) 5 0 0) (fun q hq => ?_) ?_)
  · by_cases h : q = a
    · subst h
      rw [updE_s, pe_0]; rfl
    · rw [updE_n _ _ h]
      by_cases h2 : q = a + 28
      · subst h2
        rw [pe_28]
        refine (updE_s _ _ _).trans (congrArg (fun f => (.inl (w.2.1 3, 5, .inr (.inr (.inr (.inr f)))) : va_E)) ?_)
        funext j
        rw [if_neg (by omega)]
      · rw [updE_n _ _ (by omega)]
        exact pe_eq (Or.inl h) (Or.inr rfl) (Or.inr rfl) (Or.inr rfl)
  refine st_saint (i := 0) (v9 := 1) hc (by decide) (by decide) hZ (by decide) (by unfold vp_in; decide) (by decide) rfl (by decide) (by decide) ?_
  refine st_saint (i := 1) (v9 := 2) hc (by decide) (by decide) hZ (by decide) (by unfold vp_in; decide) (by decide) rfl (by decide) (by decide) ?_
  refine st_saint (i := 2) (v9 := 3) hc (by decide) (by decide) hZ (by decide) (by unfold vp_in; decide) (by decide) rfl (by decide) (by decide) ?_
  refine st_saint (i := 3) (v9 := 4) hc (by decide) (by decide) hZ (by decide) (by unfold vp_in; decide) (by decide) rfl (by decide) (by decide) ?_
  refine st_saint (i := 4) (v9 := 5) hc (by decide) (by decide) hZ (by decide) (by unfold vp_in; decide) (by decide) rfl (by decide) (by decide) ?_
  refine y_iload_n (pc := 68) hc dX3_init_68 0 rfl ?_
  refine y_iconst (v := 5) (pc := 69) hc dX3_init_69 (by decide) ?_
  refine y_icmp_ge (pc := 70) hc dX3_init_70 92 (by decide) (fun _ => ?_) (fun z => absurd (by decide) z)
  refine y_aload_n (pc := 92) hc dX3_init_92 1 rfl ?_
  refine y_iconst (v := 4) (pc := 93) hc dX3_init_93 (by decide) ?_
  refine y_newq (pc := 94) hc kl_X3_38 hZ.2.2.1 4 (cA := w.2.1 4) rfl (N' := 4) (by decide) (by decide) (Nat.le_of_ble_eq_true rfl) (Nat.le_of_ble_eq_true rfl) (Nat.le_of_ble_eq_true rfl) dX3_init_94 ?_
  refine y_putF (pc := 97) (a := a) hc (by omega) (by rw [updE_n _ _ (by omega)]; exact pe_0) kcX3 3 (by decide) fl_X3_40 rfl hnm rfl rfl rfl (Nat.le_of_ble_eq_true rfl) dX3_init_97 ?_
  refine y_iconst (v := 0) (pc := 100) hc dX3_init_100 (by decide) ?_
  refine y_istore_n (pc := 101) (L' := [(1, .int 0), (0, .ref (n0 + a))]) hc dX3_init_101 (by decide) rfl ?_
  refine y_cast rfl (show a + (29 + 5) + 1 = a + (35 + 0) by omega) rfl rfl (y_castE (E2 := partE w n0 E a (fS (.ref (n0 + (a + 1))) (.ref (n0 + (a + 2))) (.ref (n0 + (a + 28))) (.ref (n0 + (a + 34)))) 5 5 0) (fun q hq => ?_) ?_)
  · by_cases h : q = a
    · subst h
      rw [updE_s, pe_0]; rfl
    · rw [updE_n _ _ h]
      by_cases h2 : q = a + 34
      · subst h2
        rw [pe_34]
        refine (updE_s _ _ _).trans (congrArg (fun f => (.inl (w.2.1 4, 4, .inr (.inr (.inr (.inr f)))) : va_E)) ?_)
        funext j
        rw [if_neg (by omega)]
      · rw [updE_n _ _ (by omega)]
        exact pe_eq (Or.inl h) (Or.inr rfl) (Or.inr rfl) (Or.inr rfl)
  refine st_reader (i := 0) (v9 := 1) hc (by decide) (by decide) hZ (by decide) (by unfold vp_in; decide) (by decide) rfl (by decide) (by decide) ?_
  refine st_reader (i := 1) (v9 := 2) hc (by decide) (by decide) hZ (by decide) (by unfold vp_in; decide) (by decide) rfl (by decide) (by decide) ?_
  refine st_reader (i := 2) (v9 := 3) hc (by decide) (by decide) hZ (by decide) (by unfold vp_in; decide) (by decide) rfl (by decide) (by decide) ?_
  refine st_reader (i := 3) (v9 := 4) hc (by decide) (by decide) hZ (by decide) (by unfold vp_in; decide) (by decide) rfl (by decide) (by decide) ?_
  refine y_iload_n (pc := 102) hc dX3_init_102 0 rfl ?_
  refine y_iconst (v := 4) (pc := 103) hc dX3_init_103 (by decide) ?_
  refine y_icmp_ge (pc := 104) hc dX3_init_104 137 (by decide) (fun _ => ?_) (fun z => absurd (by decide) z)
  exact y_cast rfl (show a + (35 + 4) = a + 39 by omega) rfl rfl (y_castQ (fun q hq => state_eq hb had q hq) (hret _ _ dX3_init_137))
