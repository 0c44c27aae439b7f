def cnt (g : GS) (z t : Int32) : GS := if z = 0 then (if t = 0 then g else up2 g 0 11 (g 0 11 + 1)) else if t = 0 then up2 g 0 10 (g 0 10 + 1) else up2 g 0 9 (g 0 9 + 1)
def cW (g : GS) (k : Nat) (z t : Int32) : Int32 := wiN (g (35 + k) 1) (g (35 + k) 2) z t (g 1 3)
def cSetA (g : GS) (k : Nat) (w : Int32) : GS := up2 (up2 g 0 12 (g 0 12 - w)) (35 + k) 0 (up2 g 0 12 (g 0 12 - w) (35 + k) 0 + (up2 g 0 12 (g 0 12 - w) (35 + k) 1 + w))
def cSetB (g : GS) (k : Nat) (w : Int32) : GS := if 0 < w then up2 (cSetA g k w) (35 + k) 3 (cSetA g k w (35 + k) 3 + 1) else up2 (cSetA g k w) (35 + k) 4 (cSetA g k w (35 + k) 4 + 1)
def cSet (g : GS) (k : Nat) (z t : Int32) : GS := if g (35 + k) 1 ≤ 0 then g else up2 (up2 (cSetB g k (cW g k z t)) (35 + k) 1 0) (35 + k) 2 0
def cSets (g : GS) (z t : Int32) : Nat → GS
  | 0 => g
  | k + 1 => cSet (cSets g z t k) k z t
def cEnd (g : GS) (yo yn : Nat) (r : Nat) (t : Int32) : GS := up2 (up1 (up1 g (yn + 1) (bbRow (g (yo + 1)) (g (yo + 4)) (g (yn + 1)) r t 20)) (yn + 4) (zRow (g (yn + 4)) 20)) yn 4 0
theorem gc_end {G : GS} {b : Nat} {g : GS} {yo yn r : Nat} {t : Int32} (h1 : yo + 4 < 39) (h2 : yn + 4 < 39) : up2 (up1 (up1 (GC G b g) (b + yn + 1) (bbRow (GC G b g (b + yo + 1)) (GC G b g (b + yo + 4)) (GC G b g (b + yn + 1)) r t 20)) (b + yn + 4) (zRow (GC G b g (b + yn + 4)) 20)) (b + yn) 4 0 = GC G b (cEnd g yo yn r t) := by
  rw [gc_in G b g (show b + yo + 1 = b + (yo + 1) by omega) (by omega), gc_in G b g (show b + yo + 4 = b + (yo + 4) by omega) (by omega), gc_in G b g (show b + yn + 1 = b + (yn + 1) by omega) (by omega), gc_in G b g (show b + yn + 4 = b + (yn + 4) by omega) (by omega)]
  rw [gc_up1 (c := yn + 1) (by omega) (by omega), gc_up1 (c := yn + 4) (by omega) (by omega), gc_up (c := yn) (by omega) (by omega)]
  rfl
set_option maxHeartbeats 4000000 in
set_option maxRecDepth 100000 in
theorem m_X3_isFrostForetold {w : WT} (hI : xI w) (l : Launch) (G : GS) (b : Nat) (t : Int32) (hb : isB b) : Mi w l yX3_isFrostForetold cX3_isFrostForetold 2 (some .boolean) ⟨0, 0, 0, 0⟩ [.ref (w.2.2 b), .int t] G (fun v9 G' => v9 = b01 (t ≤ G (b + 1) 2) ∧ G' = G) := by
  refine mk_i (L0 := [(0, .ref (w.2.2 b)), (1, .int t)]) hI (by decide +kernel) rfl (Nat.le_of_ble_eq_true rfl) (fun v G9 h => by rw [h.1]; exact nz_b01 _) (fun K hc hret => ?_)
  refine x_iload_n (pc := 0) hc dX3_isFrostForetold_0 1 rfl ?_
  refine x_aload_n (pc := 1) hc dX3_isFrostForetold_1 0 rfl ?_
  refine x_get (pc := 2) hc (cfS hb) kcX3 0 (by decide) fl_X3_9 rfl dX3_isFrostForetold_2 ?_
  refine x_iconst (v := 2) (pc := 5) hc dX3_isFrostForetold_5 (by decide) ?_
  refine x_as (nI 2) rfl ?_
  refine x_iald (pc := 6) hc (afS hb) (vp_in_nI (by omega) (by decide)) dX3_isFrostForetold_6 ?_
  refine x_as (G (b + 1) 2) (congrArg _ (nI_clamp (by omega))) ?_
  refine x_icmp_gt (pc := 7) hc dX3_isFrostForetold_7 14 (by decide) (fun c7 => ?_) (fun c7 => ?_)
  · refine x_iconst (v := 0) (pc := 14) hc dX3_isFrostForetold_14 (by decide) ?_
    exact hret _ _ _ _ dX3_isFrostForetold_15 ⟨(b01_neg (Int32.not_le.mpr c7)).symm, rfl⟩
  · refine x_iconst (v := 1) (pc := 10) hc dX3_isFrostForetold_10 (by decide) ?_
    refine x_goto (pc := 11) hc dX3_isFrostForetold_11 15 (by decide) ?_
    exact hret _ _ _ _ dX3_isFrostForetold_15 ⟨(b01_pos (Int32.not_lt.mp c7)).symm, rfl⟩
set_option maxHeartbeats 4000000 in
set_option maxRecDepth 100000 in
theorem m_X3_countFrost {w : WT} (hI : xI w) (l : Launch) (G : GS) (b : Nat) (z t : Int32) (g : GS) (hb : isB b) : Mv w l yX3_countFrost cX3_countFrost 3 ⟨0, 0, 0, 0⟩ [.ref (w.2.2 b), .int z, .int t] (GC G b g) (fun G' => G' = GC G b (cnt g z t)) := by
  refine mk_v (L0 := [(0, .ref (w.2.2 b)), (1, .int z), (2, .int t)]) hI (by decide +kernel) rfl (Nat.le_of_ble_eq_true rfl) (fun K hc hret => ?_)
  have hlb := isB_lt hb
  refine x_iload_n (pc := 0) hc dX3_countFrost_0 1 rfl ?_
  refine x_if_eq (pc := 1) hc dX3_countFrost_1 21 (by decide) (fun c1 => ?_) (fun c1 => ?_)
  · refine x_iload_n (pc := 21) hc dX3_countFrost_21 1 rfl ?_
    refine x_if_eq (pc := 22) hc dX3_countFrost_22 38 (by decide) (fun c22 => ?_) (fun c22 => ?_)
    · refine x_iload_n (pc := 38) hc dX3_countFrost_38 2 rfl ?_
      refine x_if_eq (pc := 39) hc dX3_countFrost_39 52 (by decide) (fun c39 => ?_) (fun c39 => ?_)
      · exact hret _ _ _ dX3_countFrost_52 (by
            unfold cnt
            rw [if_pos c1, if_pos c39])
      · refine x_aload_n (pc := 42) hc dX3_countFrost_42 0 rfl ?_
        refine x_dupr (pc := 43) hc dX3_countFrost_43 ?_
        refine x_get (pc := 44) hc (cfS hb) kcX3 11 (by decide) fl_X3_80 rfl dX3_countFrost_44 ?_
        refine x_as (g 0 11) (gc_at (by omega) (by omega)) ?_
        refine x_iconst (v := 1) (pc := 47) hc dX3_countFrost_47 (by decide) ?_
        refine x_iadd (pc := 48) hc dX3_countFrost_48 ?_
        refine x_puti (pc := 49) hc (cfS hb) kcX3 11 (by decide) fl_X3_80 (by decide) rfl (by simp [fX3]) rfl dX3_countFrost_49 ?_
        refine x_G (gc_up (c := 0) (by omega) (by omega)) ?_
        refine x_fn (fun z => GC G b z) (fun g1 eg1 => ?_)
        exact hret _ _ _ dX3_countFrost_52 (by
            subst eg1
            unfold cnt
            rw [if_pos c1, if_neg c39])
    · exact absurd c1 c22
  · refine x_iload_n (pc := 4) hc dX3_countFrost_4 2 rfl ?_
    refine x_if_eq (pc := 5) hc dX3_countFrost_5 21 (by decide) (fun c5 => ?_) (fun c5 => ?_)
    · refine x_iload_n (pc := 21) hc dX3_countFrost_21 1 rfl ?_
      refine x_if_eq (pc := 22) hc dX3_countFrost_22 38 (by decide) (fun c22_1 => ?_) (fun c22_1 => ?_)
      · exact absurd c22_1 c1
      · refine x_aload_n (pc := 25) hc dX3_countFrost_25 0 rfl ?_
        refine x_dupr (pc := 26) hc dX3_countFrost_26 ?_
        refine x_get (pc := 27) hc (cfS hb) kcX3 10 (by decide) fl_X3_77 rfl dX3_countFrost_27 ?_
        refine x_as (g 0 10) (gc_at (by omega) (by omega)) ?_
        refine x_iconst (v := 1) (pc := 30) hc dX3_countFrost_30 (by decide) ?_
        refine x_iadd (pc := 31) hc dX3_countFrost_31 ?_
        refine x_puti (pc := 32) hc (cfS hb) kcX3 10 (by decide) fl_X3_77 (by decide) rfl (by simp [fX3]) rfl dX3_countFrost_32 ?_
        refine x_G (gc_up (c := 0) (by omega) (by omega)) ?_
        refine x_fn (fun z => GC G b z) (fun g2 eg2 => ?_)
        refine x_goto (pc := 35) hc dX3_countFrost_35 52 (by decide) ?_
        exact hret _ _ _ dX3_countFrost_52 (by
            subst eg2
            unfold cnt
            rw [if_neg c1, if_pos c5])
    · refine x_aload_n (pc := 8) hc dX3_countFrost_8 0 rfl ?_
      refine x_dupr (pc := 9) hc dX3_countFrost_9 ?_
      refine x_get (pc := 10) hc (cfS hb) kcX3 9 (by decide) fl_X3_74 rfl dX3_countFrost_10 ?_
      refine x_as (g 0 9) (gc_at (by omega) (by omega)) ?_
      refine x_iconst (v := 1) (pc := 13) hc dX3_countFrost_13 (by decide) ?_
      refine x_iadd (pc := 14) hc dX3_countFrost_14 ?_
      refine x_puti (pc := 15) hc (cfS hb) kcX3 9 (by decide) fl_X3_74 (by decide) rfl (by simp [fX3]) rfl dX3_countFrost_15 ?_
      refine x_G (gc_up (c := 0) (by omega) (by omega)) ?_
      refine x_fn (fun z => GC G b z) (fun g3 eg3 => ?_)
      refine x_goto (pc := 18) hc dX3_countFrost_18 52 (by decide) ?_
      exact hret _ _ _ dX3_countFrost_52 (by
          subst eg3
          unfold cnt
          rw [if_neg c1, if_neg c5])
set_option maxHeartbeats 4000000 in
set_option maxRecDepth 100000 in
theorem m_X3_settleBets {w : WT} (hI : xI w) (l : Launch) (G : GS) (b : Nat) (z t : Int32) (g : GS) (hb : isB b) : Mv w l yX3_settleBets cX3_settleBets 6 ⟨1, 0, 0, 23⟩ [.ref (w.2.2 b), .int z, .int t] (GC G b g) (fun G' => G' = GC G b (cSets g z t 4)) := by
  refine mk_v (L0 := [(0, .ref (w.2.2 b)), (1, .int z), (2, .int t)]) hI (by decide +kernel) rfl (Nat.le_of_ble_eq_true rfl) (fun K hc hret => ?_)
  have hlb := isB_lt hb
  refine x_iconst (v := 0) (pc := 0) hc dX3_settleBets_0 (by decide) ?_
  refine x_istore_n (pc := 1) (L' := [(3, .int 0), (0, .ref (w.2.2 b)), (1, .int z), (2, .int t)]) hc dX3_settleBets_1 (by decide) rfl ?_
  have loop2 : ∀ (n1 : Nat) (k : Nat), k ≤ 4 → 4 < k + n1 → XX w K 6 (GC G b (cSets g z t k)) 2 [(3, .int (nI k)), (0, .ref (w.2.2 b)), (1, .int z), (2, .int t)] [] := by
    intro n1
    induction n1 with
    | zero => intro k hk hf; omega
    | succ n1 ih =>
      intro k hk hf
      refine x_iload_n (pc := 2) hc dX3_settleBets_2 0 rfl ?_
      refine x_iconst (v := 4) (pc := 3) hc dX3_settleBets_3 (by decide) ?_
      refine x_icmp_ge (pc := 4) hc dX3_settleBets_4 108 (by decide) (fun c4 => ?_) (fun c4 => ?_)
      · have c4 : 4 ≤ k := (nI_leI (a := 4) (b := k) (by omega) (by omega)).mp c4
        exact hret _ _ _ dX3_settleBets_108 (by rw [show k = 4 by omega])
      · have c4 : ¬ 4 ≤ k := fun h9 => c4 ((nI_leI (a := 4) (b := k) (by omega) (by omega)).mpr h9)
        refine x_aload_n (pc := 7) hc dX3_settleBets_7 1 rfl ?_
        refine x_get (pc := 8) hc (cfS hb) kcX3 3 (by decide) fl_X3_40 rfl dX3_settleBets_8 ?_
        refine x_iload_n (pc := 11) hc dX3_settleBets_11 0 rfl ?_
        refine x_aald (pc := 12) hc (rfR hb) rfl (vp_in_nI (by omega) (by decide)) (b + (35 + k)) (by rw [nI_clamp (by omega)]) dX3_settleBets_12 ?_
        refine x_astore (pc := 13) (L' := [(4, .ref (w.2.2 (b + (35 + k)))), (3, .int (nI k)), (0, .ref (w.2.2 b)), (1, .int z), (2, .int t)]) hc dX3_settleBets_13 (by decide) rfl ?_
        refine x_aload (pc := 15) hc dX3_settleBets_15 0 rfl ?_
        refine x_get (pc := 17) hc (cfD (isR_of hb (by omega))) kcX1 1 (by decide) fl_X3_150 rfl dX3_settleBets_17 ?_
        refine x_as ((cSets g z t k) (35 + k) 1) (gc_at (by omega) (by omega)) ?_
        refine x_if_le (pc := 20) hc dX3_settleBets_20 102 (by decide) (fun c20 => ?_) (fun c20 => ?_)
        · refine x_iinc (pc := 102) (L' := [(3, .int (nI (k + 1))), (4, .ref (w.2.2 (b + (35 + k)))), (0, .ref (w.2.2 b)), (1, .int z), (2, .int t)]) hc dX3_settleBets_102 1 rfl (nI (k + 1)) (nI_1 _) (by decide) rfl ?_
          refine x_goto (pc := 105) hc dX3_settleBets_105 2 (by decide) ?_
          refine x_loc [0, 2, 3, 4] rfl ?_
          have z8 := ih (k + 1) (by omega) (by omega)
          have e3 : cSets g z t (k + 1) = cSets g z t k := by
            show cSet (cSets g z t k) k z t = _
            unfold cSet
            rw [if_pos c20]
          rw [e3] at z8
          exact z8
        · refine x_aload (pc := 23) hc dX3_settleBets_23 0 rfl ?_
          refine x_iload_n (pc := 25) hc dX3_settleBets_25 3 rfl ?_
          refine x_iload_n (pc := 26) hc dX3_settleBets_26 4 rfl ?_
          refine x_aload_n (pc := 27) hc dX3_settleBets_27 2 rfl ?_
          refine x_get (pc := 28) hc (cfS hb) kcX3 0 (by decide) fl_X3_9 rfl dX3_settleBets_28 ?_
          refine x_iconst (v := 3) (pc := 31) hc dX3_settleBets_31 (by decide) ?_
          refine x_as (nI 3) rfl ?_
          refine x_iald (pc := 32) hc (afS hb) (vp_in_nI (by omega) (by decide)) dX3_settleBets_32 ?_
          refine x_as ((cSets g z t k) 1 3) (gc_ld (by omega) (by omega) (by omega)) ?_
          refine x_callVi (pc := 33) hc cl_X3_153 (cfD (isR_of hb (by omega))) kcX1 [.int z, .int t, .int ((cSets g z t k) 1 3)] (m_X1_winnings hI (kl K) (GC G b (cSets g z t k)) (b + (35 + k)) z t ((cSets g z t k) 1 3) (isR_of hb (by omega))) rfl rfl (by simp [Value.category]) rfl rfl ⟨by decide, by decide⟩ dX3_settleBets_33 (fun r33 Gc33 q33 => ?_)
          obtain ⟨er33, eGc33⟩ := q33
          rw [eGc33]
          subst er33
          refine x_as (cW (cSets g z t k) k z t) (by rw [gc_at (c := 35 + k) (by omega) (by omega), gc_at (c := 35 + k) (by omega) (by omega)]; rfl) ?_
          refine x_nm (fun x36 ex36 => ?_)
          refine x_istore (pc := 36) (L' := [(5, .int x36), (4, .ref (w.2.2 (b + (35 + k)))), (3, .int (nI k)), (0, .ref (w.2.2 b)), (1, .int z), (2, .int t)]) hc dX3_settleBets_36 (by decide) rfl ?_
          refine x_aload_n (pc := 38) hc dX3_settleBets_38 3 rfl ?_
          refine x_dupr (pc := 39) hc dX3_settleBets_39 ?_
          refine x_get (pc := 40) hc (cfS hb) kcX3 12 (by decide) fl_X3_83 rfl dX3_settleBets_40 ?_
          refine x_as ((cSets g z t k) 0 12) (gc_at (by omega) (by omega)) ?_
          refine x_iload (pc := 43) hc dX3_settleBets_43 0 rfl ?_
          refine x_isub (pc := 45) hc dX3_settleBets_45 ?_
          refine x_puti (pc := 46) hc (cfS hb) kcX3 12 (by decide) fl_X3_83 (by decide) rfl (by simp [fX3]) rfl dX3_settleBets_46 ?_
          refine x_G (gc_up (c := 0) (by omega) (by omega)) ?_
          refine x_fn (fun z => GC G b z) (fun g1 eg1 => ?_)
          refine x_aload (pc := 49) hc dX3_settleBets_49 1 rfl ?_
          refine x_dupr (pc := 51) hc dX3_settleBets_51 ?_
          refine x_get (pc := 52) hc (cfD (isR_of hb (by omega))) kcX1 0 (by decide) fl_X3_45 rfl dX3_settleBets_52 ?_
          refine x_as (g1 (35 + k) 0) (gc_at (by omega) (by omega)) ?_
          refine x_aload (pc := 55) hc dX3_settleBets_55 1 rfl ?_
          refine x_get (pc := 57) hc (cfD (isR_of hb (by omega))) kcX1 1 (by decide) fl_X3_150 rfl dX3_settleBets_57 ?_
          refine x_as (g1 (35 + k) 1) (gc_at (by omega) (by omega)) ?_
          refine x_iload (pc := 60) hc dX3_settleBets_60 0 rfl ?_
          refine x_iadd (pc := 62) hc dX3_settleBets_62 ?_
          refine x_iadd (pc := 63) hc dX3_settleBets_63 ?_
          refine x_puti (pc := 64) hc (cfD (isR_of hb (by omega))) kcX1 0 (by decide) fl_X3_45 (by decide) rfl (by simp [fX1]) rfl dX3_settleBets_64 ?_
          refine x_G (gc_up (c := 35 + k) (by omega) (by omega)) ?_
          refine x_fn (fun z => GC G b z) (fun g2 eg2 => ?_)
          refine x_iload (pc := 67) hc dX3_settleBets_67 0 rfl ?_
          refine x_if_le (pc := 69) hc dX3_settleBets_69 86 (by decide) (fun c69 => ?_) (fun c69 => ?_)
          · refine x_aload (pc := 86) hc dX3_settleBets_86 1 rfl ?_
            refine x_dupr (pc := 88) hc dX3_settleBets_88 ?_
            refine x_get (pc := 89) hc (cfD (isR_of hb (by omega))) kcX1 4 (by decide) fl_X3_160 rfl dX3_settleBets_89 ?_
            refine x_as (g2 (35 + k) 4) (gc_at (by omega) (by omega)) ?_
            refine x_iconst (v := 1) (pc := 92) hc dX3_settleBets_92 (by decide) ?_
            refine x_iadd (pc := 93) hc dX3_settleBets_93 ?_
            refine x_puti (pc := 94) hc (cfD (isR_of hb (by omega))) kcX1 4 (by decide) fl_X3_160 (by decide) rfl (by simp [fX1]) rfl dX3_settleBets_94 ?_
            refine x_G (gc_up (c := 35 + k) (by omega) (by omega)) ?_
            refine x_fn (fun z => GC G b z) (fun g3 eg3 => ?_)
            refine x_aload (pc := 97) hc dX3_settleBets_97 1 rfl ?_
            refine x_callVv (pc := 99) hc cl_X3_163 (cfD (isR_of hb (by omega))) kcX1 [] (m_X1_dropBet hI (kl K) (GC G b g3) (b + (35 + k)) (isR_of hb (by omega))) rfl rfl (by simp [Value.category]) rfl rfl ⟨by decide, by decide⟩ dX3_settleBets_99 (fun Gc99 q99 => ?_)
            rw [q99]
            rw [gc_up (c := 35 + k) (by omega) (by omega), gc_up (c := 35 + k) (by omega) (by omega)]
            refine x_iinc (pc := 102) (L' := [(3, .int (nI (k + 1))), (5, .int x36), (4, .ref (w.2.2 (b + (35 + k)))), (0, .ref (w.2.2 b)), (1, .int z), (2, .int t)]) hc dX3_settleBets_102 2 rfl (nI (k + 1)) (nI_1 _) (by decide) rfl ?_
            refine x_goto (pc := 105) hc dX3_settleBets_105 2 (by decide) ?_
            refine x_loc [0, 3, 4, 5] rfl ?_
            have z8 := ih (k + 1) (by omega) (by omega)
            have e3 : cSets g z t (k + 1) = (up2 (up2 g3 (35 + k) 1 0) (35 + k) 2 0) := by
              subst ex36
              subst eg1
              subst eg2
              subst eg3
              show cSet (cSets g z t k) k z t = _
              unfold cSet
              rw [if_neg c20]
              unfold cSetB
              rw [if_neg (Int32.not_lt.mpr c69)]
              rfl
            rw [e3] at z8
            exact z8
          · refine x_aload (pc := 72) hc dX3_settleBets_72 1 rfl ?_
            refine x_dupr (pc := 74) hc dX3_settleBets_74 ?_
            refine x_get (pc := 75) hc (cfD (isR_of hb (by omega))) kcX1 3 (by decide) fl_X3_157 rfl dX3_settleBets_75 ?_
            refine x_as (g2 (35 + k) 3) (gc_at (by omega) (by omega)) ?_
            refine x_iconst (v := 1) (pc := 78) hc dX3_settleBets_78 (by decide) ?_
            refine x_iadd (pc := 79) hc dX3_settleBets_79 ?_
            refine x_puti (pc := 80) hc (cfD (isR_of hb (by omega))) kcX1 3 (by decide) fl_X3_157 (by decide) rfl (by simp [fX1]) rfl dX3_settleBets_80 ?_
            refine x_G (gc_up (c := 35 + k) (by omega) (by omega)) ?_
            refine x_fn (fun z => GC G b z) (fun g4 eg4 => ?_)
            refine x_goto (pc := 83) hc dX3_settleBets_83 97 (by decide) ?_
            refine x_aload (pc := 97) hc dX3_settleBets_97 1 rfl ?_
            refine x_callVv (pc := 99) hc cl_X3_163 (cfD (isR_of hb (by omega))) kcX1 [] (m_X1_dropBet hI (kl K) (GC G b g4) (b + (35 + k)) (isR_of hb (by omega))) rfl rfl (by simp [Value.category]) rfl rfl ⟨by decide, by decide⟩ dX3_settleBets_99 (fun Gc99_1 q99_1 => ?_)
            rw [q99_1]
            rw [gc_up (c := 35 + k) (by omega) (by omega), gc_up (c := 35 + k) (by omega) (by omega)]
            refine x_iinc (pc := 102) (L' := [(3, .int (nI (k + 1))), (5, .int x36), (4, .ref (w.2.2 (b + (35 + k)))), (0, .ref (w.2.2 b)), (1, .int z), (2, .int t)]) hc dX3_settleBets_102 2 rfl (nI (k + 1)) (nI_1 _) (by decide) rfl ?_
            refine x_goto (pc := 105) hc dX3_settleBets_105 2 (by decide) ?_
            refine x_loc [0, 3, 4, 5] rfl ?_
            have z8 := ih (k + 1) (by omega) (by omega)
            have e3 : cSets g z t (k + 1) = (up2 (up2 g4 (35 + k) 1 0) (35 + k) 2 0) := by
              subst ex36
              subst eg1
              subst eg2
              subst eg4
              show cSet (cSets g z t k) k z t = _
              unfold cSet
              rw [if_neg c20]
              unfold cSetB
              rw [if_pos (Int32.not_le.mp c69)]
              rfl
            rw [e3] at z8
            exact z8
  refine x_loc [0, 1, 2, 3] rfl ?_
  exact loop2 5 0 (by omega) (by omega)
