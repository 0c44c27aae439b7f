theorem up1_up1 (G : GS) (k : Nat) (r r' : Nat → Int32) : up1 (up1 G k r) k r' = up1 G k r' := by
  funext q
  unfold up1
  split <;> rfl
theorem up1_self (G : GS) (k : Nat) : up1 G k (G k) = G := by
  funext q
  unfold up1
  split
  · rename_i h; rw [h]
  · rfl
theorem up2_up1 (G : GS) (k i : Nat) (r : Nat → Int32) (v : Int32) : up2 (up1 G k r) k i v = up1 G k (upd r i v) := by
  rw [up2_1, up1_s, up1_up1]
/-- a row that is being written from its beginning on -/
def cpRow (src dst : Nat → Int32) (a n : Nat) : Nat → Int32 := fun j => if a ≤ j ∧ j < a + n then src (j - a) else dst j
theorem cpRow_0 (src dst : Nat → Int32) (a : Nat) : cpRow src dst a 0 = dst := by
  funext j
  unfold cpRow
  rw [if_neg (by omega)]
theorem cpRow_up (src dst : Nat → Int32) (a n : Nat) : upd (cpRow src dst a n) (a + n) (src n) = cpRow src dst a (n + 1) := by
  funext j
  unfold upd cpRow
  by_cases h : j = a + n
  · rw [if_pos h, if_pos (by omega), show j - a = n by omega]
  · rw [if_neg h]
    by_cases h2 : a ≤ j ∧ j < a + n
    · rw [if_pos h2, if_pos (by omega)]
    · rw [if_neg h2, if_neg (by omega)]
def shRow (p : Nat → Int32) (n : Nat) : Nat → Int32 := fun j => if j < n then p (j + 354) else p j
theorem shRow_up (p : Nat → Int32) (n : Nat) : upd (shRow p n) n (p (354 + n)) = shRow p (n + 1) := by
  funext j
  unfold upd shRow
  by_cases h : j = n
  · rw [if_pos h, if_pos (by omega), show j + 354 = 354 + n by omega]
  · rw [if_neg h]
    by_cases h2 : j < n
    · rw [if_pos h2, if_pos (by omega)]
    · rw [if_neg h2, if_neg (by omega)]
/-- what remembering leaves -/
def remT (G : GS) (m : Nat) : GS := up2 (up1 G 241 (cpRow (G 240) (G 241) (354 * m) 354)) 239 2 (nI (m + 1))
def remG (G : GS) (n : Nat) : GS := if n = 4 then remT (up2 (up1 G 241 (shRow (G 241) 1062)) 239 2 (nI 3)) 3 else remT G n
set_option maxHeartbeats 4000000 in
set_option maxRecDepth 100000 in
theorem rem_tail {w : WT} (hI : xI w) {K : KT} (G : GS) (m : Nat) (hm : m ≤ 3) (h2 : G 239 2 = nI m) (hc : CX w K cX6_remembers 2 yX6_remembers.cls ⟨0, 0, 0, 0⟩) (hret : ∀ (pc : Nat) (G' : GS) (L : List (Nat × Value)), decode cX6_remembers pc = .ok (.return_, 1) → (fun G' => G' = remT G m) G' → XX w K 2 G' pc L []) : XX w K 2 G 49 [(0, .ref (w.2.2 239))] [] := by
  refine x_iconst (v := 0) (pc := 49) hc dX6_remembers_49 (by decide) ?_
  refine x_istore_n (pc := 50) (L' := [(1, .int 0), (0, .ref (w.2.2 239))]) hc dX6_remembers_50 (by decide) rfl ?_
  have loop51 : ∀ (n1 : Nat) (k : Nat), k ≤ 354 → 354 < k + n1 → XX w K 2 ((up1 G 241 (cpRow (G 240) (G 241) (354 * m) k))) 51 [(1, .int (nI k)), (0, .ref (w.2.2 239))] [] := by
    intro n1
    induction n1 with
    | zero => intro k hk hf; omega
    | succ n1 ih =>
      intro k hk hf
      refine x_iload_n (pc := 51) hc dX6_remembers_51 0 rfl ?_
      refine x_sipush (v := 354) (pc := 52) hc dX6_remembers_52 (by decide) ?_
      refine x_icmp_ge (pc := 55) hc dX6_remembers_55 85 (by decide) (fun c55 => ?_) (fun c55 => ?_)
      · have c55 : 354 ≤ k := (nI_leI (a := 354) (b := k) (by omega) (by omega)).mp c55
        refine x_aload_n (pc := 85) hc dX6_remembers_85 1 rfl ?_
        refine x_dupr (pc := 86) hc dX6_remembers_86 ?_
        refine x_get (pc := 87) hc cfR kcX6 2 (by decide) fl_X6_33 rfl dX6_remembers_87 ?_
        refine x_as (nI m) h2 ?_
        refine x_iconst (v := 1) (pc := 90) hc dX6_remembers_90 (by decide) ?_
        refine x_iadd (pc := 91) hc dX6_remembers_91 ?_
        refine x_as (nI (m + 1)) (nI_add _ _) ?_
        refine x_puti (pc := 92) hc cfR kcX6 2 (by decide) fl_X6_33 (by decide) rfl (by simp [fX6]) rfl dX6_remembers_92 ?_
        refine x_Gn (fun G1 eG1 => ?_)
        exact hret _ _ _ dX6_remembers_95 (by rw [eG1, show k = 354 by omega]; rfl)
      · have c55 : ¬ 354 ≤ k := fun h9 => c55 ((nI_leI (a := 354) (b := k) (by omega) (by omega)).mpr h9)
        refine x_aload_n (pc := 58) hc dX6_remembers_58 1 rfl ?_
        refine x_get (pc := 59) hc cfR kcX6 1 (by decide) fl_X6_13 rfl dX6_remembers_59 ?_
        refine x_sipush (v := 354) (pc := 62) hc dX6_remembers_62 (by decide) ?_
        refine x_aload_n (pc := 65) hc dX6_remembers_65 1 rfl ?_
        refine x_get (pc := 66) hc cfR kcX6 2 (by decide) fl_X6_33 rfl dX6_remembers_66 ?_
        refine x_as (nI m) h2 ?_
        refine x_imul (pc := 69) hc dX6_remembers_69 ?_
        refine x_as (nI (354 * m)) (pk_mul _ _) ?_
        refine x_iload_n (pc := 70) hc dX6_remembers_70 0 rfl ?_
        refine x_iadd (pc := 71) hc dX6_remembers_71 ?_
        refine x_as (nI (354 * m + k)) (nI_add _ _) ?_
        refine x_aload_n (pc := 72) hc dX6_remembers_72 1 rfl ?_
        refine x_get (pc := 73) hc cfR kcX6 0 (by decide) fl_X6_7 rfl dX6_remembers_73 ?_
        refine x_iload_n (pc := 76) hc dX6_remembers_76 0 rfl ?_
        refine x_iald (pc := 77) hc af0 (vp_in_nI (by omega) (by decide)) dX6_remembers_77 ?_
        refine x_as ((up1 G 241 (cpRow (G 240) (G 241) (354 * m) k)) 240 k) (congrArg _ (nI_clamp (by omega))) ?_
        refine x_as (G 240 k) rfl ?_
        refine x_iast (pc := 78) hc af1 (vp_in_nI (by omega) (by decide)) dX6_remembers_78 ?_
        refine x_G (congrArg (fun q => up2 ((up1 G 241 (cpRow (G 240) (G 241) (354 * m) k))) 241 q (G 240 k)) (nI_clamp (by omega))) ?_
        refine x_Gn (fun G2 eG2 => ?_)
        refine x_iinc (pc := 79) (L' := [(1, .int (nI (k + 1))), (0, .ref (w.2.2 239))]) hc dX6_remembers_79 0 rfl (nI (k + 1)) (nI_1 _) (by decide) rfl ?_
        refine x_goto (pc := 82) hc dX6_remembers_82 51 (by decide) ?_
        refine x_loc [0, 1] rfl ?_
        rw [eG2, up2_up1]
        have z9 := cpRow_up (G 240) (G 241) (354 * m) k
        have z8 := ih (k + 1) (by omega) (by omega)
        rw [← z9] at z8
        exact z8
  refine x_loc [0, 1] rfl ?_
  have z9 := cpRow_0 (G 240) (G 241) (354 * m)
  have z8 := loop51 355 0 (by omega) (by omega)
  rw [z9, up1_self] at z8
  exact z8
set_option maxHeartbeats 4000000 in
set_option maxRecDepth 100000 in
theorem m_X6_remembers {w : WT} (hI : xI w) (l : Launch) (G : GS) (n : Nat) (hn : n ≤ 4) (h2 : G 239 2 = nI n) : Mv w l yX6_remembers cX6_remembers 2 ⟨0, 0, 0, 0⟩ [.ref (w.2.2 239)] G (fun G' => G' = remG G n) := by
  refine mk_v (L0 := [(0, .ref (w.2.2 239))]) hI (by decide +kernel) rfl (Nat.le_of_ble_eq_true rfl) (fun K hc hret => ?_)
  refine x_aload_n (pc := 0) hc dX6_remembers_0 0 rfl ?_
  refine x_get (pc := 1) hc cfR kcX6 2 (by decide) fl_X6_33 rfl dX6_remembers_1 ?_
  refine x_as (nI n) h2 ?_
  refine x_iconst (v := 4) (pc := 4) hc dX6_remembers_4 (by decide) ?_
  refine x_icmp_ne (pc := 5) hc dX6_remembers_5 49 (by decide) (fun c5 => ?_) (fun c5 => ?_)
  · have c5 : ¬ n = 4 := fun h9 => c5 ((nI_eq (a := n) (b := 4) (by omega) (by omega)).mpr h9)
    refine x_loc [0] rfl ?_
    exact rem_tail hI G n (by omega) h2 hc (fun pc G' L hd hp => hret pc G' L hd (by rw [hp]; unfold remG; rw [if_neg c5]))
  · have c5 : n = 4 := (nI_eq (a := n) (b := 4) (by omega) (by omega)).mp c5
    have hn4 := c5
    refine x_iconst (v := 0) (pc := 8) hc dX6_remembers_8 (by decide) ?_
    refine x_istore_n (pc := 9) (L' := [(1, .int 0), (0, .ref (w.2.2 239))]) hc dX6_remembers_9 (by decide) rfl ?_
    have loop10 : ∀ (n1 : Nat) (k : Nat), k ≤ 1062 → 1062 < k + n1 → XX w K 2 ((up1 G 241 (shRow (G 241) k))) 10 [(1, .int (nI k)), (0, .ref (w.2.2 239))] [] := by
      intro n1
      induction n1 with
      | zero => intro k hk hf; omega
      | succ n1 ih =>
        intro k hk hf
        refine x_iload_n (pc := 10) hc dX6_remembers_10 0 rfl ?_
        refine x_sipush (v := 1062) (pc := 11) hc dX6_remembers_11 (by decide) ?_
        refine x_icmp_ge (pc := 14) hc dX6_remembers_14 39 (by decide) (fun c14 => ?_) (fun c14 => ?_)
        · have c14 : 1062 ≤ k := (nI_leI (a := 1062) (b := k) (by omega) (by omega)).mp c14
          refine x_aload_n (pc := 39) hc dX6_remembers_39 1 rfl ?_
          refine x_dupr (pc := 40) hc dX6_remembers_40 ?_
          refine x_get (pc := 41) hc cfR kcX6 2 (by decide) fl_X6_33 rfl dX6_remembers_41 ?_
          refine x_as 4 (show up1 G 241 _ 239 2 = _ from by rw [hn4] at h2; exact h2) ?_
          refine x_iconst (v := 1) (pc := 44) hc dX6_remembers_44 (by decide) ?_
          refine x_isub (pc := 45) hc dX6_remembers_45 ?_
          refine x_as 3 (by decide) ?_
          refine x_puti (pc := 46) hc cfR kcX6 2 (by decide) fl_X6_33 (by decide) rfl (by simp [fX6]) rfl dX6_remembers_46 ?_
          refine x_Gn (fun G1 eG1 => ?_)
          refine x_loc [1] rfl ?_
          exact rem_tail hI G1 3 (by omega) (by rw [eG1]; exact up2_s _ _ _ _) hc (fun pc G' L hd hp => hret pc G' L hd (by rw [hp]; unfold remG; rw [if_pos hn4, eG1, show k = 1062 by omega]; rfl))
        · have c14 : ¬ 1062 ≤ k := fun h9 => c14 ((nI_leI (a := 1062) (b := k) (by omega) (by omega)).mpr h9)
          refine x_aload_n (pc := 17) hc dX6_remembers_17 1 rfl ?_
          refine x_get (pc := 18) hc cfR kcX6 1 (by decide) fl_X6_13 rfl dX6_remembers_18 ?_
          refine x_iload_n (pc := 21) hc dX6_remembers_21 0 rfl ?_
          refine x_aload_n (pc := 22) hc dX6_remembers_22 1 rfl ?_
          refine x_get (pc := 23) hc cfR kcX6 1 (by decide) fl_X6_13 rfl dX6_remembers_23 ?_
          refine x_sipush (v := 354) (pc := 26) hc dX6_remembers_26 (by decide) ?_
          refine x_iload_n (pc := 29) hc dX6_remembers_29 0 rfl ?_
          refine x_iadd (pc := 30) hc dX6_remembers_30 ?_
          refine x_as (nI (354 + k)) (nI_add _ _) ?_
          refine x_iald (pc := 31) hc af1 (vp_in_nI (by omega) (by decide)) dX6_remembers_31 ?_
          refine x_as ((up1 G 241 (shRow (G 241) k)) 241 (354 + k)) (congrArg _ (nI_clamp (by omega))) ?_
          refine x_as (G 241 (354 + k)) (by show shRow (G 241) k (354 + k) = _; unfold shRow; exact if_neg (by omega)) ?_
          refine x_iast (pc := 32) hc af1 (vp_in_nI (by omega) (by decide)) dX6_remembers_32 ?_
          refine x_G (congrArg (fun q => up2 ((up1 G 241 (shRow (G 241) k))) 241 q (G 241 (354 + k))) (nI_clamp (by omega))) ?_
          refine x_Gn (fun G2 eG2 => ?_)
          refine x_iinc (pc := 33) (L' := [(1, .int (nI (k + 1))), (0, .ref (w.2.2 239))]) hc dX6_remembers_33 0 rfl (nI (k + 1)) (nI_1 _) (by decide) rfl ?_
          refine x_goto (pc := 36) hc dX6_remembers_36 10 (by decide) ?_
          refine x_loc [0, 1] rfl ?_
          rw [eG2, up2_up1]
          have z8 := ih (k + 1) (by omega) (by omega)
          rw [← shRow_up] at z8
          exact z8
    refine x_loc [0, 1] rfl ?_
    have z8 := loop10 1063 0 (by omega) (by omega)
    have z9 : shRow (G 241) 0 = G 241 := rfl
    rw [z9, up1_self] at z8
    exact z8
set_option maxHeartbeats 4000000 in
set_option maxRecDepth 100000 in
theorem m_X6_copies {w : WT} (hI : xI w) (l : Launch) (G : GS)  : Mv w l yX6_copies cX6_copies 2 ⟨0, 0, 0, 0⟩ [.ref (w.2.2 239)] G (fun G' => G' = up1 G 240 (cpRow (G 240) (G 240) 354 354)) := by
  refine mk_v (L0 := [(0, .ref (w.2.2 239))]) hI (by decide +kernel) rfl (Nat.le_of_ble_eq_true rfl) (fun K hc hret => ?_)
  refine x_iconst (v := 0) (pc := 0) hc dX6_copies_0 (by decide) ?_
  refine x_istore_n (pc := 1) (L' := [(1, .int 0), (0, .ref (w.2.2 239))]) hc dX6_copies_1 (by decide) rfl ?_
  have loop2 : ∀ (n1 : Nat) (k : Nat), k ≤ 354 → 354 < k + n1 → XX w K 2 ((up1 G 240 (cpRow (G 240) (G 240) 354 k))) 2 [(1, .int (nI k)), (0, .ref (w.2.2 239))] [] := by
    intro n1
    induction n1 with
    | zero => intro k hk hf; omega
    | succ n1 ih =>
      intro k hk hf
      refine x_iload_n (pc := 2) hc dX6_copies_2 0 rfl ?_
      refine x_sipush (v := 354) (pc := 3) hc dX6_copies_3 (by decide) ?_
      refine x_icmp_ge (pc := 6) hc dX6_copies_6 31 (by decide) (fun c6 => ?_) (fun c6 => ?_)
      · have c6 : 354 ≤ k := (nI_leI (a := 354) (b := k) (by omega) (by omega)).mp c6
        exact hret _ _ _ dX6_copies_31 (by rw [show k = 354 by omega])
      · have c6 : ¬ 354 ≤ k := fun h9 => c6 ((nI_leI (a := 354) (b := k) (by omega) (by omega)).mpr h9)
        refine x_aload_n (pc := 9) hc dX6_copies_9 1 rfl ?_
        refine x_get (pc := 10) hc cfR kcX6 0 (by decide) fl_X6_7 rfl dX6_copies_10 ?_
        refine x_sipush (v := 354) (pc := 13) hc dX6_copies_13 (by decide) ?_
        refine x_iload_n (pc := 16) hc dX6_copies_16 0 rfl ?_
        refine x_iadd (pc := 17) hc dX6_copies_17 ?_
        refine x_as (nI (354 + k)) (nI_add _ _) ?_
        refine x_aload_n (pc := 18) hc dX6_copies_18 1 rfl ?_
        refine x_get (pc := 19) hc cfR kcX6 0 (by decide) fl_X6_7 rfl dX6_copies_19 ?_
        refine x_iload_n (pc := 22) hc dX6_copies_22 0 rfl ?_
        refine x_iald (pc := 23) hc af0 (vp_in_nI (by omega) (by decide)) dX6_copies_23 ?_
        refine x_as ((up1 G 240 (cpRow (G 240) (G 240) 354 k)) 240 k) (congrArg _ (nI_clamp (by omega))) ?_
        refine x_as (G 240 k) (by show up1 G 240 _ 240 k = _; rw [up1_s]; unfold cpRow; exact if_neg (by omega)) ?_
        refine x_iast (pc := 24) hc af0 (vp_in_nI (by omega) (by decide)) dX6_copies_24 ?_
        refine x_G (congrArg (fun q => up2 ((up1 G 240 (cpRow (G 240) (G 240) 354 k))) 240 q (G 240 k)) (nI_clamp (by omega))) ?_
        refine x_Gn (fun G1 eG1 => ?_)
        refine x_iinc (pc := 25) (L' := [(1, .int (nI (k + 1))), (0, .ref (w.2.2 239))]) hc dX6_copies_25 0 rfl (nI (k + 1)) (nI_1 _) (by decide) rfl ?_
        refine x_goto (pc := 28) hc dX6_copies_28 2 (by decide) ?_
        refine x_loc [0, 1] rfl ?_
        rw [eG1, up2_up1]
        have z9 := cpRow_up (G 240) (G 240) 354 k
        have z8 := ih (k + 1) (by omega) (by omega)
        rw [← z9] at z8
        exact z8
  refine x_loc [0, 1] rfl ?_
  have z9 := cpRow_0 (G 240) (G 240) 354
  have z8 := loop2 355 0 (by omega) (by omega)
  rw [z9, up1_self] at z8
  exact z8
