/-! THE CLASS'S SIDE AND THE ABSTRACT STATE -/
def SB (a b c d e : Nat) : Prop := (isB a ∧ isB b ∧ isB c ∧ isB d ∧ isB e) ∧ (a ≠ b ∧ a ≠ c ∧ a ≠ d ∧ a ≠ e ∧ b ≠ c ∧ b ≠ d ∧ b ≠ e ∧ c ≠ d ∧ c ≠ e ∧ d ≠ e) ∧ (a ≠ 161 ∧ b ≠ 161 ∧ c ≠ 161 ∧ d ≠ 161 ∧ e ≠ 161)
theorem SB_rot {a b c d e : Nat} (h : SB a b c d e) : SB b c d a e := by
  obtain ⟨⟨h1, h2, h3, h4, h5⟩, h6, h7⟩ := h
  exact ⟨⟨h2, h3, h4, h1, h5⟩, by omega, by omega⟩
abbrev SBG (G : GS) : Prop := SB (stb (G 3 0)) (stb (G 3 1)) (stb (G 3 2)) (stb (G 3 3)) (stb (G 0 4))
theorem SB_i {G : GS} (h : SBG G) {i : Nat} (hi : i < 4) : isB (stb (G 3 i)) ∧ stb (G 3 i) ≠ 161 ∧ stb (G 3 i) ≠ stb (G 0 4) := by
  obtain ⟨⟨h1, h2, h3, h4, h5⟩, h6, h7⟩ := h
  rcases (show i = 0 ∨ i = 1 ∨ i = 2 ∨ i = 3 by omega) with rfl | rfl | rfl | rfl
  · exact ⟨h1, by omega, by omega⟩
  · exact ⟨h2, by omega, by omega⟩
  · exact ⟨h3, by omega, by omega⟩
  · exact ⟨h4, by omega, by omega⟩
theorem SB_ij {G : GS} (h : SBG G) {i j : Nat} (hi : i < 4) (hj : j < 4) (hij : i ≠ j) : stb (G 3 i) ≠ stb (G 3 j) := by
  obtain ⟨_, h6, _⟩ := h
  rcases (show i = 0 ∨ i = 1 ∨ i = 2 ∨ i = 3 by omega) with rfl | rfl | rfl | rfl <;> rcases (show j = 0 ∨ j = 1 ∨ j = 2 ∨ j = 3 by omega) with rfl | rfl | rfl | rfl <;> omega
def OB (G : GS) : Prop := ∀ b, isB b → ∀ k, k < 4 → G (b + (35 + k)) 2 = 0 ∨ G (b + (35 + k)) 2 = 1
/-- the class's part of the world is A -/
def RC (G : GS) (A : AT) : Prop := SBG G ∧ Sim (gv G (stb (G 0 4))) (aF A) ∧ G 0 5 = nI (aN A) ∧ (∀ i, i < aN A → Sim (gv G (stb (G 3 i))) (aH A i)) ∧ G 0 6 = aK A ∧ (aK A = 1 → Sim (gv G 161) (aS A)) ∧ (G 1 1 = nI (aL A) ∧ ∀ i, i < aL A → G 2 i = aT A i) ∧ OB G
def AZ (A : AT) : Prop := BZ (aF A) ∧ (∀ i, i < aN A → BZ (aH A i)) ∧ (aK A = 1 → BZ (aS A))
/-- behind a call of the class -/
def PCq (G G' : GS) (A : AT) : Prop := RC G' A ∧ ∀ q, 239 ≤ q → G' q = G q
theorem isB_161 : isB 161 := ⟨4, by omega, rfl⟩
theorem gv_eq {G G' : GS} {b : Nat} (h : ∀ q, b ≤ q → q < b + 39 → G' q = G q) : ∀ c i, c < 39 → relS c i → gv G' b c i = gv G b c i := fun c i hc _ => by
  show G' (b + c) i = G (b + c) i
  rw [h (b + c) (by omega) (by omega)]
theorem Sim_blk {G G' : GS} {b : Nat} {f : Nat → Int32} {B : Nat} (h : ∀ q, b ≤ q → q < b + 39 → G' q = G q) (hV : RV f B) (hS : Sim (gv G b) f) : Sim (gv G' b) f := Sim_congr (gv_eq h) hV.2.2.2.2.1.1 (by have := hV.1.1; omega) hS
/-- only the state of now has changed -/
theorem RC_put {G : GS} {A : AT} {B B' : Nat} {g : GS} {f : Nat → Int32} (hR : RC G A) (hV : AV A B) (hV' : RV f B') (hg : Sim g f) : RC (GC G (stb (G 0 4)) g) (aPut A f) := by
  obtain ⟨h1, h2, h3, h4, h5, h6, h7, h8⟩ := hR
  have hb := h1.1.2.2.2.2
  have hl := isB_lt hb
  have hlow : ∀ q, q < 5 → GC G (stb (G 0 4)) g q = G q := fun q hq => gc_out _ _ _ (by omega)
  have hoth : ∀ b, isB b → b ≠ stb (G 0 4) → ∀ q, b ≤ q → q < b + 39 → GC G (stb (G 0 4)) g q = G q := fun b hb2 hne q u v => gc_out _ _ _ (by have := isB_ap hb2 hb hne; omega)
  have e0 : GC G (stb (G 0 4)) g 0 = G 0 := hlow 0 (by omega)
  have e3 : GC G (stb (G 0 4)) g 3 = G 3 := hlow 3 (by omega)
  refine ⟨?_, ?_, ?_, fun i hi => ?_, ?_, fun hk => ?_, ⟨?_, fun i hi => ?_⟩, fun b hb2 k hk => ?_⟩
  · show SB (stb (GC G (stb (G 0 4)) g 3 0)) _ _ _ _
    rw [e3, e0]; exact h1
  · rw [e0]
    exact Sim_congr (fun c i hc _ => by rw [gv_gc _ _ _ hc]) hV'.2.2.2.2.1.1 (Nat.le_of_lt hV'.1.1) hg
  · rw [e0]; exact h3
  · have hi4 : i < 4 := by have := hV.1; show i < 4; have h9 : i < aN A := hi; omega
    have hs := SB_i h1 hi4
    rw [e3]
    exact Sim_blk (hoth _ hs.1 hs.2.2) (hV.2.2.1 i hi) (h4 i hi)
  · rw [e0]; exact h5
  · exact Sim_blk (hoth 161 isB_161 (fun z => h1.2.2.2.2.2.2 z.symm)) (hV.2.2.2.2.1 hk) (h6 hk)
  · rw [hlow 1 (by omega)]; exact h7.1
  · rw [hlow 2 (by omega)]; exact h7.2 i hi
  · by_cases e : b = stb (G 0 4)
    · rw [e, gc_in _ _ _ rfl (by omega)]
      obtain ⟨x, _, _, hx⟩ := hV'.2.2.2.2.2 k hk
      rw [hg.2.2.2.1 k hk 2 (by omega)]
      exact hx
    · rw [hoth b hb2 e _ (by omega) (by omega)]
      exact h8 b hb2 k hk
theorem AV_rem {A : AT} {B : Nat} (hV : AV A B) : AV (aRem A) B := by
  obtain ⟨v1, v2, v3, v4, v5, v6⟩ := hV
  refine ⟨?_, v2, fun i hi => ?_, v4, v5, v6⟩
  · show (if aN A = 4 then 3 else aN A) + 1 ≤ 4
    split <;> omega
  · have hi2 : i < (if aN A = 4 then 3 else aN A) + 1 := hi
    show RV (if i = (if aN A = 4 then 3 else aN A) then aF A else if aN A = 4 then aH A (i + 1) else aH A i) B
    by_cases e : i = (if aN A = 4 then 3 else aN A)
    · rw [if_pos e]; exact v2
    · rw [if_neg e]
      by_cases h4 : aN A = 4
      · rw [if_pos h4]; rw [if_pos h4] at hi2 e; exact v3 _ (by omega)
      · rw [if_neg h4]; rw [if_neg h4] at hi2 e; exact v3 _ (by omega)
theorem AZ_rem {A : AT} (hV : AZ A) : AZ (aRem A) := by
  obtain ⟨v2, v3, v4⟩ := hV
  refine ⟨v2, fun i hi => ?_, v4⟩
  have hi2 : i < (if aN A = 4 then 3 else aN A) + 1 := hi
  show BZ (if i = (if aN A = 4 then 3 else aN A) then aF A else if aN A = 4 then aH A (i + 1) else aH A i)
  by_cases e : i = (if aN A = 4 then 3 else aN A)
  · rw [if_pos e]; exact v2
  · rw [if_neg e]
    by_cases h4 : aN A = 4
    · rw [if_pos h4]; rw [if_pos h4] at hi2 e; exact v3 _ (by omega)
    · rw [if_neg h4]; rw [if_neg h4] at hi2 e; exact v3 _ (by omega)
theorem RC_rem {G G5 Gc : GS} {A : AT} {B m : Nat} (hR : RC G A) (hV : AV A B) (hm : m = if aN A = 4 then 3 else aN A) (hk : ∀ q, q ≠ 0 → q ≠ 3 → G5 q = G q) (h04 : G5 0 4 = G 0 4) (h06 : G5 0 6 = G 0 6)
    (h03 : (aN A = 4 ∧ G5 3 0 = G 3 1 ∧ G5 3 1 = G 3 2 ∧ G5 3 2 = G 3 3 ∧ G5 3 3 = G 3 0) ∨ (aN A ≠ 4 ∧ G5 3 = G 3)) (hc : cpI G5 Gc (stb (G5 3 m)) (stb (G 0 4)) relS) :
    RC (up2 Gc 0 5 (nI (m + 1))) (aRem A) ∧ (∀ q, 239 ≤ q → up2 Gc 0 5 (nI (m + 1)) q = G q) ∧ (up2 Gc 0 5 (nI (m + 1)) 0 4 = G 0 4) ∧ ∀ q, stb (G 0 4) ≤ q → q < stb (G 0 4) + 39 → up2 Gc 0 5 (nI (m + 1)) q = G q := by
  obtain ⟨h1, h2, h3, h4, h5, h6, h7, h8⟩ := hR
  have hn4 := hV.1
  have hm4 : m < 4 := by rw [hm]; split <;> omega
  have hb := h1.1.2.2.2.2
  have hSB : SBG G5 := by
    show SB (stb (G5 3 0)) (stb (G5 3 1)) (stb (G5 3 2)) (stb (G5 3 3)) (stb (G5 0 4))
    rcases h03 with ⟨_, q0, q1, q2, q3⟩ | ⟨_, q⟩
    · rw [q0, q1, q2, q3, h04]; exact SB_rot h1
    · rw [q, h04]; exact h1
  have hmB := SB_i hSB hm4
  have hlt := isB_lt hmB.1
  rw [h04] at hmB
  have hlo : ∀ q, q < 5 → Gc q = G5 q := fun q hq => hc.2 q (by omega)
  have hap := isB_ap hmB.1 hb hmB.2.2
  have hlb := isB_lt hb
  have hG : ∀ q, q ≠ 0 → up2 Gc 0 5 (nI (m + 1)) q = Gc q := fun q hq => up2_r _ _ _ hq
  have e3 : up2 Gc 0 5 (nI (m + 1)) 3 = G5 3 := by rw [hG 3 (by omega), hlo 3 (by omega)]
  have e04 : up2 Gc 0 5 (nI (m + 1)) 0 4 = G 0 4 := by rw [up2_i _ _ _ _ (by omega), hlo 0 (by omega), h04]
  have hoth : ∀ b, isB b → b ≠ stb (G5 3 m) → ∀ q, b ≤ q → q < b + 39 → up2 Gc 0 5 (nI (m + 1)) q = G q := fun b hb2 hne q u v => by
    have := isB_ap hb2 hmB.1 hne
    have := isB_lt hb2
    rw [hG q (by omega), hc.2 q (by omega), hk q (by omega) (by omega)]
  refine ⟨⟨?_, ?_, ?_, fun i hi => ?_, ?_, fun hk9 => ?_, ⟨?_, fun i hi => ?_⟩, fun b hb2 k hk9 => ?_⟩, fun q hq => ?_, e04, fun q u v => hoth _ hb (fun z => hmB.2.2 z.symm) q u v⟩
  · show SB (stb (up2 Gc 0 5 (nI (m + 1)) 3 0)) (stb (up2 Gc 0 5 (nI (m + 1)) 3 1)) (stb (up2 Gc 0 5 (nI (m + 1)) 3 2)) (stb (up2 Gc 0 5 (nI (m + 1)) 3 3)) (stb (up2 Gc 0 5 (nI (m + 1)) 0 4))
    rw [e3, e04, ← h04]; exact hSB
  · rw [e04]
    exact Sim_blk (hoth _ hb (fun z => hmB.2.2 z.symm)) hV.2.1 h2
  · rw [up2_s]
    show nI (m + 1) = nI ((if aN A = 4 then 3 else aN A) + 1)
    rw [hm]
  · have hi2 : i < m + 1 := by rw [hm]; exact hi
    rw [e3]
    have ea : aH (aRem A) i = if i = m then aF A else if aN A = 4 then aH A (i + 1) else aH A i := by rw [hm]; rfl
    rw [ea]
    by_cases e : i = m
    · rw [if_pos e, e]
      refine Sim_congr (g := gv G (stb (G 0 4))) (fun c j hcl hr => ?_) hV.2.1.2.2.2.2.1.1 (by have := hV.2.1.1.1; omega) h2
      show up2 Gc 0 5 (nI (m + 1)) (stb (G5 3 m) + c) j = G (stb (G 0 4) + c) j
      rw [hG _ (by omega), hc.1 c j hcl hr, hk _ (by omega) (by omega)]
    · rw [if_neg e]
      have hne := SB_ij hSB (i := i) (j := m) (by omega) hm4 e
      have hiB := SB_i hSB (i := i) (by omega)
      rcases h03 with ⟨q4, q0, q1, q2, q3⟩ | ⟨q4, q⟩
      · rw [if_pos q4]
        rw [if_pos q4] at hm
        have hs : stb (G5 3 i) = stb (G 3 (i + 1)) := by
          rcases (show i = 0 ∨ i = 1 ∨ i = 2 by omega) with rfl | rfl | rfl
          · rw [q0]
          · rw [q1]
          · rw [q2]
        have hS := h4 (i + 1) (by omega)
        rw [← hs] at hS
        exact Sim_blk (hoth _ hiB.1 hne) (hV.2.2.1 (i + 1) (by omega)) hS
      · rw [if_neg q4]
        rw [if_neg q4] at hm
        have hS := h4 i (by omega)
        rw [← q] at hS
        exact Sim_blk (hoth _ hiB.1 hne) (hV.2.2.1 i (by omega)) hS
  · rw [up2_i _ _ _ _ (by omega), hlo 0 (by omega), h06]; exact h5
  · exact Sim_blk (hoth 161 isB_161 (fun z => hmB.2.1 z.symm)) (hV.2.2.2.2.1 hk9) (h6 hk9)
  · rw [hG 1 (by omega), hlo 1 (by omega), hk 1 (by omega) (by omega)]; exact h7.1
  · rw [hG 2 (by omega), hlo 2 (by omega), hk 2 (by omega) (by omega)]; exact h7.2 i hi
  · by_cases e : b = stb (G5 3 m)
    · rw [e, hG _ (by omega), hc.1 (35 + k) 2 (by omega) (by unfold relS; omega), hk _ (by omega) (by omega)]
      exact h8 _ hb k hk9
    · rw [hoth b hb2 e _ (by omega) (by omega)]
      exact h8 b hb2 k hk9
  · rw [hG q (by omega), hc.2 q (by omega), hk q (by omega) (by omega)]
set_option maxHeartbeats 4000000 in
set_option maxRecDepth 100000 in
theorem m_X5_remember {w : WT} (hI : xI w) (l : Launch) (G : GS) (A : AT) (B : Nat) (hR : RC G A) (hV : AV A B) : Mv w l yX5_remember cX5_remember 3 ⟨3, 0, 0, 73⟩ [.ref (w.2.2 0)] G (fun G' => RC G' (aRem A) ∧ (∀ q, 239 ≤ q → G' q = G q) ∧ G' 0 4 = G 0 4 ∧ ∀ q, stb (G 0 4) ≤ q → q < stb (G 0 4) + 39 → G' q = G q) := by
  refine mk_v (L0 := [(0, .ref (w.2.2 0))]) hI (by decide +kernel) rfl (Nat.le_of_ble_eq_true rfl) (fun K hc hret => ?_)
  have hn4 := hV.1
  obtain ⟨h1, h2, h3, h4, h5, h6, h7, h8⟩ := id hR
  have hb := h1.1.2.2.2.2
  have hlb := isB_lt hb
  refine x_aload_n (pc := 0) hc dX5_remember_0 0 rfl ?_
  refine x_get (pc := 1) hc cfM kcX5 5 (by decide) fl_X5_34 rfl dX5_remember_1 ?_
  refine x_as (nI (aN A)) h3 ?_
  refine x_iconst (v := 4) (pc := 4) hc dX5_remember_4 (by decide) ?_
  refine x_icmp_ne (pc := 5) hc dX5_remember_5 59 (by decide) (fun c5 => ?_) (fun c5 => ?_)
  · have c5 : ¬ aN A = 4 := fun h9 => c5 ((nI_eq (a := aN A) (b := 4) (by omega) (by omega)).mpr h9)
    have h9 := c5
    refine x_aload_n (pc := 59) hc dX5_remember_59 0 rfl ?_
    refine x_get (pc := 60) hc cfM kcX5 1 (by decide) fl_X5_18 rfl dX5_remember_60 ?_
    refine x_aload_n (pc := 63) hc dX5_remember_63 0 rfl ?_
    refine x_get (pc := 64) hc cfM kcX5 5 (by decide) fl_X5_34 rfl dX5_remember_64 ?_
    refine x_as (nI (aN A)) h3 ?_
    refine x_aald (pc := 67) hc rfH rfl (vp_in_nI (by omega) (by decide)) (stb (G 3 (aN A))) (by rw [nI_clamp (by omega)]) dX5_remember_67 ?_
    refine x_aload_n (pc := 68) hc dX5_remember_68 0 rfl ?_
    refine x_get (pc := 69) hc cfM kcX5 4 (by decide) fl_X5_31 rfl dX5_remember_69 ?_
    refine x_ar (stb (G 0 4)) rfl ?_
    refine x_callVv (pc := 72) hc cl_X5_148 (cfS (SB_i h1 (i := aN A) (by omega)).1) kcX3 [.ref (w.2.2 ((stb (G 0 4))))] (m_X3_copyFrom hI (kl K) G (stb (G 3 (aN A))) (stb (G 0 4)) (SB_i h1 (i := aN A) (by omega)).1 hb (SB_i h1 (by omega)).2.2 (fun k hk => h8 _ hb k hk)) rfl rfl (by simp [Value.category]) rfl rfl ⟨by decide, by decide⟩ dX5_remember_72 (fun Gc72 q72 => ?_)
    refine x_aload_n (pc := 75) hc dX5_remember_75 0 rfl ?_
    refine x_dupr (pc := 76) hc dX5_remember_76 ?_
    refine x_get (pc := 77) hc cfM kcX5 5 (by decide) fl_X5_34 rfl dX5_remember_77 ?_
    refine x_as (nI (aN A)) (by rw [q72.2 0 (by have := isB_lt (SB_i h1 (i := aN A) (by omega)).1; omega)]; exact h3) ?_
    refine x_iconst (v := 1) (pc := 80) hc dX5_remember_80 (by decide) ?_
    refine x_iadd (pc := 81) hc dX5_remember_81 ?_
    refine x_as (nI (aN A + 1)) (nI_add _ _) ?_
    refine x_puti (pc := 82) hc cfM kcX5 5 (by decide) fl_X5_34 (by decide) rfl (by simp [fX5]) rfl dX5_remember_82 ?_
    refine x_Gn (fun G1 eG1 => ?_)
    exact hret _ _ _ dX5_remember_85 (by rw [eG1]; exact RC_rem (G5 := G) (m := aN A) hR hV (by rw [if_neg h9]) (fun q _ _ => rfl) rfl rfl (Or.inr ⟨h9, rfl⟩) q72)
  · have c5 : aN A = 4 := (nI_eq (a := aN A) (b := 4) (by omega) (by omega)).mp c5
    have h9 := c5
    refine x_aload_n (pc := 8) hc dX5_remember_8 0 rfl ?_
    refine x_get (pc := 9) hc cfM kcX5 1 (by decide) fl_X5_18 rfl dX5_remember_9 ?_
    refine x_iconst (v := 0) (pc := 12) hc dX5_remember_12 (by decide) ?_
    refine x_as (nI 0) rfl ?_
    refine x_aald (pc := 13) hc rfH rfl (vp_in_nI (by omega) (by decide)) (stb (G 3 0)) (by rw [nI_clamp (by omega)]) dX5_remember_13 ?_
    refine x_astore_n (pc := 14) (L' := [(1, .ref (w.2.2 (stb (G 3 0)))), (0, .ref (w.2.2 0))]) hc dX5_remember_14 (by decide) rfl ?_
    refine x_iconst (v := 1) (pc := 15) hc dX5_remember_15 (by decide) ?_
    refine x_istore_n (pc := 16) (L' := [(2, .int 1), (1, .ref (w.2.2 (stb (G 3 0)))), (0, .ref (w.2.2 0))]) hc dX5_remember_16 (by decide) rfl ?_
    refine x_iload_n (pc := 17) hc dX5_remember_17 0 rfl ?_
    refine x_iconst (v := 4) (pc := 18) hc dX5_remember_18 (by decide) ?_
    refine x_icmp_ge (pc := 19) hc dX5_remember_19 42 (by decide) (fun c19 => ?_) (fun c19 => ?_)
    · exact absurd c19 (by decide)
    · refine x_aload_n (pc := 22) hc dX5_remember_22 2 rfl ?_
      refine x_get (pc := 23) hc cfM kcX5 1 (by decide) fl_X5_18 rfl dX5_remember_23 ?_
      refine x_iload_n (pc := 26) hc dX5_remember_26 0 rfl ?_
      refine x_iconst (v := 1) (pc := 27) hc dX5_remember_27 (by decide) ?_
      refine x_isub (pc := 28) hc dX5_remember_28 ?_
      refine x_as 0 (by decide) ?_
      refine x_aload_n (pc := 29) hc dX5_remember_29 2 rfl ?_
      refine x_get (pc := 30) hc cfM kcX5 1 (by decide) fl_X5_18 rfl dX5_remember_30 ?_
      refine x_iload_n (pc := 33) hc dX5_remember_33 0 rfl ?_
      refine x_as (nI 1) rfl ?_
      refine x_aald (pc := 34) hc rfH rfl (vp_in_nI (by omega) (by decide)) (stb (G 3 1)) (by rw [nI_clamp (by omega)]) dX5_remember_34 ?_
      refine x_as2 (nI 0) rfl ?_
      refine x_hast (pc := 35) (x := G 3 1) hc (SB_i h1 (i := 1) (by omega)).1 rfl (vp_in_nI (by omega) (by decide)) dX5_remember_35 ?_
      refine x_G (congrArg (fun q => up2 G 3 q (G 3 1)) (nI_clamp (by omega))) ?_
      refine x_Gn (fun G2 eG2 => ?_)
      refine x_iinc (pc := 36) (L' := [(2, .int 2), (1, .ref (w.2.2 (stb (G 3 0)))), (0, .ref (w.2.2 0))]) hc dX5_remember_36 0 rfl 2 (by decide) (by decide) rfl ?_
      refine x_goto (pc := 39) hc dX5_remember_39 17 (by decide) ?_
      refine x_iload_n (pc := 17) hc dX5_remember_17 0 rfl ?_
      refine x_iconst (v := 4) (pc := 18) hc dX5_remember_18 (by decide) ?_
      refine x_icmp_ge (pc := 19) hc dX5_remember_19 42 (by decide) (fun c19_1 => ?_) (fun c19_1 => ?_)
      · exact absurd c19_1 (by decide)
      · refine x_aload_n (pc := 22) hc dX5_remember_22 2 rfl ?_
        refine x_get (pc := 23) hc cfM kcX5 1 (by decide) fl_X5_18 rfl dX5_remember_23 ?_
        refine x_iload_n (pc := 26) hc dX5_remember_26 0 rfl ?_
        refine x_iconst (v := 1) (pc := 27) hc dX5_remember_27 (by decide) ?_
        refine x_isub (pc := 28) hc dX5_remember_28 ?_
        refine x_as 1 (by decide) ?_
        refine x_aload_n (pc := 29) hc dX5_remember_29 2 rfl ?_
        refine x_get (pc := 30) hc cfM kcX5 1 (by decide) fl_X5_18 rfl dX5_remember_30 ?_
        refine x_iload_n (pc := 33) hc dX5_remember_33 0 rfl ?_
        refine x_as (nI 2) rfl ?_
        refine x_aald (pc := 34) hc rfH rfl (vp_in_nI (by omega) (by decide)) (stb (G 3 2)) (by rw [nI_clamp (by omega), eG2, up2_i _ _ _ _ (by omega)]) dX5_remember_34 ?_
        refine x_as2 (nI 1) rfl ?_
        refine x_hast (pc := 35) (x := G 3 2) hc (SB_i h1 (i := 2) (by omega)).1 rfl (vp_in_nI (by omega) (by decide)) dX5_remember_35 ?_
        refine x_G (congrArg (fun q => up2 G2 3 q (G 3 2)) (nI_clamp (by omega))) ?_
        refine x_Gn (fun G3 eG3 => ?_)
        refine x_iinc (pc := 36) (L' := [(2, .int 3), (1, .ref (w.2.2 (stb (G 3 0)))), (0, .ref (w.2.2 0))]) hc dX5_remember_36 0 rfl 3 (by decide) (by decide) rfl ?_
        refine x_goto (pc := 39) hc dX5_remember_39 17 (by decide) ?_
        refine x_iload_n (pc := 17) hc dX5_remember_17 0 rfl ?_
        refine x_iconst (v := 4) (pc := 18) hc dX5_remember_18 (by decide) ?_
        refine x_icmp_ge (pc := 19) hc dX5_remember_19 42 (by decide) (fun c19_2 => ?_) (fun c19_2 => ?_)
        · exact absurd c19_2 (by decide)
        · refine x_aload_n (pc := 22) hc dX5_remember_22 2 rfl ?_
          refine x_get (pc := 23) hc cfM kcX5 1 (by decide) fl_X5_18 rfl dX5_remember_23 ?_
          refine x_iload_n (pc := 26) hc dX5_remember_26 0 rfl ?_
          refine x_iconst (v := 1) (pc := 27) hc dX5_remember_27 (by decide) ?_
          refine x_isub (pc := 28) hc dX5_remember_28 ?_
          refine x_as 2 (by decide) ?_
          refine x_aload_n (pc := 29) hc dX5_remember_29 2 rfl ?_
          refine x_get (pc := 30) hc cfM kcX5 1 (by decide) fl_X5_18 rfl dX5_remember_30 ?_
          refine x_iload_n (pc := 33) hc dX5_remember_33 0 rfl ?_
          refine x_as (nI 3) rfl ?_
          refine x_aald (pc := 34) hc rfH rfl (vp_in_nI (by omega) (by decide)) (stb (G 3 3)) (by rw [nI_clamp (by omega), eG3, up2_i _ _ _ _ (by omega), eG2, up2_i _ _ _ _ (by omega)]) dX5_remember_34 ?_
          refine x_as2 (nI 2) rfl ?_
          refine x_hast (pc := 35) (x := G 3 3) hc (SB_i h1 (i := 3) (by omega)).1 rfl (vp_in_nI (by omega) (by decide)) dX5_remember_35 ?_
          refine x_G (congrArg (fun q => up2 G3 3 q (G 3 3)) (nI_clamp (by omega))) ?_
          refine x_Gn (fun G4 eG4 => ?_)
          refine x_iinc (pc := 36) (L' := [(2, .int 4), (1, .ref (w.2.2 (stb (G 3 0)))), (0, .ref (w.2.2 0))]) hc dX5_remember_36 0 rfl 4 (by decide) (by decide) rfl ?_
          refine x_goto (pc := 39) hc dX5_remember_39 17 (by decide) ?_
          refine x_iload_n (pc := 17) hc dX5_remember_17 0 rfl ?_
          refine x_iconst (v := 4) (pc := 18) hc dX5_remember_18 (by decide) ?_
          refine x_icmp_ge (pc := 19) hc dX5_remember_19 42 (by decide) (fun c19_3 => ?_) (fun c19_3 => ?_)
          · refine x_aload_n (pc := 42) hc dX5_remember_42 2 rfl ?_
            refine x_get (pc := 43) hc cfM kcX5 1 (by decide) fl_X5_18 rfl dX5_remember_43 ?_
            refine x_iconst (v := 3) (pc := 46) hc dX5_remember_46 (by decide) ?_
            refine x_aload_n (pc := 47) hc dX5_remember_47 1 rfl ?_
            refine x_as2 (nI 3) rfl ?_
            refine x_hast (pc := 48) (x := G 3 0) hc (SB_i h1 (i := 0) (by omega)).1 rfl (vp_in_nI (by omega) (by decide)) dX5_remember_48 ?_
            refine x_G (congrArg (fun q => up2 G4 3 q (G 3 0)) (nI_clamp (by omega))) ?_
            refine x_Gn (fun G5 eG5 => ?_)
            refine x_aload_n (pc := 49) hc dX5_remember_49 2 rfl ?_
            refine x_dupr (pc := 50) hc dX5_remember_50 ?_
            refine x_get (pc := 51) hc cfM kcX5 5 (by decide) fl_X5_34 rfl dX5_remember_51 ?_
            refine x_as 4 (by rw [eG5, up2_k _ _ _ _ (by omega), eG4, up2_k _ _ _ _ (by omega), eG3, up2_k _ _ _ _ (by omega), eG2, up2_k _ _ _ _ (by omega), h3, h9]; rfl) ?_
            refine x_iconst (v := 1) (pc := 54) hc dX5_remember_54 (by decide) ?_
            refine x_isub (pc := 55) hc dX5_remember_55 ?_
            refine x_as 3 (by decide) ?_
            refine x_puti (pc := 56) hc cfM kcX5 5 (by decide) fl_X5_34 (by decide) rfl (by simp [fX5]) rfl dX5_remember_56 ?_
            refine x_Gn (fun G6 eG6 => ?_)
            refine x_aload_n (pc := 59) hc dX5_remember_59 2 rfl ?_
            refine x_get (pc := 60) hc cfM kcX5 1 (by decide) fl_X5_18 rfl dX5_remember_60 ?_
            refine x_aload_n (pc := 63) hc dX5_remember_63 2 rfl ?_
            refine x_get (pc := 64) hc cfM kcX5 5 (by decide) fl_X5_34 rfl dX5_remember_64 ?_
            refine x_as 3 (by rw [eG6, up2_s]) ?_
            refine x_as (nI 3) rfl ?_
            refine x_aald (pc := 67) hc rfH rfl (vp_in_nI (by omega) (by decide)) (stb (G 3 0)) (by rw [nI_clamp (by omega), eG6, up2_k _ _ _ _ (by omega), eG5, up2_s]) dX5_remember_67 ?_
            refine x_aload_n (pc := 68) hc dX5_remember_68 2 rfl ?_
            refine x_get (pc := 69) hc cfM kcX5 4 (by decide) fl_X5_31 rfl dX5_remember_69 ?_
            refine x_ar (stb (G 0 4)) (by rw [eG6, up2_i _ _ _ _ (by omega), eG5, up2_k _ _ _ _ (by omega), eG4, up2_k _ _ _ _ (by omega), eG3, up2_k _ _ _ _ (by omega), eG2, up2_k _ _ _ _ (by omega)]) ?_
            refine x_callVv (pc := 72) hc cl_X5_148 (cfS (SB_i h1 (i := 0) (by omega)).1) kcX3 [.ref (w.2.2 ((stb (G 0 4))))] (m_X3_copyFrom hI (kl K) G6 (stb (G 3 0)) (stb (G 0 4)) (SB_i h1 (i := 0) (by omega)).1 hb (SB_i h1 (by omega)).2.2 (fun k hk => by rw [eG6, up2_r _ _ _ (by omega), eG5, up2_r _ _ _ (by omega), eG4, up2_r _ _ _ (by omega), eG3, up2_r _ _ _ (by omega), eG2, up2_r _ _ _ (by omega)]; exact h8 _ hb k hk)) rfl rfl (by simp [Value.category]) rfl rfl ⟨by decide, by decide⟩ dX5_remember_72 (fun Gc72_1 q72_1 => ?_)
            refine x_aload_n (pc := 75) hc dX5_remember_75 2 rfl ?_
            refine x_dupr (pc := 76) hc dX5_remember_76 ?_
            refine x_get (pc := 77) hc cfM kcX5 5 (by decide) fl_X5_34 rfl dX5_remember_77 ?_
            refine x_as 3 (by rw [q72_1.2 0 (by have := isB_lt (SB_i h1 (i := 0) (by omega)).1; omega), eG6, up2_s]) ?_
            refine x_iconst (v := 1) (pc := 80) hc dX5_remember_80 (by decide) ?_
            refine x_iadd (pc := 81) hc dX5_remember_81 ?_
            refine x_as 4 (by decide) ?_
            refine x_puti (pc := 82) hc cfM kcX5 5 (by decide) fl_X5_34 (by decide) rfl (by simp [fX5]) rfl dX5_remember_82 ?_
            refine x_Gn (fun G7 eG7 => ?_)
            exact hret _ _ _ dX5_remember_85 (by
                rw [eG7]
                refine RC_rem (G5 := G6) (m := 3) hR hV (by rw [if_pos h9]) (fun q h00 h30 => by rw [eG6, up2_r _ _ _ h00, eG5, up2_r _ _ _ h30, eG4, up2_r _ _ _ h30, eG3, up2_r _ _ _ h30, eG2, up2_r _ _ _ h30]) (by rw [eG6, up2_i _ _ _ _ (by omega), eG5, up2_k _ _ _ _ (by omega), eG4, up2_k _ _ _ _ (by omega), eG3, up2_k _ _ _ _ (by omega), eG2, up2_k _ _ _ _ (by omega)]) (by rw [eG6, up2_i _ _ _ _ (by omega), eG5, up2_k _ _ _ _ (by omega), eG4, up2_k _ _ _ _ (by omega), eG3, up2_k _ _ _ _ (by omega), eG2, up2_k _ _ _ _ (by omega)]) (Or.inl ⟨h9, by rw [eG6, up2_k _ _ _ _ (by omega), eG5, up2_i _ _ _ _ (by omega), eG4, up2_i _ _ _ _ (by omega), eG3, up2_i _ _ _ _ (by omega), eG2, up2_s], by rw [eG6, up2_k _ _ _ _ (by omega), eG5, up2_i _ _ _ _ (by omega), eG4, up2_i _ _ _ _ (by omega), eG3, up2_s], by rw [eG6, up2_k _ _ _ _ (by omega), eG5, up2_i _ _ _ _ (by omega), eG4, up2_s], by rw [eG6, up2_k _ _ _ _ (by omega), eG5, up2_s]⟩) ?_
                rw [show G6 3 3 = G 3 0 by rw [eG6, up2_k _ _ _ _ (by omega), eG5, up2_s]]
                exact q72_1)
          · exact absurd (by decide) c19_3
