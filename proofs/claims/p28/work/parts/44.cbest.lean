theorem cWr_eq {wm ft f : Nat → Int32} {t : Int32} : ∀ n, (∀ j, j < n → wm j = f (60 + j) ∧ ft j = f (60 + j) - f (80 + j)) → cWr wm ft t n = wr f t n
  | 0 => fun _ => rfl
  | n + 1 => fun h => by
    obtain ⟨e1, e2⟩ := h n (by omega)
    show cWr wm ft t n + _ = wr f t n + _
    rw [cWr_eq n (fun j hj => h j (by omega)), e1, e2]
    refine congrArg (fun q => wr f t n + q) ?_
    by_cases e : b01 (f (60 + n) ≤ 0) = b01 (f (60 + n) - f (80 + n) ≤ t)
    · rw [if_pos e, if_pos e.symm]
    · rw [if_neg e, if_neg (fun q => e q.symm)]
def cS (w bs mn : Nat → Int32) (t : Int32) : Nat → Int32
  | 0 => 0
  | n + 1 => cS w bs mn t n + szI (w n - bnd (bs n + mn n * t / 100))
theorem cS_eq {w bs mn f m : Nat → Int32} {r : Nat} {t : Int32} : ∀ n, (∀ j, j < n → w j = f (60 + j) ∧ bs j = f (160 + j) ∧ mn j = mean m j r) → cS w bs mn t n = sW f m r t n
  | 0 => fun _ => rfl
  | n + 1 => fun h => by
    obtain ⟨e1, e2, e3⟩ := h n (by omega)
    show cS w bs mn t n + _ = sW f m r t n + _
    rw [cS_eq n (fun j hj => h j (by omega)), e1, e2, e3]
theorem RC_4 {G G' : GS} {A : AT} (hR : RC G A) (h : ∀ q, q ≠ 4 → G' q = G q) : RC G' A := by
  obtain ⟨h1, h2, h3, h4, h5, h6, h7, h8⟩ := hR
  have e0 : G' 0 = G 0 := h 0 (by omega)
  have e3 : G' 3 = G 3 := h 3 (by omega)
  have h5s : ∀ x, 5 ≤ stb x := fun x => by unfold stb; omega
  have ev : ∀ b, 5 ≤ b → gv G' b = gv G b := fun b hb => by
    funext c
    exact h (b + c) (by omega)
  refine ⟨?_, ?_, ?_, fun i hi => ?_, ?_, fun hk => ?_, ⟨?_, fun i hi => ?_⟩, fun b hb2 k hk => ?_⟩
  · show SB (stb (G' 3 0)) (stb (G' 3 1)) (stb (G' 3 2)) (stb (G' 3 3)) (stb (G' 0 4))
    rw [e3, e0]; exact h1
  · rw [e0, ev _ (h5s _)]; exact h2
  · rw [e0]; exact h3
  · rw [e3, ev _ (h5s _)]; exact h4 i hi
  · rw [e0]; exact h5
  · rw [ev _ (by omega)]; exact h6 hk
  · rw [h 1 (by omega)]; exact h7.1
  · rw [h 2 (by omega)]; exact h7.2 i hi
  · have := isB_lt hb2
    rw [h _ (by omega)]; exact h8 b hb2 k hk
set_option maxHeartbeats 4000000 in
set_option maxRecDepth 100000 in
theorem C_bestBound {w : WT} (hI : xI w) (l : Launch) (G : GS) (y : Int32) (A : AT) (B : Nat) (hR : RC G A) (hV : AV A B) (hZ : AZ A) (hB : B + 1 < 2 ^ 30) : Mi w l yX5_bestBound cX5_bestBound 8 (some .int) ⟨2, 0, 0, 50⟩ [.ref (w.2.2 0), .int y] G (fun v9 G' => v9 = qBound A y ∧ PCq G G' A) := by
  refine mk_i (L0 := [(0, .ref (w.2.2 0)), (1, .int y)]) hI (by decide +kernel) rfl (Nat.le_of_ble_eq_true rfl) (fun _ _ _ => rfl) (fun K hc hret => ?_)
  obtain ⟨b, eb⟩ : ∃ b, b = stb (G 0 4) := ⟨_, rfl⟩
  obtain ⟨h1, h2, h3, h4, h5, h6, h7, h8⟩ := id hR
  rw [← eb] at h2
  have hb : isB b := by rw [eb]; exact h1.1.2.2.2.2
  have hlb := isB_lt hb
  have hS0 := h2
  obtain ⟨s1, ⟨t4, t5, t6, t7, t8, t9, t10, t11, t12⟩, s3, s4, ⟨y1, y2, y3, y4⟩, so⟩ := h2
  have hRV := hV.2.1
  obtain ⟨⟨d1, d2⟩, ⟨v1, v2, v3⟩, ⟨r1, r2⟩, ho, ⟨c1, c2, c3⟩, hb4⟩ := id hRV
  have hd20 := Nat.le_of_lt d1
  have hn4 := hV.1
  have u4 : G b 4 = nI (cN (aF A)) := t4.trans c2
  have u5 : G b 5 = nI (yN (aF A)) := t5.trans v2
  have u6 : G b 6 = nI (dN (aF A)) := t6.trans d2
  have hkN : kN (aF A) ≤ 4 := by unfold kN; omega
  have hkY : kN (aF A) ≤ yN (aF A) := by unfold kN; omega
  refine x_iload_n (pc := 0) hc dX5_bestBound_0 1 rfl ?_
  refine x_if_eq (pc := 1) hc dX5_bestBound_1 12 (by decide) (fun c1 => ?_) (fun c1 => ?_)
  · have hy1 : ¬ inB y 0 1 = 0 := by rw [c1]; decide
    refine x_aload_n (pc := 12) hc dX5_bestBound_12 0 rfl ?_
    refine x_get (pc := 13) hc cfM kcX5 4 (by decide) fl_X5_31 rfl dX5_bestBound_13 ?_
    refine x_ar b eb.symm ?_
    refine x_callVi (pc := 16) hc cl_X5_169 (cfS hb) kcX3 [] (m_X3_knownYears hI (kl K) G b (yN (aF A)) hb (by omega) u5) rfl rfl (by simp [Value.category]) rfl rfl ⟨by decide, by decide⟩ dX5_bestBound_16 (fun r16 Gc16 q16 => ?_)
    obtain ⟨er16, eGc16⟩ := q16
    rw [eGc16]
    subst er16
    refine x_as (nI (kN (aF A))) rfl ?_
    refine x_if_ne (pc := 19) hc dX5_bestBound_19 25 (by decide) (fun c19 => ?_) (fun c19 => ?_)
    · have c19 : ¬ kN (aF A) = 0 := fun h9 => c19 ((nI_eq (a := kN (aF A)) (b := 0) (by omega) (by omega)).mpr h9)
      have hk0 : 0 < kN (aF A) := by omega
      have hk9 : ¬ aF A 302 = 0 := by
        rw [v3]
        intro q
        have := (nI_eq (a := min (yN (aF A)) 4) (b := 0) (by omega) (by omega)).mp q
        unfold kN at hk0
        omega
      refine x_aload_n (pc := 25) hc dX5_bestBound_25 0 rfl ?_
      refine x_get (pc := 26) hc cfM kcX5 4 (by decide) fl_X5_31 rfl dX5_bestBound_26 ?_
      refine x_ar b eb.symm ?_
      refine x_iconst (v := 0) (pc := 29) hc dX5_bestBound_29 (by decide) ?_
      refine x_callVr (pc := 30) hc cl_X5_172 (cfS hb) kcX3 [.int 0] (m_X3_endedYear hI (kl K) G b (yN (aF A)) 0 hb (by omega) u5 (by omega)) rfl rfl (by simp [Value.category]) rfl rfl ⟨by decide, by decide⟩ dX5_bestBound_30 (fun r30 Gc30 q30 => ?_)
      obtain ⟨er30, eGc30⟩ := q30
      rw [eGc30]
      subst er30
      refine x_astore_n (pc := 33) (L' := [(2, .ref (w.2.2 (b + (3 + 5 * ((yN (aF A) - 1 - 0) % 5))))), (0, .ref (w.2.2 0)), (1, .int y)]) hc dX5_bestBound_33 (by decide) rfl ?_
      refine x_iconst (v := 0) (pc := 34) hc dX5_bestBound_34 (by decide) ?_
      refine x_istore_n (pc := 35) (L' := [(3, .int 0), (2, .ref (w.2.2 (b + (3 + 5 * ((yN (aF A) - 1 - 0) % 5))))), (0, .ref (w.2.2 0)), (1, .int y)]) hc dX5_bestBound_35 (by decide) rfl ?_
      refine x_aload_n (pc := 36) hc dX5_bestBound_36 1 rfl ?_
      refine x_iconst (v := 0) (pc := 37) hc dX5_bestBound_37 (by decide) ?_
      refine x_callVi (pc := 38) hc cl_X5_215 (cfY (isY_of hb (by omega))) kcX4 [.int 0] (m_X4_wrongFrosts hI (kl K) G (b + (3 + 5 * ((yN (aF A) - 1 - 0) % 5))) 0 (isY_of hb (by omega))) rfl rfl (by simp [Value.category]) rfl rfl ⟨by decide, by decide⟩ dX5_bestBound_38 (fun r38 Gc38 q38 => ?_)
      obtain ⟨er38, eGc38⟩ := q38
      rw [eGc38]
      subst er38
      refine x_as (wr (aF A) 0 20) (cWr_eq 20 (fun j hj => ⟨((so 0 (by omega)).1 j hj).2.2.1, ((so 0 (by omega)).1 j hj).2.1⟩)) ?_
      refine x_nm (fun x41 ex41 => ?_)
      refine x_istore (pc := 41) (L' := [(4, .int x41), (3, .int 0), (2, .ref (w.2.2 (b + (3 + 5 * ((yN (aF A) - 1 - 0) % 5))))), (0, .ref (w.2.2 0)), (1, .int y)]) hc dX5_bestBound_41 (by decide) rfl ?_
      refine x_iconst (v := 1) (pc := 43) hc dX5_bestBound_43 (by decide) ?_
      refine x_istore (pc := 44) (L' := [(5, .int 1), (4, .int x41), (3, .int 0), (2, .ref (w.2.2 (b + (3 + 5 * ((yN (aF A) - 1 - 0) % 5))))), (0, .ref (w.2.2 0)), (1, .int y)]) hc dX5_bestBound_44 (by decide) rfl ?_
      have loop46 : ∀ (n1 : Nat) (k : Nat), k ≤ 20 → 20 < k + n1 → XX w K 8 G 46 [(5, .int (nI (k + 1))), (4, .int ((bB (aF A) k).2)), (3, .int ((bB (aF A) k).1)), (2, .ref (w.2.2 (b + (3 + 5 * ((yN (aF A) - 1 - 0) % 5))))), (0, .ref (w.2.2 0)), (1, .int y)] [] := by
        intro n1
        induction n1 with
        | zero => intro k hk hf; omega
        | succ n1 ih =>
          intro k hk hf
          refine x_iload (pc := 46) hc dX5_bestBound_46 0 rfl ?_
          refine x_bipush (v := 20) (pc := 48) hc dX5_bestBound_48 (by decide) ?_
          refine x_icmp_gt (pc := 50) hc dX5_bestBound_50 105 (by decide) (fun c50 => ?_) (fun c50 => ?_)
          · have c50 : 20 < k + 1 := (nI_ltI (a := 20) (b := k + 1) (by omega) (by omega)).mp c50
            refine x_iload_n (pc := 105) hc dX5_bestBound_105 5 rfl ?_
            refine x_if_ne (pc := 106) hc dX5_bestBound_106 117 (by decide) (fun c106 => ?_) (fun c106 => ?_)
            · refine x_iload (pc := 117) hc dX5_bestBound_117 1 rfl ?_
              exact hret _ _ _ _ dX5_bestBound_119 ⟨(by unfold qBound; rw [if_neg hy1, if_neg hk9, if_neg c106, show (20 : Nat) = k by omega]), PC_same hR⟩
            · refine x_iload_n (pc := 109) hc dX5_bestBound_109 2 rfl ?_
              refine x_sipush (v := 1000) (pc := 110) hc dX5_bestBound_110 (by decide) ?_
              refine x_iadd (pc := 113) hc dX5_bestBound_113 ?_
              refine x_goto (pc := 114) hc dX5_bestBound_114 119 (by decide) ?_
              exact hret _ _ _ _ dX5_bestBound_119 ⟨(by unfold qBound; rw [if_neg hy1, if_neg hk9, if_pos c106, show (20 : Nat) = k by omega]), PC_same hR⟩
          · have c50 : ¬ 20 < k + 1 := fun h9 => c50 ((nI_ltI (a := 20) (b := k + 1) (by omega) (by omega)).mpr h9)
            refine x_aload_n (pc := 53) hc dX5_bestBound_53 3 rfl ?_
            refine x_iload (pc := 54) hc dX5_bestBound_54 0 rfl ?_
            refine x_ineg (pc := 56) hc dX5_bestBound_56 ?_
            refine x_callVi (pc := 57) hc cl_X5_215 (cfY (isY_of hb (by omega))) kcX4 [.int (-(nI (k + 1)))] (m_X4_wrongFrosts hI (kl K) G (b + (3 + 5 * ((yN (aF A) - 1 - 0) % 5))) (-(nI (k + 1))) (isY_of hb (by omega))) rfl rfl (by simp [Value.category]) rfl rfl ⟨by decide, by decide⟩ dX5_bestBound_57 (fun r57 Gc57 q57 => ?_)
            obtain ⟨er57, eGc57⟩ := q57
            rw [eGc57]
            subst er57
            refine x_as (wr (aF A) (-(nI (k + 1))) 20) (cWr_eq 20 (fun j hj => ⟨((so 0 (by omega)).1 j hj).2.2.1, ((so 0 (by omega)).1 j hj).2.1⟩)) ?_
            refine x_nm (fun x60 ex60 => ?_)
            refine x_istore (pc := 60) (L' := [(6, .int x60), (5, .int (nI (k + 1))), (4, .int ((bB (aF A) k).2)), (3, .int ((bB (aF A) k).1)), (2, .ref (w.2.2 (b + (3 + 5 * ((yN (aF A) - 1 - 0) % 5))))), (0, .ref (w.2.2 0)), (1, .int y)]) hc dX5_bestBound_60 (by decide) rfl ?_
            refine x_iload (pc := 62) hc dX5_bestBound_62 0 rfl ?_
            refine x_iload (pc := 64) hc dX5_bestBound_64 2 rfl ?_
            refine x_icmp_ge (pc := 66) hc dX5_bestBound_66 77 (by decide) (fun c66 => ?_) (fun c66 => ?_)
            · refine x_aload_n (pc := 77) hc dX5_bestBound_77 4 rfl ?_
              refine x_iload (pc := 78) hc dX5_bestBound_78 1 rfl ?_
              refine x_callVi (pc := 80) hc cl_X5_215 (cfY (isY_of hb (by omega))) kcX4 [.int (nI (k + 1))] (m_X4_wrongFrosts hI (kl K) G (b + (3 + 5 * ((yN (aF A) - 1 - 0) % 5))) (nI (k + 1)) (isY_of hb (by omega))) rfl rfl (by simp [Value.category]) rfl rfl ⟨by decide, by decide⟩ dX5_bestBound_80 (fun r80 Gc80 q80 => ?_)
              obtain ⟨er80, eGc80⟩ := q80
              rw [eGc80]
              subst er80
              refine x_as (wr (aF A) (nI (k + 1)) 20) (cWr_eq 20 (fun j hj => ⟨((so 0 (by omega)).1 j hj).2.2.1, ((so 0 (by omega)).1 j hj).2.1⟩)) ?_
              refine x_nm (fun x83 ex83 => ?_)
              refine x_istore (pc := 83) (L' := [(7, .int x83), (6, .int x60), (5, .int (nI (k + 1))), (4, .int ((bB (aF A) k).2)), (3, .int ((bB (aF A) k).1)), (2, .ref (w.2.2 (b + (3 + 5 * ((yN (aF A) - 1 - 0) % 5))))), (0, .ref (w.2.2 0)), (1, .int y)]) hc dX5_bestBound_83 (by decide) rfl ?_
              refine x_iload (pc := 85) hc dX5_bestBound_85 0 rfl ?_
              refine x_iload (pc := 87) hc dX5_bestBound_87 3 rfl ?_
              refine x_icmp_ge (pc := 89) hc dX5_bestBound_89 99 (by decide) (fun c89 => ?_) (fun c89 => ?_)
              · refine x_iinc (pc := 99) (L' := [(5, .int (nI (k + 1 + 1))), (7, .int x83), (6, .int x60), (4, .int ((bB (aF A) k).2)), (3, .int ((bB (aF A) k).1)), (2, .ref (w.2.2 (b + (3 + 5 * ((yN (aF A) - 1 - 0) % 5))))), (0, .ref (w.2.2 0)), (1, .int y)]) hc dX5_bestBound_99 2 rfl (nI (k + 1 + 1)) (nI_1 _) (by decide) rfl ?_
                refine x_goto (pc := 102) hc dX5_bestBound_102 46 (by decide) ?_
                refine x_loc [0, 3, 4, 5, 6, 7] rfl ?_
                subst ex60
                subst ex83
                have h1 : bB1 (aF A) (bB (aF A) k) k = (bB (aF A) k) := if_neg (Int32.not_lt.mpr c66)
                have h2 : bB2 (aF A) (bB (aF A) k) k = (bB (aF A) k) := if_neg (Int32.not_lt.mpr c89)
                have z8 := ih (k + 1) (by omega) (by omega)
                have h3 : bB (aF A) (k + 1) = (bB (aF A) k) := (congrArg (fun z => bB2 (aF A) z k) h1).trans h2
                rw [h3] at z8
                exact z8
              · refine x_iload (pc := 92) hc dX5_bestBound_92 0 rfl ?_
                refine x_istore (pc := 94) (L' := [(4, .int x83), (7, .int x83), (6, .int x60), (5, .int (nI (k + 1))), (3, .int ((bB (aF A) k).1)), (2, .ref (w.2.2 (b + (3 + 5 * ((yN (aF A) - 1 - 0) % 5))))), (0, .ref (w.2.2 0)), (1, .int y)]) hc dX5_bestBound_94 (by decide) rfl ?_
                refine x_iload (pc := 96) hc dX5_bestBound_96 3 rfl ?_
                refine x_istore_n (pc := 98) (L' := [(3, .int (nI (k + 1))), (4, .int x83), (7, .int x83), (6, .int x60), (5, .int (nI (k + 1))), (2, .ref (w.2.2 (b + (3 + 5 * ((yN (aF A) - 1 - 0) % 5))))), (0, .ref (w.2.2 0)), (1, .int y)]) hc dX5_bestBound_98 (by decide) rfl ?_
                refine x_iinc (pc := 99) (L' := [(5, .int (nI (k + 1 + 1))), (3, .int (nI (k + 1))), (4, .int x83), (7, .int x83), (6, .int x60), (2, .ref (w.2.2 (b + (3 + 5 * ((yN (aF A) - 1 - 0) % 5))))), (0, .ref (w.2.2 0)), (1, .int y)]) hc dX5_bestBound_99 4 rfl (nI (k + 1 + 1)) (nI_1 _) (by decide) rfl ?_
                refine x_goto (pc := 102) hc dX5_bestBound_102 46 (by decide) ?_
                refine x_loc [0, 2, 1, 5, 6, 7] rfl ?_
                subst ex60
                subst ex83
                have h1 : bB1 (aF A) (bB (aF A) k) k = (bB (aF A) k) := if_neg (Int32.not_lt.mpr c66)
                have h2 : bB2 (aF A) (bB (aF A) k) k = (nI (k + 1), wr (aF A) (nI (k + 1)) 20) := if_pos (Int32.not_le.mp c89)
                have z8 := ih (k + 1) (by omega) (by omega)
                have h3 : bB (aF A) (k + 1) = (nI (k + 1), wr (aF A) (nI (k + 1)) 20) := (congrArg (fun z => bB2 (aF A) z k) h1).trans h2
                rw [h3] at z8
                exact z8
            · refine x_iload (pc := 69) hc dX5_bestBound_69 0 rfl ?_
              refine x_istore (pc := 71) (L' := [(4, .int x60), (6, .int x60), (5, .int (nI (k + 1))), (3, .int ((bB (aF A) k).1)), (2, .ref (w.2.2 (b + (3 + 5 * ((yN (aF A) - 1 - 0) % 5))))), (0, .ref (w.2.2 0)), (1, .int y)]) hc dX5_bestBound_71 (by decide) rfl ?_
              refine x_iload (pc := 73) hc dX5_bestBound_73 2 rfl ?_
              refine x_ineg (pc := 75) hc dX5_bestBound_75 ?_
              refine x_nm (fun x76 ex76 => ?_)
              refine x_istore_n (pc := 76) (L' := [(3, .int x76), (4, .int x60), (6, .int x60), (5, .int (nI (k + 1))), (2, .ref (w.2.2 (b + (3 + 5 * ((yN (aF A) - 1 - 0) % 5))))), (0, .ref (w.2.2 0)), (1, .int y)]) hc dX5_bestBound_76 (by decide) rfl ?_
              refine x_aload_n (pc := 77) hc dX5_bestBound_77 4 rfl ?_
              refine x_iload (pc := 78) hc dX5_bestBound_78 3 rfl ?_
              refine x_callVi (pc := 80) hc cl_X5_215 (cfY (isY_of hb (by omega))) kcX4 [.int (nI (k + 1))] (m_X4_wrongFrosts hI (kl K) G (b + (3 + 5 * ((yN (aF A) - 1 - 0) % 5))) (nI (k + 1)) (isY_of hb (by omega))) rfl rfl (by simp [Value.category]) rfl rfl ⟨by decide, by decide⟩ dX5_bestBound_80 (fun r80_1 Gc80_1 q80_1 => ?_)
              obtain ⟨er80_1, eGc80_1⟩ := q80_1
              rw [eGc80_1]
              subst er80_1
              refine x_as (wr (aF A) (nI (k + 1)) 20) (cWr_eq 20 (fun j hj => ⟨((so 0 (by omega)).1 j hj).2.2.1, ((so 0 (by omega)).1 j hj).2.1⟩)) ?_
              refine x_nm (fun x83_1 ex83_1 => ?_)
              refine x_istore (pc := 83) (L' := [(7, .int x83_1), (3, .int x76), (4, .int x60), (6, .int x60), (5, .int (nI (k + 1))), (2, .ref (w.2.2 (b + (3 + 5 * ((yN (aF A) - 1 - 0) % 5))))), (0, .ref (w.2.2 0)), (1, .int y)]) hc dX5_bestBound_83 (by decide) rfl ?_
              refine x_iload (pc := 85) hc dX5_bestBound_85 0 rfl ?_
              refine x_iload (pc := 87) hc dX5_bestBound_87 2 rfl ?_
              refine x_icmp_ge (pc := 89) hc dX5_bestBound_89 99 (by decide) (fun c89_1 => ?_) (fun c89_1 => ?_)
              · refine x_iinc (pc := 99) (L' := [(5, .int (nI (k + 1 + 1))), (7, .int x83_1), (3, .int x76), (4, .int x60), (6, .int x60), (2, .ref (w.2.2 (b + (3 + 5 * ((yN (aF A) - 1 - 0) % 5))))), (0, .ref (w.2.2 0)), (1, .int y)]) hc dX5_bestBound_99 4 rfl (nI (k + 1 + 1)) (nI_1 _) (by decide) rfl ?_
                refine x_goto (pc := 102) hc dX5_bestBound_102 46 (by decide) ?_
                refine x_loc [0, 3, 2, 5, 6, 7] rfl ?_
                subst ex60
                subst ex76
                subst ex83_1
                have h1 : bB1 (aF A) (bB (aF A) k) k = (-nI (k + 1), wr (aF A) (-nI (k + 1)) 20) := if_pos (Int32.not_le.mp c66)
                have h2 : bB2 (aF A) (-nI (k + 1), wr (aF A) (-nI (k + 1)) 20) k = (-nI (k + 1), wr (aF A) (-nI (k + 1)) 20) := if_neg (Int32.not_lt.mpr c89_1)
                have z8 := ih (k + 1) (by omega) (by omega)
                have h3 : bB (aF A) (k + 1) = (-nI (k + 1), wr (aF A) (-nI (k + 1)) 20) := (congrArg (fun z => bB2 (aF A) z k) h1).trans h2
                rw [h3] at z8
                exact z8
              · refine x_iload (pc := 92) hc dX5_bestBound_92 0 rfl ?_
                refine x_istore (pc := 94) (L' := [(4, .int x83_1), (7, .int x83_1), (3, .int x76), (6, .int x60), (5, .int (nI (k + 1))), (2, .ref (w.2.2 (b + (3 + 5 * ((yN (aF A) - 1 - 0) % 5))))), (0, .ref (w.2.2 0)), (1, .int y)]) hc dX5_bestBound_94 (by decide) rfl ?_
                refine x_iload (pc := 96) hc dX5_bestBound_96 4 rfl ?_
                refine x_istore_n (pc := 98) (L' := [(3, .int (nI (k + 1))), (4, .int x83_1), (7, .int x83_1), (6, .int x60), (5, .int (nI (k + 1))), (2, .ref (w.2.2 (b + (3 + 5 * ((yN (aF A) - 1 - 0) % 5))))), (0, .ref (w.2.2 0)), (1, .int y)]) hc dX5_bestBound_98 (by decide) rfl ?_
                refine x_iinc (pc := 99) (L' := [(5, .int (nI (k + 1 + 1))), (3, .int (nI (k + 1))), (4, .int x83_1), (7, .int x83_1), (6, .int x60), (2, .ref (w.2.2 (b + (3 + 5 * ((yN (aF A) - 1 - 0) % 5))))), (0, .ref (w.2.2 0)), (1, .int y)]) hc dX5_bestBound_99 4 rfl (nI (k + 1 + 1)) (nI_1 _) (by decide) rfl ?_
                refine x_goto (pc := 102) hc dX5_bestBound_102 46 (by decide) ?_
                refine x_loc [0, 2, 1, 5, 6, 7] rfl ?_
                subst ex60
                subst ex76
                subst ex83_1
                have h1 : bB1 (aF A) (bB (aF A) k) k = (-nI (k + 1), wr (aF A) (-nI (k + 1)) 20) := if_pos (Int32.not_le.mp c66)
                have h2 : bB2 (aF A) (-nI (k + 1), wr (aF A) (-nI (k + 1)) 20) k = (nI (k + 1), wr (aF A) (nI (k + 1)) 20) := if_pos (Int32.not_le.mp c89_1)
                have z8 := ih (k + 1) (by omega) (by omega)
                have h3 : bB (aF A) (k + 1) = (nI (k + 1), wr (aF A) (nI (k + 1)) 20) := (congrArg (fun z => bB2 (aF A) z k) h1).trans h2
                rw [h3] at z8
                exact z8
      refine x_loc [0, 1, 2, 3, 4, 5] rfl ?_
      rw [ex41]
      exact loop46 21 0 (by omega) (by omega)
    · have c19 : kN (aF A) = 0 := (nI_eq (a := kN (aF A)) (b := 0) (by omega) (by omega)).mp c19
      have hk0 : kN (aF A) = 0 := by omega
      refine x_bipush (v := (-5)) (pc := 22) hc dX5_bestBound_22 (by decide) ?_
      exact hret _ _ _ _ dX5_bestBound_24 ⟨(by unfold qBound; rw [if_neg hy1, if_pos (by rw [v3, show min (yN (aF A)) 4 = 0 by unfold kN at hk0; omega]; rfl)]), PC_same hR⟩
  · refine x_iload_n (pc := 4) hc dX5_bestBound_4 1 rfl ?_
    refine x_iconst (v := 1) (pc := 5) hc dX5_bestBound_5 (by decide) ?_
    refine x_icmp_eq (pc := 6) hc dX5_bestBound_6 12 (by decide) (fun c6 => ?_) (fun c6 => ?_)
    · have hy1 : ¬ inB y 0 1 = 0 := by rw [c6]; decide
      refine x_aload_n (pc := 12) hc dX5_bestBound_12 0 rfl ?_
      refine x_get (pc := 13) hc cfM kcX5 4 (by decide) fl_X5_31 rfl dX5_bestBound_13 ?_
      refine x_ar b eb.symm ?_
      refine x_callVi (pc := 16) hc cl_X5_169 (cfS hb) kcX3 [] (m_X3_knownYears hI (kl K) G b (yN (aF A)) hb (by omega) u5) rfl rfl (by simp [Value.category]) rfl rfl ⟨by decide, by decide⟩ dX5_bestBound_16 (fun r16_1 Gc16_1 q16_1 => ?_)
      obtain ⟨er16_1, eGc16_1⟩ := q16_1
      rw [eGc16_1]
      subst er16_1
      refine x_as (nI (kN (aF A))) rfl ?_
      refine x_if_ne (pc := 19) hc dX5_bestBound_19 25 (by decide) (fun c19_1 => ?_) (fun c19_1 => ?_)
      · have c19_1 : ¬ kN (aF A) = 0 := fun h9 => c19_1 ((nI_eq (a := kN (aF A)) (b := 0) (by omega) (by omega)).mpr h9)
        have hk0 : 0 < kN (aF A) := by omega
        have hk9 : ¬ aF A 302 = 0 := by
          rw [v3]
          intro q
          have := (nI_eq (a := min (yN (aF A)) 4) (b := 0) (by omega) (by omega)).mp q
          unfold kN at hk0
          omega
        refine x_aload_n (pc := 25) hc dX5_bestBound_25 0 rfl ?_
        refine x_get (pc := 26) hc cfM kcX5 4 (by decide) fl_X5_31 rfl dX5_bestBound_26 ?_
        refine x_ar b eb.symm ?_
        refine x_iconst (v := 0) (pc := 29) hc dX5_bestBound_29 (by decide) ?_
        refine x_callVr (pc := 30) hc cl_X5_172 (cfS hb) kcX3 [.int 0] (m_X3_endedYear hI (kl K) G b (yN (aF A)) 0 hb (by omega) u5 (by omega)) rfl rfl (by simp [Value.category]) rfl rfl ⟨by decide, by decide⟩ dX5_bestBound_30 (fun r30_1 Gc30_1 q30_1 => ?_)
        obtain ⟨er30_1, eGc30_1⟩ := q30_1
        rw [eGc30_1]
        subst er30_1
        refine x_astore_n (pc := 33) (L' := [(2, .ref (w.2.2 (b + (3 + 5 * ((yN (aF A) - 1 - 0) % 5))))), (0, .ref (w.2.2 0)), (1, .int y)]) hc dX5_bestBound_33 (by decide) rfl ?_
        refine x_iconst (v := 0) (pc := 34) hc dX5_bestBound_34 (by decide) ?_
        refine x_istore_n (pc := 35) (L' := [(3, .int 0), (2, .ref (w.2.2 (b + (3 + 5 * ((yN (aF A) - 1 - 0) % 5))))), (0, .ref (w.2.2 0)), (1, .int y)]) hc dX5_bestBound_35 (by decide) rfl ?_
        refine x_aload_n (pc := 36) hc dX5_bestBound_36 1 rfl ?_
        refine x_iconst (v := 0) (pc := 37) hc dX5_bestBound_37 (by decide) ?_
        refine x_callVi (pc := 38) hc cl_X5_215 (cfY (isY_of hb (by omega))) kcX4 [.int 0] (m_X4_wrongFrosts hI (kl K) G (b + (3 + 5 * ((yN (aF A) - 1 - 0) % 5))) 0 (isY_of hb (by omega))) rfl rfl (by simp [Value.category]) rfl rfl ⟨by decide, by decide⟩ dX5_bestBound_38 (fun r38_1 Gc38_1 q38_1 => ?_)
        obtain ⟨er38_1, eGc38_1⟩ := q38_1
        rw [eGc38_1]
        subst er38_1
        refine x_as (wr (aF A) 0 20) (cWr_eq 20 (fun j hj => ⟨((so 0 (by omega)).1 j hj).2.2.1, ((so 0 (by omega)).1 j hj).2.1⟩)) ?_
        refine x_nm (fun x41_1 ex41_1 => ?_)
        refine x_istore (pc := 41) (L' := [(4, .int x41_1), (3, .int 0), (2, .ref (w.2.2 (b + (3 + 5 * ((yN (aF A) - 1 - 0) % 5))))), (0, .ref (w.2.2 0)), (1, .int y)]) hc dX5_bestBound_41 (by decide) rfl ?_
        refine x_iconst (v := 1) (pc := 43) hc dX5_bestBound_43 (by decide) ?_
        refine x_istore (pc := 44) (L' := [(5, .int 1), (4, .int x41_1), (3, .int 0), (2, .ref (w.2.2 (b + (3 + 5 * ((yN (aF A) - 1 - 0) % 5))))), (0, .ref (w.2.2 0)), (1, .int y)]) hc dX5_bestBound_44 (by decide) rfl ?_
        have loop46 : ∀ (n1 : Nat) (k : Nat), k ≤ 20 → 20 < k + n1 → XX w K 8 G 46 [(5, .int (nI (k + 1))), (4, .int ((bB (aF A) k).2)), (3, .int ((bB (aF A) k).1)), (2, .ref (w.2.2 (b + (3 + 5 * ((yN (aF A) - 1 - 0) % 5))))), (0, .ref (w.2.2 0)), (1, .int y)] [] := by
          intro n1
          induction n1 with
          | zero => intro k hk hf; omega
          | succ n1 ih =>
            intro k hk hf
            refine x_iload (pc := 46) hc dX5_bestBound_46 0 rfl ?_
            refine x_bipush (v := 20) (pc := 48) hc dX5_bestBound_48 (by decide) ?_
            refine x_icmp_gt (pc := 50) hc dX5_bestBound_50 105 (by decide) (fun c50_1 => ?_) (fun c50_1 => ?_)
            · have c50_1 : 20 < k + 1 := (nI_ltI (a := 20) (b := k + 1) (by omega) (by omega)).mp c50_1
              refine x_iload_n (pc := 105) hc dX5_bestBound_105 5 rfl ?_
              refine x_if_ne (pc := 106) hc dX5_bestBound_106 117 (by decide) (fun c106_1 => ?_) (fun c106_1 => ?_)
              · refine x_iload (pc := 117) hc dX5_bestBound_117 1 rfl ?_
                exact hret _ _ _ _ dX5_bestBound_119 ⟨(by unfold qBound; rw [if_neg hy1, if_neg hk9, if_neg c106_1, show (20 : Nat) = k by omega]), PC_same hR⟩
              · refine x_iload_n (pc := 109) hc dX5_bestBound_109 2 rfl ?_
                refine x_sipush (v := 1000) (pc := 110) hc dX5_bestBound_110 (by decide) ?_
                refine x_iadd (pc := 113) hc dX5_bestBound_113 ?_
                refine x_goto (pc := 114) hc dX5_bestBound_114 119 (by decide) ?_
                exact hret _ _ _ _ dX5_bestBound_119 ⟨(by unfold qBound; rw [if_neg hy1, if_neg hk9, if_pos c106_1, show (20 : Nat) = k by omega]), PC_same hR⟩
            · have c50_1 : ¬ 20 < k + 1 := fun h9 => c50_1 ((nI_ltI (a := 20) (b := k + 1) (by omega) (by omega)).mpr h9)
              refine x_aload_n (pc := 53) hc dX5_bestBound_53 3 rfl ?_
              refine x_iload (pc := 54) hc dX5_bestBound_54 0 rfl ?_
              refine x_ineg (pc := 56) hc dX5_bestBound_56 ?_
              refine x_callVi (pc := 57) hc cl_X5_215 (cfY (isY_of hb (by omega))) kcX4 [.int (-(nI (k + 1)))] (m_X4_wrongFrosts hI (kl K) G (b + (3 + 5 * ((yN (aF A) - 1 - 0) % 5))) (-(nI (k + 1))) (isY_of hb (by omega))) rfl rfl (by simp [Value.category]) rfl rfl ⟨by decide, by decide⟩ dX5_bestBound_57 (fun r57_1 Gc57_1 q57_1 => ?_)
              obtain ⟨er57_1, eGc57_1⟩ := q57_1
              rw [eGc57_1]
              subst er57_1
              refine x_as (wr (aF A) (-(nI (k + 1))) 20) (cWr_eq 20 (fun j hj => ⟨((so 0 (by omega)).1 j hj).2.2.1, ((so 0 (by omega)).1 j hj).2.1⟩)) ?_
              refine x_nm (fun x60_1 ex60_1 => ?_)
              refine x_istore (pc := 60) (L' := [(6, .int x60_1), (5, .int (nI (k + 1))), (4, .int ((bB (aF A) k).2)), (3, .int ((bB (aF A) k).1)), (2, .ref (w.2.2 (b + (3 + 5 * ((yN (aF A) - 1 - 0) % 5))))), (0, .ref (w.2.2 0)), (1, .int y)]) hc dX5_bestBound_60 (by decide) rfl ?_
              refine x_iload (pc := 62) hc dX5_bestBound_62 0 rfl ?_
              refine x_iload (pc := 64) hc dX5_bestBound_64 2 rfl ?_
              refine x_icmp_ge (pc := 66) hc dX5_bestBound_66 77 (by decide) (fun c66_1 => ?_) (fun c66_1 => ?_)
              · refine x_aload_n (pc := 77) hc dX5_bestBound_77 4 rfl ?_
                refine x_iload (pc := 78) hc dX5_bestBound_78 1 rfl ?_
                refine x_callVi (pc := 80) hc cl_X5_215 (cfY (isY_of hb (by omega))) kcX4 [.int (nI (k + 1))] (m_X4_wrongFrosts hI (kl K) G (b + (3 + 5 * ((yN (aF A) - 1 - 0) % 5))) (nI (k + 1)) (isY_of hb (by omega))) rfl rfl (by simp [Value.category]) rfl rfl ⟨by decide, by decide⟩ dX5_bestBound_80 (fun r80_2 Gc80_2 q80_2 => ?_)
                obtain ⟨er80_2, eGc80_2⟩ := q80_2
                rw [eGc80_2]
                subst er80_2
                refine x_as (wr (aF A) (nI (k + 1)) 20) (cWr_eq 20 (fun j hj => ⟨((so 0 (by omega)).1 j hj).2.2.1, ((so 0 (by omega)).1 j hj).2.1⟩)) ?_
                refine x_nm (fun x83_2 ex83_2 => ?_)
                refine x_istore (pc := 83) (L' := [(7, .int x83_2), (6, .int x60_1), (5, .int (nI (k + 1))), (4, .int ((bB (aF A) k).2)), (3, .int ((bB (aF A) k).1)), (2, .ref (w.2.2 (b + (3 + 5 * ((yN (aF A) - 1 - 0) % 5))))), (0, .ref (w.2.2 0)), (1, .int y)]) hc dX5_bestBound_83 (by decide) rfl ?_
                refine x_iload (pc := 85) hc dX5_bestBound_85 0 rfl ?_
                refine x_iload (pc := 87) hc dX5_bestBound_87 3 rfl ?_
                refine x_icmp_ge (pc := 89) hc dX5_bestBound_89 99 (by decide) (fun c89_2 => ?_) (fun c89_2 => ?_)
                · refine x_iinc (pc := 99) (L' := [(5, .int (nI (k + 1 + 1))), (7, .int x83_2), (6, .int x60_1), (4, .int ((bB (aF A) k).2)), (3, .int ((bB (aF A) k).1)), (2, .ref (w.2.2 (b + (3 + 5 * ((yN (aF A) - 1 - 0) % 5))))), (0, .ref (w.2.2 0)), (1, .int y)]) hc dX5_bestBound_99 2 rfl (nI (k + 1 + 1)) (nI_1 _) (by decide) rfl ?_
                  refine x_goto (pc := 102) hc dX5_bestBound_102 46 (by decide) ?_
                  refine x_loc [0, 3, 4, 5, 6, 7] rfl ?_
                  subst ex60_1
                  subst ex83_2
                  have h1 : bB1 (aF A) (bB (aF A) k) k = (bB (aF A) k) := if_neg (Int32.not_lt.mpr c66_1)
                  have h2 : bB2 (aF A) (bB (aF A) k) k = (bB (aF A) k) := if_neg (Int32.not_lt.mpr c89_2)
                  have z8 := ih (k + 1) (by omega) (by omega)
                  have h3 : bB (aF A) (k + 1) = (bB (aF A) k) := (congrArg (fun z => bB2 (aF A) z k) h1).trans h2
                  rw [h3] at z8
                  exact z8
                · refine x_iload (pc := 92) hc dX5_bestBound_92 0 rfl ?_
                  refine x_istore (pc := 94) (L' := [(4, .int x83_2), (7, .int x83_2), (6, .int x60_1), (5, .int (nI (k + 1))), (3, .int ((bB (aF A) k).1)), (2, .ref (w.2.2 (b + (3 + 5 * ((yN (aF A) - 1 - 0) % 5))))), (0, .ref (w.2.2 0)), (1, .int y)]) hc dX5_bestBound_94 (by decide) rfl ?_
                  refine x_iload (pc := 96) hc dX5_bestBound_96 3 rfl ?_
                  refine x_istore_n (pc := 98) (L' := [(3, .int (nI (k + 1))), (4, .int x83_2), (7, .int x83_2), (6, .int x60_1), (5, .int (nI (k + 1))), (2, .ref (w.2.2 (b + (3 + 5 * ((yN (aF A) - 1 - 0) % 5))))), (0, .ref (w.2.2 0)), (1, .int y)]) hc dX5_bestBound_98 (by decide) rfl ?_
                  refine x_iinc (pc := 99) (L' := [(5, .int (nI (k + 1 + 1))), (3, .int (nI (k + 1))), (4, .int x83_2), (7, .int x83_2), (6, .int x60_1), (2, .ref (w.2.2 (b + (3 + 5 * ((yN (aF A) - 1 - 0) % 5))))), (0, .ref (w.2.2 0)), (1, .int y)]) hc dX5_bestBound_99 4 rfl (nI (k + 1 + 1)) (nI_1 _) (by decide) rfl ?_
                  refine x_goto (pc := 102) hc dX5_bestBound_102 46 (by decide) ?_
                  refine x_loc [0, 2, 1, 5, 6, 7] rfl ?_
                  subst ex60_1
                  subst ex83_2
                  have h1 : bB1 (aF A) (bB (aF A) k) k = (bB (aF A) k) := if_neg (Int32.not_lt.mpr c66_1)
                  have h2 : bB2 (aF A) (bB (aF A) k) k = (nI (k + 1), wr (aF A) (nI (k + 1)) 20) := if_pos (Int32.not_le.mp c89_2)
                  have z8 := ih (k + 1) (by omega) (by omega)
                  have h3 : bB (aF A) (k + 1) = (nI (k + 1), wr (aF A) (nI (k + 1)) 20) := (congrArg (fun z => bB2 (aF A) z k) h1).trans h2
                  rw [h3] at z8
                  exact z8
              · refine x_iload (pc := 69) hc dX5_bestBound_69 0 rfl ?_
                refine x_istore (pc := 71) (L' := [(4, .int x60_1), (6, .int x60_1), (5, .int (nI (k + 1))), (3, .int ((bB (aF A) k).1)), (2, .ref (w.2.2 (b + (3 + 5 * ((yN (aF A) - 1 - 0) % 5))))), (0, .ref (w.2.2 0)), (1, .int y)]) hc dX5_bestBound_71 (by decide) rfl ?_
                refine x_iload (pc := 73) hc dX5_bestBound_73 2 rfl ?_
                refine x_ineg (pc := 75) hc dX5_bestBound_75 ?_
                refine x_nm (fun x76_1 ex76_1 => ?_)
                refine x_istore_n (pc := 76) (L' := [(3, .int x76_1), (4, .int x60_1), (6, .int x60_1), (5, .int (nI (k + 1))), (2, .ref (w.2.2 (b + (3 + 5 * ((yN (aF A) - 1 - 0) % 5))))), (0, .ref (w.2.2 0)), (1, .int y)]) hc dX5_bestBound_76 (by decide) rfl ?_
                refine x_aload_n (pc := 77) hc dX5_bestBound_77 4 rfl ?_
                refine x_iload (pc := 78) hc dX5_bestBound_78 3 rfl ?_
                refine x_callVi (pc := 80) hc cl_X5_215 (cfY (isY_of hb (by omega))) kcX4 [.int (nI (k + 1))] (m_X4_wrongFrosts hI (kl K) G (b + (3 + 5 * ((yN (aF A) - 1 - 0) % 5))) (nI (k + 1)) (isY_of hb (by omega))) rfl rfl (by simp [Value.category]) rfl rfl ⟨by decide, by decide⟩ dX5_bestBound_80 (fun r80_3 Gc80_3 q80_3 => ?_)
                obtain ⟨er80_3, eGc80_3⟩ := q80_3
                rw [eGc80_3]
                subst er80_3
                refine x_as (wr (aF A) (nI (k + 1)) 20) (cWr_eq 20 (fun j hj => ⟨((so 0 (by omega)).1 j hj).2.2.1, ((so 0 (by omega)).1 j hj).2.1⟩)) ?_
                refine x_nm (fun x83_3 ex83_3 => ?_)
                refine x_istore (pc := 83) (L' := [(7, .int x83_3), (3, .int x76_1), (4, .int x60_1), (6, .int x60_1), (5, .int (nI (k + 1))), (2, .ref (w.2.2 (b + (3 + 5 * ((yN (aF A) - 1 - 0) % 5))))), (0, .ref (w.2.2 0)), (1, .int y)]) hc dX5_bestBound_83 (by decide) rfl ?_
                refine x_iload (pc := 85) hc dX5_bestBound_85 0 rfl ?_
                refine x_iload (pc := 87) hc dX5_bestBound_87 2 rfl ?_
                refine x_icmp_ge (pc := 89) hc dX5_bestBound_89 99 (by decide) (fun c89_3 => ?_) (fun c89_3 => ?_)
                · refine x_iinc (pc := 99) (L' := [(5, .int (nI (k + 1 + 1))), (7, .int x83_3), (3, .int x76_1), (4, .int x60_1), (6, .int x60_1), (2, .ref (w.2.2 (b + (3 + 5 * ((yN (aF A) - 1 - 0) % 5))))), (0, .ref (w.2.2 0)), (1, .int y)]) hc dX5_bestBound_99 4 rfl (nI (k + 1 + 1)) (nI_1 _) (by decide) rfl ?_
                  refine x_goto (pc := 102) hc dX5_bestBound_102 46 (by decide) ?_
                  refine x_loc [0, 3, 2, 5, 6, 7] rfl ?_
                  subst ex60_1
                  subst ex76_1
                  subst ex83_3
                  have h1 : bB1 (aF A) (bB (aF A) k) k = (-nI (k + 1), wr (aF A) (-nI (k + 1)) 20) := if_pos (Int32.not_le.mp c66_1)
                  have h2 : bB2 (aF A) (-nI (k + 1), wr (aF A) (-nI (k + 1)) 20) k = (-nI (k + 1), wr (aF A) (-nI (k + 1)) 20) := if_neg (Int32.not_lt.mpr c89_3)
                  have z8 := ih (k + 1) (by omega) (by omega)
                  have h3 : bB (aF A) (k + 1) = (-nI (k + 1), wr (aF A) (-nI (k + 1)) 20) := (congrArg (fun z => bB2 (aF A) z k) h1).trans h2
                  rw [h3] at z8
                  exact z8
                · refine x_iload (pc := 92) hc dX5_bestBound_92 0 rfl ?_
                  refine x_istore (pc := 94) (L' := [(4, .int x83_3), (7, .int x83_3), (3, .int x76_1), (6, .int x60_1), (5, .int (nI (k + 1))), (2, .ref (w.2.2 (b + (3 + 5 * ((yN (aF A) - 1 - 0) % 5))))), (0, .ref (w.2.2 0)), (1, .int y)]) hc dX5_bestBound_94 (by decide) rfl ?_
                  refine x_iload (pc := 96) hc dX5_bestBound_96 4 rfl ?_
                  refine x_istore_n (pc := 98) (L' := [(3, .int (nI (k + 1))), (4, .int x83_3), (7, .int x83_3), (6, .int x60_1), (5, .int (nI (k + 1))), (2, .ref (w.2.2 (b + (3 + 5 * ((yN (aF A) - 1 - 0) % 5))))), (0, .ref (w.2.2 0)), (1, .int y)]) hc dX5_bestBound_98 (by decide) rfl ?_
                  refine x_iinc (pc := 99) (L' := [(5, .int (nI (k + 1 + 1))), (3, .int (nI (k + 1))), (4, .int x83_3), (7, .int x83_3), (6, .int x60_1), (2, .ref (w.2.2 (b + (3 + 5 * ((yN (aF A) - 1 - 0) % 5))))), (0, .ref (w.2.2 0)), (1, .int y)]) hc dX5_bestBound_99 4 rfl (nI (k + 1 + 1)) (nI_1 _) (by decide) rfl ?_
                  refine x_goto (pc := 102) hc dX5_bestBound_102 46 (by decide) ?_
                  refine x_loc [0, 2, 1, 5, 6, 7] rfl ?_
                  subst ex60_1
                  subst ex76_1
                  subst ex83_3
                  have h1 : bB1 (aF A) (bB (aF A) k) k = (-nI (k + 1), wr (aF A) (-nI (k + 1)) 20) := if_pos (Int32.not_le.mp c66_1)
                  have h2 : bB2 (aF A) (-nI (k + 1), wr (aF A) (-nI (k + 1)) 20) k = (nI (k + 1), wr (aF A) (nI (k + 1)) 20) := if_pos (Int32.not_le.mp c89_3)
                  have z8 := ih (k + 1) (by omega) (by omega)
                  have h3 : bB (aF A) (k + 1) = (nI (k + 1), wr (aF A) (nI (k + 1)) 20) := (congrArg (fun z => bB2 (aF A) z k) h1).trans h2
                  rw [h3] at z8
                  exact z8
        refine x_loc [0, 1, 2, 3, 4, 5] rfl ?_
        rw [ex41_1]
        exact loop46 21 0 (by omega) (by omega)
      · have c19_1 : kN (aF A) = 0 := (nI_eq (a := kN (aF A)) (b := 0) (by omega) (by omega)).mp c19_1
        have hk0 : kN (aF A) = 0 := by omega
        refine x_bipush (v := (-5)) (pc := 22) hc dX5_bestBound_22 (by decide) ?_
        exact hret _ _ _ _ dX5_bestBound_24 ⟨(by unfold qBound; rw [if_neg hy1, if_pos (by rw [v3, show min (yN (aF A)) 4 = 0 by unfold kN at hk0; omega]; rfl)]), PC_same hR⟩
    · have hy0 : inB y 0 1 = 0 := inB_d1 c1 c6
      refine x_bipush (v := (-2)) (pc := 9) hc dX5_bestBound_9 (by decide) ?_
      exact hret _ _ _ _ dX5_bestBound_11 ⟨(by unfold qBound; rw [if_pos hy0]), PC_same hR⟩
set_option maxHeartbeats 4000000 in
set_option maxRecDepth 100000 in
theorem m_X5_sumWithRate {w : WT} (hI : xI w) (l : Launch) (G : GS) (kb ka : Nat) (t : Int32) (hkb : isY kb) (hka : isY ka) : Mi w l yX5_sumWithRate cX5_sumWithRate 6 (some .int) ⟨3, 0, 0, 72⟩ [.ref (w.2.2 0), .ref (w.2.2 kb), .ref (w.2.2 ka), .int t] G (fun r' G' => r' = cS (G (ka + 3)) (G (kb + 1)) (G 4) t 20 ∧ G' = G) := by
  refine mk_i (L0 := [(0, .ref (w.2.2 0)), (1, .ref (w.2.2 kb)), (2, .ref (w.2.2 ka)), (3, .int t)]) hI (by decide +kernel) rfl (Nat.le_of_ble_eq_true rfl) (fun _ _ _ => rfl) (fun K hc hret => ?_)
  refine x_iconst (v := 0) (pc := 0) hc dX5_sumWithRate_0 (by decide) ?_
  refine x_istore (pc := 1) (L' := [(4, .int 0), (0, .ref (w.2.2 0)), (1, .ref (w.2.2 kb)), (2, .ref (w.2.2 ka)), (3, .int t)]) hc dX5_sumWithRate_1 (by decide) rfl ?_
  refine x_iconst (v := 0) (pc := 3) hc dX5_sumWithRate_3 (by decide) ?_
  refine x_istore (pc := 4) (L' := [(5, .int 0), (4, .int 0), (0, .ref (w.2.2 0)), (1, .ref (w.2.2 kb)), (2, .ref (w.2.2 ka)), (3, .int t)]) hc dX5_sumWithRate_4 (by decide) rfl ?_
  have loop6 : ∀ (n1 : Nat) (j : Nat), j ≤ 20 → 20 < j + n1 → XX w K 6 G 6 [(5, .int (nI j)), (4, .int (cS (G (ka + 3)) (G (kb + 1)) (G 4) t j)), (0, .ref (w.2.2 0)), (1, .ref (w.2.2 kb)), (2, .ref (w.2.2 ka)), (3, .int t)] [] := by
    intro n1
    induction n1 with
    | zero => intro j hj hf; omega
    | succ n1 ih =>
      intro j hj hf
      refine x_iload (pc := 6) hc dX5_sumWithRate_6 0 rfl ?_
      refine x_bipush (v := 20) (pc := 8) hc dX5_sumWithRate_8 (by decide) ?_
      refine x_icmp_ge (pc := 10) hc dX5_sumWithRate_10 53 (by decide) (fun c10 => ?_) (fun c10 => ?_)
      · have c10 : 20 ≤ j := (nI_leI (a := 20) (b := j) (by omega) (by omega)).mp c10
        refine x_iload (pc := 53) hc dX5_sumWithRate_53 1 rfl ?_
        exact hret _ _ _ _ dX5_sumWithRate_55 ⟨by rw [show (20 : Nat) = j by omega], rfl⟩
      · have c10 : ¬ 20 ≤ j := fun h9 => c10 ((nI_leI (a := 20) (b := j) (by omega) (by omega)).mpr h9)
        refine x_iload (pc := 13) hc dX5_sumWithRate_13 1 rfl ?_
        refine x_aload_n (pc := 15) hc dX5_sumWithRate_15 4 rfl ?_
        refine x_get (pc := 16) hc (cfY hka) kcX4 2 (by decide) fl_X5_155 rfl dX5_sumWithRate_16 ?_
        refine x_iload (pc := 19) hc dX5_sumWithRate_19 0 rfl ?_
        refine x_iald (pc := 21) hc (afY hka (i := 3) (by decide) (by decide)) (vp_in_nI (by omega) (by decide)) dX5_sumWithRate_21 ?_
        refine x_as (G (ka + 3) j) (congrArg _ (nI_clamp (by omega))) ?_
        refine x_aload_n (pc := 22) hc dX5_sumWithRate_22 3 rfl ?_
        refine x_get (pc := 23) hc (cfY hkb) kcX4 0 (by decide) fl_X5_86 rfl dX5_sumWithRate_23 ?_
        refine x_iload (pc := 26) hc dX5_sumWithRate_26 0 rfl ?_
        refine x_iald (pc := 28) hc (afY hkb (i := 1) (by decide) (by decide)) (vp_in_nI (by omega) (by decide)) dX5_sumWithRate_28 ?_
        refine x_as (G (kb + 1) j) (congrArg _ (nI_clamp (by omega))) ?_
        refine x_aload_n (pc := 29) hc dX5_sumWithRate_29 2 rfl ?_
        refine x_get (pc := 30) hc cfM kcX5 3 (by decide) fl_X5_27 rfl dX5_sumWithRate_30 ?_
        refine x_iload (pc := 33) hc dX5_sumWithRate_33 0 rfl ?_
        refine x_iald (pc := 35) hc afN (vp_in_nI (by omega) (by decide)) dX5_sumWithRate_35 ?_
        refine x_as (G 4 j) (congrArg _ (nI_clamp (by omega))) ?_
        refine x_iload_n (pc := 36) hc dX5_sumWithRate_36 5 rfl ?_
        refine x_callSi (pc := 37) hc cl_X5_211 [.int (G (kb + 1) j), .int (G 4 j), .int t] (m_X5_mended hI (kl K) G (G (kb + 1) j) (G 4 j) t) rfl rfl (by simp [Value.category]) rfl rfl ⟨by decide, by decide⟩ dX5_sumWithRate_37 (fun r37 Gc37 q37 => ?_)
        obtain ⟨er37, eGc37⟩ := q37
        rw [eGc37]
        subst er37
        refine x_isub (pc := 40) hc dX5_sumWithRate_40 ?_
        refine x_abs (pc := 41) hc ml_X5_229 (by decide) (by simp [Value.category]) dX5_sumWithRate_41 ?_
        refine x_as (szI (G (ka + 3) j - bnd (G (kb + 1) j + G 4 j * t / 100))) (abs_sz _) ?_
        refine x_iadd (pc := 44) hc dX5_sumWithRate_44 ?_
        refine x_nm (fun x45 ex45 => ?_)
        refine x_istore (pc := 45) (L' := [(4, .int x45), (5, .int (nI j)), (0, .ref (w.2.2 0)), (1, .ref (w.2.2 kb)), (2, .ref (w.2.2 ka)), (3, .int t)]) hc dX5_sumWithRate_45 (by decide) rfl ?_
        refine x_iinc (pc := 47) (L' := [(5, .int (nI (j + 1))), (4, .int x45), (0, .ref (w.2.2 0)), (1, .ref (w.2.2 kb)), (2, .ref (w.2.2 ka)), (3, .int t)]) hc dX5_sumWithRate_47 1 rfl (nI (j + 1)) (nI_1 _) (by decide) rfl ?_
        refine x_goto (pc := 50) hc dX5_sumWithRate_50 6 (by decide) ?_
        refine x_loc [0, 1, 2, 3, 4, 5] rfl ?_
        rw [ex45]
        exact ih (j + 1) (by omega) (by omega)
  refine x_loc [0, 1, 2, 3, 4, 5] rfl ?_
  exact loop6 21 0 (by omega) (by omega)
set_option maxHeartbeats 4000000 in
set_option maxRecDepth 100000 in
theorem C_bestRate {w : WT} (hI : xI w) (l : Launch) (G : GS) (y : Int32) (A : AT) (B : Nat) (hR : RC G A) (hV : AV A B) (hZ : AZ A) (hB : B + 1 < 2 ^ 30) : Mi w l yX5_bestRate cX5_bestRate 8 (some .int) ⟨4, 0, 0, 97⟩ [.ref (w.2.2 0), .int y] G (fun v9 G' => v9 = qRate A y ∧ PCq G G' A) := by
  refine mk_i (L0 := [(0, .ref (w.2.2 0)), (1, .int y)]) hI (by decide +kernel) rfl (Nat.le_of_ble_eq_true rfl) (fun _ _ _ => rfl) (fun K hc hret => ?_)
  obtain ⟨b, eb⟩ : ∃ b, b = stb (G 0 4) := ⟨_, rfl⟩
  obtain ⟨h1, h2, h3, h4, h5, h6, h7, h8⟩ := id hR
  rw [← eb] at h2
  have hb : isB b := by rw [eb]; exact h1.1.2.2.2.2
  have hlb := isB_lt hb
  have hS0 := h2
  obtain ⟨s1, ⟨t4, t5, t6, t7, t8, t9, t10, t11, t12⟩, s3, s4, ⟨y1, y2, y3, y4⟩, so⟩ := h2
  have hRV := hV.2.1
  obtain ⟨⟨d1, d2⟩, ⟨v1, v2, v3⟩, ⟨r1, r2⟩, ho, ⟨c1, c2, c3⟩, hb4⟩ := id hRV
  have hd20 := Nat.le_of_lt d1
  have hn4 := hV.1
  have u4 : G b 4 = nI (cN (aF A)) := t4.trans c2
  have u5 : G b 5 = nI (yN (aF A)) := t5.trans v2
  have u6 : G b 6 = nI (dN (aF A)) := t6.trans d2
  have hkN : kN (aF A) ≤ 4 := by unfold kN; omega
  have hkY : kN (aF A) ≤ yN (aF A) := by unfold kN; omega
  refine x_iload_n (pc := 0) hc dX5_bestRate_0 1 rfl ?_
  refine x_if_eq (pc := 1) hc dX5_bestRate_1 12 (by decide) (fun c1 => ?_) (fun c1 => ?_)
  · have hy1 : ¬ inB y 0 1 = 0 := by rw [c1]; decide
    refine x_aload_n (pc := 12) hc dX5_bestRate_12 0 rfl ?_
    refine x_get (pc := 13) hc cfM kcX5 4 (by decide) fl_X5_31 rfl dX5_bestRate_13 ?_
    refine x_ar b eb.symm ?_
    refine x_callVi (pc := 16) hc cl_X5_169 (cfS hb) kcX3 [] (m_X3_knownYears hI (kl K) G b (yN (aF A)) hb (by omega) u5) rfl rfl (by simp [Value.category]) rfl rfl ⟨by decide, by decide⟩ dX5_bestRate_16 (fun r16 Gc16 q16 => ?_)
    obtain ⟨er16, eGc16⟩ := q16
    rw [eGc16]
    subst er16
    refine x_as (nI (kN (aF A))) rfl ?_
    refine x_iconst (v := 2) (pc := 19) hc dX5_bestRate_19 (by decide) ?_
    refine x_icmp_ge (pc := 20) hc dX5_bestRate_20 26 (by decide) (fun c20 => ?_) (fun c20 => ?_)
    · have c20 : 2 ≤ kN (aF A) := (nI_leI (a := 2) (b := kN (aF A)) (by omega) (by omega)).mp c20
      refine x_aload_n (pc := 26) hc dX5_bestRate_26 0 rfl ?_
      refine x_get (pc := 27) hc cfM kcX5 4 (by decide) fl_X5_31 rfl dX5_bestRate_27 ?_
      refine x_ar b eb.symm ?_
      refine x_iconst (v := 1) (pc := 30) hc dX5_bestRate_30 (by decide) ?_
      refine x_callVr (pc := 31) hc cl_X5_172 (cfS hb) kcX3 [.int 1] (m_X3_endedYear hI (kl K) G b (yN (aF A)) 1 hb (by omega) u5 (by omega)) rfl rfl (by simp [Value.category]) rfl rfl ⟨by decide, by decide⟩ dX5_bestRate_31 (fun r31 Gc31 q31 => ?_)
      obtain ⟨er31, eGc31⟩ := q31
      rw [eGc31]
      subst er31
      refine x_astore_n (pc := 34) (L' := [(2, .ref (w.2.2 (b + (3 + 5 * ((yN (aF A) - 1 - 1) % 5))))), (0, .ref (w.2.2 0)), (1, .int y)]) hc dX5_bestRate_34 (by decide) rfl ?_
      refine x_aload_n (pc := 35) hc dX5_bestRate_35 1 rfl ?_
      refine x_get (pc := 36) hc cfM kcX5 4 (by decide) fl_X5_31 rfl dX5_bestRate_36 ?_
      refine x_ar b eb.symm ?_
      refine x_iconst (v := 0) (pc := 39) hc dX5_bestRate_39 (by decide) ?_
      refine x_callVr (pc := 40) hc cl_X5_172 (cfS hb) kcX3 [.int 0] (m_X3_endedYear hI (kl K) G b (yN (aF A)) 0 hb (by omega) u5 (by omega)) rfl rfl (by simp [Value.category]) rfl rfl ⟨by decide, by decide⟩ dX5_bestRate_40 (fun r40 Gc40 q40 => ?_)
      obtain ⟨er40, eGc40⟩ := q40
      rw [eGc40]
      subst er40
      refine x_astore_n (pc := 43) (L' := [(3, .ref (w.2.2 (b + (3 + 5 * ((yN (aF A) - 1 - 0) % 5))))), (2, .ref (w.2.2 (b + (3 + 5 * ((yN (aF A) - 1 - 1) % 5))))), (0, .ref (w.2.2 0)), (1, .int y)]) hc dX5_bestRate_43 (by decide) rfl ?_
      refine x_iconst (v := 0) (pc := 44) hc dX5_bestRate_44 (by decide) ?_
      refine x_istore (pc := 45) (L' := [(4, .int 0), (3, .ref (w.2.2 (b + (3 + 5 * ((yN (aF A) - 1 - 0) % 5))))), (2, .ref (w.2.2 (b + (3 + 5 * ((yN (aF A) - 1 - 1) % 5))))), (0, .ref (w.2.2 0)), (1, .int y)]) hc dX5_bestRate_45 (by decide) rfl ?_
      have loop47 : ∀ (n1 : Nat) (j : Nat) (Gx : GS), j ≤ 20 → 20 < j + n1 → (∀ q, q ≠ 4 → Gx q = G q) → (∀ i, i < j → Gx 4 i = mean (okM (aF A) 1) i (rN (aF A))) → XX w K 8 Gx 47 [(4, .int (nI j)), (2, .ref (w.2.2 (b + (3 + 5 * ((yN (aF A) - 1 - 1) % 5))))), (3, .ref (w.2.2 (b + (3 + 5 * ((yN (aF A) - 1 - 0) % 5))))), (0, .ref (w.2.2 0)), (1, .int y)] [] := by
        intro n1
        induction n1 with
        | zero => intro j Gx hj hf hF hM; omega
        | succ n1 ih =>
          intro j Gx hj hf hF hM
          refine x_iload (pc := 47) hc dX5_bestRate_47 0 rfl ?_
          refine x_bipush (v := 20) (pc := 49) hc dX5_bestRate_49 (by decide) ?_
          refine x_icmp_ge (pc := 51) hc dX5_bestRate_51 82 (by decide) (fun c51 => ?_) (fun c51 => ?_)
          · have c51 : 20 ≤ j := (nI_leI (a := 20) (b := j) (by omega) (by omega)).mp c51
            refine x_iconst (v := 0) (pc := 82) hc dX5_bestRate_82 (by decide) ?_
            refine x_istore (pc := 83) (L' := [(4, .int 0), (2, .ref (w.2.2 (b + (3 + 5 * ((yN (aF A) - 1 - 1) % 5))))), (3, .ref (w.2.2 (b + (3 + 5 * ((yN (aF A) - 1 - 0) % 5))))), (0, .ref (w.2.2 0)), (1, .int y)]) hc dX5_bestRate_83 (by decide) rfl ?_
            refine x_aload_n (pc := 85) hc dX5_bestRate_85 3 rfl ?_
            refine x_aload_n (pc := 86) hc dX5_bestRate_86 1 rfl ?_
            refine x_aload_n (pc := 87) hc dX5_bestRate_87 2 rfl ?_
            refine x_iconst (v := 0) (pc := 88) hc dX5_bestRate_88 (by decide) ?_
            refine x_callVi (pc := 89) hc cl_X5_218 cfM kcX5 [.ref (w.2.2 (b + (3 + 5 * ((yN (aF A) - 1 - 1) % 5)))), .ref (w.2.2 (b + (3 + 5 * ((yN (aF A) - 1 - 0) % 5)))), .int 0] (m_X5_sumWithRate hI (kl K) Gx (b + (3 + 5 * ((yN (aF A) - 1 - 1) % 5))) (b + (3 + 5 * ((yN (aF A) - 1 - 0) % 5))) 0 (isY_of hb (by omega)) (isY_of hb (by omega))) rfl rfl (by simp [Value.category]) rfl rfl ⟨by decide, by decide⟩ dX5_bestRate_89 (fun r89 Gc89 q89 => ?_)
            obtain ⟨er89, eGc89⟩ := q89
            rw [eGc89]
            subst er89
            refine x_as (sW (aF A) (okM (aF A) 1) (rN (aF A)) 0 20) (cS_eq 20 (fun j9 hj9 => ⟨by rw [hF _ (by omega)]; exact ((so 0 (by omega)).1 j9 hj9).2.2.1, by rw [hF _ (by omega), show 160 + j9 = 100 + 60 * 1 + j9 by omega]; exact ((so 1 (by omega)).1 j9 hj9).1, hM j9 (by omega)⟩)) ?_
            refine x_nm (fun x92 ex92 => ?_)
            refine x_istore (pc := 92) (L' := [(5, .int x92), (4, .int 0), (2, .ref (w.2.2 (b + (3 + 5 * ((yN (aF A) - 1 - 1) % 5))))), (3, .ref (w.2.2 (b + (3 + 5 * ((yN (aF A) - 1 - 0) % 5))))), (0, .ref (w.2.2 0)), (1, .int y)]) hc dX5_bestRate_92 (by decide) rfl ?_
            refine x_iconst (v := 1) (pc := 94) hc dX5_bestRate_94 (by decide) ?_
            refine x_istore (pc := 95) (L' := [(6, .int 1), (5, .int x92), (4, .int 0), (2, .ref (w.2.2 (b + (3 + 5 * ((yN (aF A) - 1 - 1) % 5))))), (3, .ref (w.2.2 (b + (3 + 5 * ((yN (aF A) - 1 - 0) % 5))))), (0, .ref (w.2.2 0)), (1, .int y)]) hc dX5_bestRate_95 (by decide) rfl ?_
            have loop97 : ∀ (n1 : Nat) (k : Nat), k ≤ 100 → 100 < k + n1 → XX w K 8 Gx 97 [(6, .int (nI (k + 1))), (5, .int ((bR (aF A) (okM (aF A) 1) (rN (aF A)) k).2)), (4, .int ((bR (aF A) (okM (aF A) 1) (rN (aF A)) k).1)), (2, .ref (w.2.2 (b + (3 + 5 * ((yN (aF A) - 1 - 1) % 5))))), (3, .ref (w.2.2 (b + (3 + 5 * ((yN (aF A) - 1 - 0) % 5))))), (0, .ref (w.2.2 0)), (1, .int y)] [] := by
              intro n1
              induction n1 with
              | zero => intro k hk hf; omega
              | succ n1 ih =>
                intro k hk hf
                refine x_iload (pc := 97) hc dX5_bestRate_97 0 rfl ?_
                refine x_bipush (v := 100) (pc := 99) hc dX5_bestRate_99 (by decide) ?_
                refine x_icmp_gt (pc := 101) hc dX5_bestRate_101 135 (by decide) (fun c101 => ?_) (fun c101 => ?_)
                · have c101 : 100 < k + 1 := (nI_ltI (a := 100) (b := k + 1) (by omega) (by omega)).mp c101
                  refine x_iload_n (pc := 135) hc dX5_bestRate_135 6 rfl ?_
                  refine x_if_ne (pc := 136) hc dX5_bestRate_136 144 (by decide) (fun c136 => ?_) (fun c136 => ?_)
                  · refine x_iload (pc := 144) hc dX5_bestRate_144 1 rfl ?_
                    exact hret _ _ _ _ dX5_bestRate_146 ⟨(by unfold qRate; rw [if_neg hy1, if_neg (by omega), if_neg c136, show (100 : Nat) = k by omega]), ⟨RC_4 hR hF, fun q hq => hF q (by omega)⟩⟩
                  · refine x_iload (pc := 139) hc dX5_bestRate_139 2 rfl ?_
                    refine x_goto (pc := 141) hc dX5_bestRate_141 146 (by decide) ?_
                    exact hret _ _ _ _ dX5_bestRate_146 ⟨(by unfold qRate; rw [if_neg hy1, if_neg (by omega), if_pos c136, show (100 : Nat) = k by omega]), ⟨RC_4 hR hF, fun q hq => hF q (by omega)⟩⟩
                · have c101 : ¬ 100 < k + 1 := fun h9 => c101 ((nI_ltI (a := 100) (b := k + 1) (by omega) (by omega)).mpr h9)
                  refine x_aload_n (pc := 104) hc dX5_bestRate_104 5 rfl ?_
                  refine x_aload_n (pc := 105) hc dX5_bestRate_105 3 rfl ?_
                  refine x_aload_n (pc := 106) hc dX5_bestRate_106 4 rfl ?_
                  refine x_iload (pc := 107) hc dX5_bestRate_107 0 rfl ?_
                  refine x_callVi (pc := 109) hc cl_X5_218 cfM kcX5 [.ref (w.2.2 (b + (3 + 5 * ((yN (aF A) - 1 - 1) % 5)))), .ref (w.2.2 (b + (3 + 5 * ((yN (aF A) - 1 - 0) % 5)))), .int (nI (k + 1))] (m_X5_sumWithRate hI (kl K) Gx (b + (3 + 5 * ((yN (aF A) - 1 - 1) % 5))) (b + (3 + 5 * ((yN (aF A) - 1 - 0) % 5))) (nI (k + 1)) (isY_of hb (by omega)) (isY_of hb (by omega))) rfl rfl (by simp [Value.category]) rfl rfl ⟨by decide, by decide⟩ dX5_bestRate_109 (fun r109 Gc109 q109 => ?_)
                  obtain ⟨er109, eGc109⟩ := q109
                  rw [eGc109]
                  subst er109
                  refine x_as (sW (aF A) (okM (aF A) 1) (rN (aF A)) (nI (k + 1)) 20) (cS_eq 20 (fun j9 hj9 => ⟨by rw [hF _ (by omega)]; exact ((so 0 (by omega)).1 j9 hj9).2.2.1, by rw [hF _ (by omega), show 160 + j9 = 100 + 60 * 1 + j9 by omega]; exact ((so 1 (by omega)).1 j9 hj9).1, hM j9 (by omega)⟩)) ?_
                  refine x_nm (fun x112 ex112 => ?_)
                  refine x_istore (pc := 112) (L' := [(7, .int x112), (6, .int (nI (k + 1))), (5, .int ((bR (aF A) (okM (aF A) 1) (rN (aF A)) k).2)), (4, .int ((bR (aF A) (okM (aF A) 1) (rN (aF A)) k).1)), (2, .ref (w.2.2 (b + (3 + 5 * ((yN (aF A) - 1 - 1) % 5))))), (3, .ref (w.2.2 (b + (3 + 5 * ((yN (aF A) - 1 - 0) % 5))))), (0, .ref (w.2.2 0)), (1, .int y)]) hc dX5_bestRate_112 (by decide) rfl ?_
                  refine x_iload (pc := 114) hc dX5_bestRate_114 0 rfl ?_
                  refine x_iload (pc := 116) hc dX5_bestRate_116 2 rfl ?_
                  refine x_icmp_ge (pc := 118) hc dX5_bestRate_118 129 (by decide) (fun c118 => ?_) (fun c118 => ?_)
                  · refine x_iinc (pc := 129) (L' := [(6, .int (nI (k + 1 + 1))), (7, .int x112), (5, .int ((bR (aF A) (okM (aF A) 1) (rN (aF A)) k).2)), (4, .int ((bR (aF A) (okM (aF A) 1) (rN (aF A)) k).1)), (2, .ref (w.2.2 (b + (3 + 5 * ((yN (aF A) - 1 - 1) % 5))))), (3, .ref (w.2.2 (b + (3 + 5 * ((yN (aF A) - 1 - 0) % 5))))), (0, .ref (w.2.2 0)), (1, .int y)]) hc dX5_bestRate_129 1 rfl (nI (k + 1 + 1)) (nI_1 _) (by decide) rfl ?_
                    refine x_goto (pc := 132) hc dX5_bestRate_132 97 (by decide) ?_
                    refine x_loc [0, 2, 3, 4, 5, 6, 7] rfl ?_
                    subst ex112
                    have h3 : bR (aF A) (okM (aF A) 1) (rN (aF A)) (k + 1) = (bR (aF A) (okM (aF A) 1) (rN (aF A)) k) := if_neg (Int32.not_lt.mpr c118)
                    have z8 := ih (k + 1) (by omega) (by omega)
                    rw [h3] at z8
                    exact z8
                  · refine x_iload (pc := 121) hc dX5_bestRate_121 0 rfl ?_
                    refine x_istore (pc := 123) (L' := [(5, .int x112), (7, .int x112), (6, .int (nI (k + 1))), (4, .int ((bR (aF A) (okM (aF A) 1) (rN (aF A)) k).1)), (2, .ref (w.2.2 (b + (3 + 5 * ((yN (aF A) - 1 - 1) % 5))))), (3, .ref (w.2.2 (b + (3 + 5 * ((yN (aF A) - 1 - 0) % 5))))), (0, .ref (w.2.2 0)), (1, .int y)]) hc dX5_bestRate_123 (by decide) rfl ?_
                    refine x_iload (pc := 125) hc dX5_bestRate_125 2 rfl ?_
                    refine x_istore (pc := 127) (L' := [(4, .int (nI (k + 1))), (5, .int x112), (7, .int x112), (6, .int (nI (k + 1))), (2, .ref (w.2.2 (b + (3 + 5 * ((yN (aF A) - 1 - 1) % 5))))), (3, .ref (w.2.2 (b + (3 + 5 * ((yN (aF A) - 1 - 0) % 5))))), (0, .ref (w.2.2 0)), (1, .int y)]) hc dX5_bestRate_127 (by decide) rfl ?_
                    refine x_iinc (pc := 129) (L' := [(6, .int (nI (k + 1 + 1))), (4, .int (nI (k + 1))), (5, .int x112), (7, .int x112), (2, .ref (w.2.2 (b + (3 + 5 * ((yN (aF A) - 1 - 1) % 5))))), (3, .ref (w.2.2 (b + (3 + 5 * ((yN (aF A) - 1 - 0) % 5))))), (0, .ref (w.2.2 0)), (1, .int y)]) hc dX5_bestRate_129 3 rfl (nI (k + 1 + 1)) (nI_1 _) (by decide) rfl ?_
                    refine x_goto (pc := 132) hc dX5_bestRate_132 97 (by decide) ?_
                    refine x_loc [0, 2, 1, 4, 5, 6, 7] rfl ?_
                    subst ex112
                    have h3 : bR (aF A) (okM (aF A) 1) (rN (aF A)) (k + 1) = (nI (k + 1), sW (aF A) (okM (aF A) 1) (rN (aF A)) (nI (k + 1)) 20) := if_pos (Int32.not_le.mp c118)
                    have z8 := ih (k + 1) (by omega) (by omega)
                    rw [h3] at z8
                    exact z8
            refine x_loc [0, 1, 2, 3, 4, 5, 6] rfl ?_
            rw [ex92]
            exact loop97 101 0 (by omega) (by omega)
          · have c51 : ¬ 20 ≤ j := fun h9 => c51 ((nI_leI (a := 20) (b := j) (by omega) (by omega)).mpr h9)
            refine x_aload_n (pc := 54) hc dX5_bestRate_54 3 rfl ?_
            refine x_get (pc := 55) hc cfM kcX5 3 (by decide) fl_X5_27 rfl dX5_bestRate_55 ?_
            refine x_iload (pc := 58) hc dX5_bestRate_58 0 rfl ?_
            refine x_aload_n (pc := 60) hc dX5_bestRate_60 1 rfl ?_
            refine x_iload (pc := 61) hc dX5_bestRate_61 0 rfl ?_
            refine x_aload_n (pc := 63) hc dX5_bestRate_63 3 rfl ?_
            refine x_get (pc := 64) hc cfM kcX5 4 (by decide) fl_X5_31 rfl dX5_bestRate_64 ?_
            refine x_ar b (by rw [hF 0 (by omega), eb]) ?_
            refine x_get (pc := 67) hc (cfS hb) kcX3 0 (by decide) fl_X5_122 rfl dX5_bestRate_67 ?_
            refine x_iconst (v := 0) (pc := 70) hc dX5_bestRate_70 (by decide) ?_
            refine x_as (nI 0) rfl ?_
            refine x_iald (pc := 71) hc (afS hb) (vp_in_nI (by omega) (by decide)) dX5_bestRate_71 ?_
            refine x_as (Gx (b + 1) 0) (congrArg _ (nI_clamp (by omega))) ?_
            refine x_as (nI (rN (aF A))) (by rw [hF _ (by omega)]; exact (s1 0 (by omega)).trans r2) ?_
            refine x_callVi (pc := 72) hc cl_X5_176 (cfY (isY_of hb (by omega))) kcX4 [.int (nI j), .int (nI (rN (aF A)))] (m_X4_meanByDays hI (kl K) Gx (b + (3 + 5 * ((yN (aF A) - 1 - 1) % 5))) j (rN (aF A)) (isY_of hb (by omega)) (by omega) (by omega)) rfl rfl (by simp [Value.category]) rfl rfl ⟨by decide, by decide⟩ dX5_bestRate_72 (fun r72 Gc72 q72 => ?_)
            obtain ⟨er72, eGc72⟩ := q72
            rw [eGc72]
            subst er72
            refine x_as (mean (okM (aF A) 1) j (rN (aF A))) (mean_congr _ _ (fun j9 hj9 => by rw [hF _ (by omega)]; exact ((so 1 (by omega)).1 j9 hj9).2.2.2)) ?_
            refine x_iast (pc := 75) hc afN (vp_in_nI (by omega) (by decide)) dX5_bestRate_75 ?_
            refine x_G (congrArg (fun q => up2 Gx 4 q (mean (okM (aF A) 1) j (rN (aF A)))) (nI_clamp (by omega))) ?_
            refine x_Gn (fun G1 eG1 => ?_)
            refine x_iinc (pc := 76) (L' := [(4, .int (nI (j + 1))), (2, .ref (w.2.2 (b + (3 + 5 * ((yN (aF A) - 1 - 1) % 5))))), (3, .ref (w.2.2 (b + (3 + 5 * ((yN (aF A) - 1 - 0) % 5))))), (0, .ref (w.2.2 0)), (1, .int y)]) hc dX5_bestRate_76 0 rfl (nI (j + 1)) (nI_1 _) (by decide) rfl ?_
            refine x_goto (pc := 79) hc dX5_bestRate_79 47 (by decide) ?_
            refine x_loc [0, 1, 2, 3, 4] rfl ?_
            refine ih (j + 1) _ (by omega) (by omega) (fun q hq => by rw [eG1, up2_r _ _ _ hq, hF q hq]) (fun i hi => ?_)
            rw [eG1]
            by_cases h9 : i = j
            · rw [h9, up2_s]
            · rw [up2_i _ _ _ _ h9]; exact hM i (by omega)
      refine x_loc [0, 2, 1, 3, 4] rfl ?_
      exact loop47 21 0 _ (by omega) (by omega) (fun q hq => rfl) (fun i hi => by omega)
    · have c20 : ¬ 2 ≤ kN (aF A) := fun h9 => c20 ((nI_leI (a := 2) (b := kN (aF A)) (by omega) (by omega)).mpr h9)
      refine x_bipush (v := (-5)) (pc := 23) hc dX5_bestRate_23 (by decide) ?_
      exact hret _ _ _ _ dX5_bestRate_25 ⟨(by unfold qRate; rw [if_neg hy1, if_pos (by omega)]), PC_same hR⟩
  · refine x_iload_n (pc := 4) hc dX5_bestRate_4 1 rfl ?_
    refine x_iconst (v := 1) (pc := 5) hc dX5_bestRate_5 (by decide) ?_
    refine x_icmp_eq (pc := 6) hc dX5_bestRate_6 12 (by decide) (fun c6 => ?_) (fun c6 => ?_)
    · have hy1 : ¬ inB y 0 1 = 0 := by rw [c6]; decide
      refine x_aload_n (pc := 12) hc dX5_bestRate_12 0 rfl ?_
      refine x_get (pc := 13) hc cfM kcX5 4 (by decide) fl_X5_31 rfl dX5_bestRate_13 ?_
      refine x_ar b eb.symm ?_
      refine x_callVi (pc := 16) hc cl_X5_169 (cfS hb) kcX3 [] (m_X3_knownYears hI (kl K) G b (yN (aF A)) hb (by omega) u5) rfl rfl (by simp [Value.category]) rfl rfl ⟨by decide, by decide⟩ dX5_bestRate_16 (fun r16_1 Gc16_1 q16_1 => ?_)
      obtain ⟨er16_1, eGc16_1⟩ := q16_1
      rw [eGc16_1]
      subst er16_1
      refine x_as (nI (kN (aF A))) rfl ?_
      refine x_iconst (v := 2) (pc := 19) hc dX5_bestRate_19 (by decide) ?_
      refine x_icmp_ge (pc := 20) hc dX5_bestRate_20 26 (by decide) (fun c20_1 => ?_) (fun c20_1 => ?_)
      · have c20_1 : 2 ≤ kN (aF A) := (nI_leI (a := 2) (b := kN (aF A)) (by omega) (by omega)).mp c20_1
        refine x_aload_n (pc := 26) hc dX5_bestRate_26 0 rfl ?_
        refine x_get (pc := 27) hc cfM kcX5 4 (by decide) fl_X5_31 rfl dX5_bestRate_27 ?_
        refine x_ar b eb.symm ?_
        refine x_iconst (v := 1) (pc := 30) hc dX5_bestRate_30 (by decide) ?_
        refine x_callVr (pc := 31) hc cl_X5_172 (cfS hb) kcX3 [.int 1] (m_X3_endedYear hI (kl K) G b (yN (aF A)) 1 hb (by omega) u5 (by omega)) rfl rfl (by simp [Value.category]) rfl rfl ⟨by decide, by decide⟩ dX5_bestRate_31 (fun r31_1 Gc31_1 q31_1 => ?_)
        obtain ⟨er31_1, eGc31_1⟩ := q31_1
        rw [eGc31_1]
        subst er31_1
        refine x_astore_n (pc := 34) (L' := [(2, .ref (w.2.2 (b + (3 + 5 * ((yN (aF A) - 1 - 1) % 5))))), (0, .ref (w.2.2 0)), (1, .int y)]) hc dX5_bestRate_34 (by decide) rfl ?_
        refine x_aload_n (pc := 35) hc dX5_bestRate_35 1 rfl ?_
        refine x_get (pc := 36) hc cfM kcX5 4 (by decide) fl_X5_31 rfl dX5_bestRate_36 ?_
        refine x_ar b eb.symm ?_
        refine x_iconst (v := 0) (pc := 39) hc dX5_bestRate_39 (by decide) ?_
        refine x_callVr (pc := 40) hc cl_X5_172 (cfS hb) kcX3 [.int 0] (m_X3_endedYear hI (kl K) G b (yN (aF A)) 0 hb (by omega) u5 (by omega)) rfl rfl (by simp [Value.category]) rfl rfl ⟨by decide, by decide⟩ dX5_bestRate_40 (fun r40_1 Gc40_1 q40_1 => ?_)
        obtain ⟨er40_1, eGc40_1⟩ := q40_1
        rw [eGc40_1]
        subst er40_1
        refine x_astore_n (pc := 43) (L' := [(3, .ref (w.2.2 (b + (3 + 5 * ((yN (aF A) - 1 - 0) % 5))))), (2, .ref (w.2.2 (b + (3 + 5 * ((yN (aF A) - 1 - 1) % 5))))), (0, .ref (w.2.2 0)), (1, .int y)]) hc dX5_bestRate_43 (by decide) rfl ?_
        refine x_iconst (v := 0) (pc := 44) hc dX5_bestRate_44 (by decide) ?_
        refine x_istore (pc := 45) (L' := [(4, .int 0), (3, .ref (w.2.2 (b + (3 + 5 * ((yN (aF A) - 1 - 0) % 5))))), (2, .ref (w.2.2 (b + (3 + 5 * ((yN (aF A) - 1 - 1) % 5))))), (0, .ref (w.2.2 0)), (1, .int y)]) hc dX5_bestRate_45 (by decide) rfl ?_
        have loop47 : ∀ (n1 : Nat) (j : Nat) (Gx : GS), j ≤ 20 → 20 < j + n1 → (∀ q, q ≠ 4 → Gx q = G q) → (∀ i, i < j → Gx 4 i = mean (okM (aF A) 1) i (rN (aF A))) → XX w K 8 Gx 47 [(4, .int (nI j)), (2, .ref (w.2.2 (b + (3 + 5 * ((yN (aF A) - 1 - 1) % 5))))), (3, .ref (w.2.2 (b + (3 + 5 * ((yN (aF A) - 1 - 0) % 5))))), (0, .ref (w.2.2 0)), (1, .int y)] [] := by
          intro n1
          induction n1 with
          | zero => intro j Gx hj hf hF hM; omega
          | succ n1 ih =>
            intro j Gx hj hf hF hM
            refine x_iload (pc := 47) hc dX5_bestRate_47 0 rfl ?_
            refine x_bipush (v := 20) (pc := 49) hc dX5_bestRate_49 (by decide) ?_
            refine x_icmp_ge (pc := 51) hc dX5_bestRate_51 82 (by decide) (fun c51_1 => ?_) (fun c51_1 => ?_)
            · have c51_1 : 20 ≤ j := (nI_leI (a := 20) (b := j) (by omega) (by omega)).mp c51_1
              refine x_iconst (v := 0) (pc := 82) hc dX5_bestRate_82 (by decide) ?_
              refine x_istore (pc := 83) (L' := [(4, .int 0), (2, .ref (w.2.2 (b + (3 + 5 * ((yN (aF A) - 1 - 1) % 5))))), (3, .ref (w.2.2 (b + (3 + 5 * ((yN (aF A) - 1 - 0) % 5))))), (0, .ref (w.2.2 0)), (1, .int y)]) hc dX5_bestRate_83 (by decide) rfl ?_
              refine x_aload_n (pc := 85) hc dX5_bestRate_85 3 rfl ?_
              refine x_aload_n (pc := 86) hc dX5_bestRate_86 1 rfl ?_
              refine x_aload_n (pc := 87) hc dX5_bestRate_87 2 rfl ?_
              refine x_iconst (v := 0) (pc := 88) hc dX5_bestRate_88 (by decide) ?_
              refine x_callVi (pc := 89) hc cl_X5_218 cfM kcX5 [.ref (w.2.2 (b + (3 + 5 * ((yN (aF A) - 1 - 1) % 5)))), .ref (w.2.2 (b + (3 + 5 * ((yN (aF A) - 1 - 0) % 5)))), .int 0] (m_X5_sumWithRate hI (kl K) Gx (b + (3 + 5 * ((yN (aF A) - 1 - 1) % 5))) (b + (3 + 5 * ((yN (aF A) - 1 - 0) % 5))) 0 (isY_of hb (by omega)) (isY_of hb (by omega))) rfl rfl (by simp [Value.category]) rfl rfl ⟨by decide, by decide⟩ dX5_bestRate_89 (fun r89_1 Gc89_1 q89_1 => ?_)
              obtain ⟨er89_1, eGc89_1⟩ := q89_1
              rw [eGc89_1]
              subst er89_1
              refine x_as (sW (aF A) (okM (aF A) 1) (rN (aF A)) 0 20) (cS_eq 20 (fun j9 hj9 => ⟨by rw [hF _ (by omega)]; exact ((so 0 (by omega)).1 j9 hj9).2.2.1, by rw [hF _ (by omega), show 160 + j9 = 100 + 60 * 1 + j9 by omega]; exact ((so 1 (by omega)).1 j9 hj9).1, hM j9 (by omega)⟩)) ?_
              refine x_nm (fun x92_1 ex92_1 => ?_)
              refine x_istore (pc := 92) (L' := [(5, .int x92_1), (4, .int 0), (2, .ref (w.2.2 (b + (3 + 5 * ((yN (aF A) - 1 - 1) % 5))))), (3, .ref (w.2.2 (b + (3 + 5 * ((yN (aF A) - 1 - 0) % 5))))), (0, .ref (w.2.2 0)), (1, .int y)]) hc dX5_bestRate_92 (by decide) rfl ?_
              refine x_iconst (v := 1) (pc := 94) hc dX5_bestRate_94 (by decide) ?_
              refine x_istore (pc := 95) (L' := [(6, .int 1), (5, .int x92_1), (4, .int 0), (2, .ref (w.2.2 (b + (3 + 5 * ((yN (aF A) - 1 - 1) % 5))))), (3, .ref (w.2.2 (b + (3 + 5 * ((yN (aF A) - 1 - 0) % 5))))), (0, .ref (w.2.2 0)), (1, .int y)]) hc dX5_bestRate_95 (by decide) rfl ?_
              have loop97 : ∀ (n1 : Nat) (k : Nat), k ≤ 100 → 100 < k + n1 → XX w K 8 Gx 97 [(6, .int (nI (k + 1))), (5, .int ((bR (aF A) (okM (aF A) 1) (rN (aF A)) k).2)), (4, .int ((bR (aF A) (okM (aF A) 1) (rN (aF A)) k).1)), (2, .ref (w.2.2 (b + (3 + 5 * ((yN (aF A) - 1 - 1) % 5))))), (3, .ref (w.2.2 (b + (3 + 5 * ((yN (aF A) - 1 - 0) % 5))))), (0, .ref (w.2.2 0)), (1, .int y)] [] := by
                intro n1
                induction n1 with
                | zero => intro k hk hf; omega
                | succ n1 ih =>
                  intro k hk hf
                  refine x_iload (pc := 97) hc dX5_bestRate_97 0 rfl ?_
                  refine x_bipush (v := 100) (pc := 99) hc dX5_bestRate_99 (by decide) ?_
                  refine x_icmp_gt (pc := 101) hc dX5_bestRate_101 135 (by decide) (fun c101_1 => ?_) (fun c101_1 => ?_)
                  · have c101_1 : 100 < k + 1 := (nI_ltI (a := 100) (b := k + 1) (by omega) (by omega)).mp c101_1
                    refine x_iload_n (pc := 135) hc dX5_bestRate_135 6 rfl ?_
                    refine x_if_ne (pc := 136) hc dX5_bestRate_136 144 (by decide) (fun c136_1 => ?_) (fun c136_1 => ?_)
                    · refine x_iload (pc := 144) hc dX5_bestRate_144 1 rfl ?_
                      exact hret _ _ _ _ dX5_bestRate_146 ⟨(by unfold qRate; rw [if_neg hy1, if_neg (by omega), if_neg c136_1, show (100 : Nat) = k by omega]), ⟨RC_4 hR hF, fun q hq => hF q (by omega)⟩⟩
                    · refine x_iload (pc := 139) hc dX5_bestRate_139 2 rfl ?_
                      refine x_goto (pc := 141) hc dX5_bestRate_141 146 (by decide) ?_
                      exact hret _ _ _ _ dX5_bestRate_146 ⟨(by unfold qRate; rw [if_neg hy1, if_neg (by omega), if_pos c136_1, show (100 : Nat) = k by omega]), ⟨RC_4 hR hF, fun q hq => hF q (by omega)⟩⟩
                  · have c101_1 : ¬ 100 < k + 1 := fun h9 => c101_1 ((nI_ltI (a := 100) (b := k + 1) (by omega) (by omega)).mpr h9)
                    refine x_aload_n (pc := 104) hc dX5_bestRate_104 5 rfl ?_
                    refine x_aload_n (pc := 105) hc dX5_bestRate_105 3 rfl ?_
                    refine x_aload_n (pc := 106) hc dX5_bestRate_106 4 rfl ?_
                    refine x_iload (pc := 107) hc dX5_bestRate_107 0 rfl ?_
                    refine x_callVi (pc := 109) hc cl_X5_218 cfM kcX5 [.ref (w.2.2 (b + (3 + 5 * ((yN (aF A) - 1 - 1) % 5)))), .ref (w.2.2 (b + (3 + 5 * ((yN (aF A) - 1 - 0) % 5)))), .int (nI (k + 1))] (m_X5_sumWithRate hI (kl K) Gx (b + (3 + 5 * ((yN (aF A) - 1 - 1) % 5))) (b + (3 + 5 * ((yN (aF A) - 1 - 0) % 5))) (nI (k + 1)) (isY_of hb (by omega)) (isY_of hb (by omega))) rfl rfl (by simp [Value.category]) rfl rfl ⟨by decide, by decide⟩ dX5_bestRate_109 (fun r109_1 Gc109_1 q109_1 => ?_)
                    obtain ⟨er109_1, eGc109_1⟩ := q109_1
                    rw [eGc109_1]
                    subst er109_1
                    refine x_as (sW (aF A) (okM (aF A) 1) (rN (aF A)) (nI (k + 1)) 20) (cS_eq 20 (fun j9 hj9 => ⟨by rw [hF _ (by omega)]; exact ((so 0 (by omega)).1 j9 hj9).2.2.1, by rw [hF _ (by omega), show 160 + j9 = 100 + 60 * 1 + j9 by omega]; exact ((so 1 (by omega)).1 j9 hj9).1, hM j9 (by omega)⟩)) ?_
                    refine x_nm (fun x112_1 ex112_1 => ?_)
                    refine x_istore (pc := 112) (L' := [(7, .int x112_1), (6, .int (nI (k + 1))), (5, .int ((bR (aF A) (okM (aF A) 1) (rN (aF A)) k).2)), (4, .int ((bR (aF A) (okM (aF A) 1) (rN (aF A)) k).1)), (2, .ref (w.2.2 (b + (3 + 5 * ((yN (aF A) - 1 - 1) % 5))))), (3, .ref (w.2.2 (b + (3 + 5 * ((yN (aF A) - 1 - 0) % 5))))), (0, .ref (w.2.2 0)), (1, .int y)]) hc dX5_bestRate_112 (by decide) rfl ?_
                    refine x_iload (pc := 114) hc dX5_bestRate_114 0 rfl ?_
                    refine x_iload (pc := 116) hc dX5_bestRate_116 2 rfl ?_
                    refine x_icmp_ge (pc := 118) hc dX5_bestRate_118 129 (by decide) (fun c118_1 => ?_) (fun c118_1 => ?_)
                    · refine x_iinc (pc := 129) (L' := [(6, .int (nI (k + 1 + 1))), (7, .int x112_1), (5, .int ((bR (aF A) (okM (aF A) 1) (rN (aF A)) k).2)), (4, .int ((bR (aF A) (okM (aF A) 1) (rN (aF A)) k).1)), (2, .ref (w.2.2 (b + (3 + 5 * ((yN (aF A) - 1 - 1) % 5))))), (3, .ref (w.2.2 (b + (3 + 5 * ((yN (aF A) - 1 - 0) % 5))))), (0, .ref (w.2.2 0)), (1, .int y)]) hc dX5_bestRate_129 1 rfl (nI (k + 1 + 1)) (nI_1 _) (by decide) rfl ?_
                      refine x_goto (pc := 132) hc dX5_bestRate_132 97 (by decide) ?_
                      refine x_loc [0, 2, 3, 4, 5, 6, 7] rfl ?_
                      subst ex112_1
                      have h3 : bR (aF A) (okM (aF A) 1) (rN (aF A)) (k + 1) = (bR (aF A) (okM (aF A) 1) (rN (aF A)) k) := if_neg (Int32.not_lt.mpr c118_1)
                      have z8 := ih (k + 1) (by omega) (by omega)
                      rw [h3] at z8
                      exact z8
                    · refine x_iload (pc := 121) hc dX5_bestRate_121 0 rfl ?_
                      refine x_istore (pc := 123) (L' := [(5, .int x112_1), (7, .int x112_1), (6, .int (nI (k + 1))), (4, .int ((bR (aF A) (okM (aF A) 1) (rN (aF A)) k).1)), (2, .ref (w.2.2 (b + (3 + 5 * ((yN (aF A) - 1 - 1) % 5))))), (3, .ref (w.2.2 (b + (3 + 5 * ((yN (aF A) - 1 - 0) % 5))))), (0, .ref (w.2.2 0)), (1, .int y)]) hc dX5_bestRate_123 (by decide) rfl ?_
                      refine x_iload (pc := 125) hc dX5_bestRate_125 2 rfl ?_
                      refine x_istore (pc := 127) (L' := [(4, .int (nI (k + 1))), (5, .int x112_1), (7, .int x112_1), (6, .int (nI (k + 1))), (2, .ref (w.2.2 (b + (3 + 5 * ((yN (aF A) - 1 - 1) % 5))))), (3, .ref (w.2.2 (b + (3 + 5 * ((yN (aF A) - 1 - 0) % 5))))), (0, .ref (w.2.2 0)), (1, .int y)]) hc dX5_bestRate_127 (by decide) rfl ?_
                      refine x_iinc (pc := 129) (L' := [(6, .int (nI (k + 1 + 1))), (4, .int (nI (k + 1))), (5, .int x112_1), (7, .int x112_1), (2, .ref (w.2.2 (b + (3 + 5 * ((yN (aF A) - 1 - 1) % 5))))), (3, .ref (w.2.2 (b + (3 + 5 * ((yN (aF A) - 1 - 0) % 5))))), (0, .ref (w.2.2 0)), (1, .int y)]) hc dX5_bestRate_129 3 rfl (nI (k + 1 + 1)) (nI_1 _) (by decide) rfl ?_
                      refine x_goto (pc := 132) hc dX5_bestRate_132 97 (by decide) ?_
                      refine x_loc [0, 2, 1, 4, 5, 6, 7] rfl ?_
                      subst ex112_1
                      have h3 : bR (aF A) (okM (aF A) 1) (rN (aF A)) (k + 1) = (nI (k + 1), sW (aF A) (okM (aF A) 1) (rN (aF A)) (nI (k + 1)) 20) := if_pos (Int32.not_le.mp c118_1)
                      have z8 := ih (k + 1) (by omega) (by omega)
                      rw [h3] at z8
                      exact z8
              refine x_loc [0, 1, 2, 3, 4, 5, 6] rfl ?_
              rw [ex92_1]
              exact loop97 101 0 (by omega) (by omega)
            · have c51_1 : ¬ 20 ≤ j := fun h9 => c51_1 ((nI_leI (a := 20) (b := j) (by omega) (by omega)).mpr h9)
              refine x_aload_n (pc := 54) hc dX5_bestRate_54 3 rfl ?_
              refine x_get (pc := 55) hc cfM kcX5 3 (by decide) fl_X5_27 rfl dX5_bestRate_55 ?_
              refine x_iload (pc := 58) hc dX5_bestRate_58 0 rfl ?_
              refine x_aload_n (pc := 60) hc dX5_bestRate_60 1 rfl ?_
              refine x_iload (pc := 61) hc dX5_bestRate_61 0 rfl ?_
              refine x_aload_n (pc := 63) hc dX5_bestRate_63 3 rfl ?_
              refine x_get (pc := 64) hc cfM kcX5 4 (by decide) fl_X5_31 rfl dX5_bestRate_64 ?_
              refine x_ar b (by rw [hF 0 (by omega), eb]) ?_
              refine x_get (pc := 67) hc (cfS hb) kcX3 0 (by decide) fl_X5_122 rfl dX5_bestRate_67 ?_
              refine x_iconst (v := 0) (pc := 70) hc dX5_bestRate_70 (by decide) ?_
              refine x_as (nI 0) rfl ?_
              refine x_iald (pc := 71) hc (afS hb) (vp_in_nI (by omega) (by decide)) dX5_bestRate_71 ?_
              refine x_as (Gx (b + 1) 0) (congrArg _ (nI_clamp (by omega))) ?_
              refine x_as (nI (rN (aF A))) (by rw [hF _ (by omega)]; exact (s1 0 (by omega)).trans r2) ?_
              refine x_callVi (pc := 72) hc cl_X5_176 (cfY (isY_of hb (by omega))) kcX4 [.int (nI j), .int (nI (rN (aF A)))] (m_X4_meanByDays hI (kl K) Gx (b + (3 + 5 * ((yN (aF A) - 1 - 1) % 5))) j (rN (aF A)) (isY_of hb (by omega)) (by omega) (by omega)) rfl rfl (by simp [Value.category]) rfl rfl ⟨by decide, by decide⟩ dX5_bestRate_72 (fun r72_1 Gc72_1 q72_1 => ?_)
              obtain ⟨er72_1, eGc72_1⟩ := q72_1
              rw [eGc72_1]
              subst er72_1
              refine x_as (mean (okM (aF A) 1) j (rN (aF A))) (mean_congr _ _ (fun j9 hj9 => by rw [hF _ (by omega)]; exact ((so 1 (by omega)).1 j9 hj9).2.2.2)) ?_
              refine x_iast (pc := 75) hc afN (vp_in_nI (by omega) (by decide)) dX5_bestRate_75 ?_
              refine x_G (congrArg (fun q => up2 Gx 4 q (mean (okM (aF A) 1) j (rN (aF A)))) (nI_clamp (by omega))) ?_
              refine x_Gn (fun G2 eG2 => ?_)
              refine x_iinc (pc := 76) (L' := [(4, .int (nI (j + 1))), (2, .ref (w.2.2 (b + (3 + 5 * ((yN (aF A) - 1 - 1) % 5))))), (3, .ref (w.2.2 (b + (3 + 5 * ((yN (aF A) - 1 - 0) % 5))))), (0, .ref (w.2.2 0)), (1, .int y)]) hc dX5_bestRate_76 0 rfl (nI (j + 1)) (nI_1 _) (by decide) rfl ?_
              refine x_goto (pc := 79) hc dX5_bestRate_79 47 (by decide) ?_
              refine x_loc [0, 1, 2, 3, 4] rfl ?_
              refine ih (j + 1) _ (by omega) (by omega) (fun q hq => by rw [eG2, up2_r _ _ _ hq, hF q hq]) (fun i hi => ?_)
              rw [eG2]
              by_cases h9 : i = j
              · rw [h9, up2_s]
              · rw [up2_i _ _ _ _ h9]; exact hM i (by omega)
        refine x_loc [0, 2, 1, 3, 4] rfl ?_
        exact loop47 21 0 _ (by omega) (by omega) (fun q hq => rfl) (fun i hi => by omega)
      · have c20_1 : ¬ 2 ≤ kN (aF A) := fun h9 => c20_1 ((nI_leI (a := 2) (b := kN (aF A)) (by omega) (by omega)).mpr h9)
        refine x_bipush (v := (-5)) (pc := 23) hc dX5_bestRate_23 (by decide) ?_
        exact hret _ _ _ _ dX5_bestRate_25 ⟨(by unfold qRate; rw [if_neg hy1, if_pos (by omega)]), PC_same hR⟩
    · have hy0 : inB y 0 1 = 0 := inB_d1 c1 c6
      refine x_bipush (v := (-2)) (pc := 9) hc dX5_bestRate_9 (by decide) ?_
      exact hret _ _ _ _ dX5_bestRate_11 ⟨(by unfold qRate; rw [if_pos hy0]), PC_same hR⟩
