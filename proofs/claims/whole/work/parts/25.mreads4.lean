set_option maxHeartbeats 4000000 in
set_option maxRecDepth 100000 in
theorem M_bestBound {w : WT} (hI : xI w) (l : Launch) (G : GS) (y : Int32) (B : Nat) (hR : MR G) (hV : AV (aOf G) B) : Mi w l yX6_bestBound cX6_bestBound 7 (some .int) ⟨1, 0, 0, 25⟩ [.ref (w.2.2 239), .int y] G (fun v9 G' => v9 = qBound (aOf G) y ∧ PMq G G' (aOf G)) := by
  refine mk_i (L0 := [(0, .ref (w.2.2 239)), (1, .int y)]) hI (by decide +kernel) rfl (Nat.le_of_ble_eq_true rfl) (fun _ _ _ => rfl) (fun K hc hret => ?_)
  have hn : aN (aOf G) ≤ 4 := hV.1
  have h300 : G 240 300 = nI (dN (G 240)) := hV.2.1.1.2
  have hdN : dN (G 240) < 20 := hV.2.1.1.1
  have h303a : G 240 303 = nI (rN (G 240)) := hV.2.1.2.2.1.2
  have hrN : rN (G 240) ≤ 9 := hV.2.1.2.2.1.1
  have hsn : rSn (G 240) (cN (G 240)) := hV.2.1.2.2.2.2.1
  have hcN := hsn.1
  have h302 : G 240 302 = nI (kN (G 240)) := hV.2.1.2.1.2.2
  have hkN : kN (G 240) ≤ 4 := by unfold kN; omega
  refine x_iload_n (pc := 0) hc dX6_bestBound_0 1 rfl ?_
  refine x_iconst (v := 0) (pc := 1) hc dX6_bestBound_1 (by decide) ?_
  refine x_iconst (v := 1) (pc := 2) hc dX6_bestBound_2 (by decide) ?_
  refine x_callSi (pc := 3) hc cl_X6_29 [.int y, .int 0, .int 1] (m_X6_in hI (kl K) G y 0 1) rfl rfl (by simp [Value.category]) rfl rfl ⟨by decide, by decide⟩ dX6_bestBound_3 (fun r3 Gc3 q3 => ?_)
  obtain ⟨er3, eGc3⟩ := q3
  rw [eGc3]
  subst er3
  refine x_if_ne (pc := 6) hc dX6_bestBound_6 12 (by decide) (fun c6 => ?_) (fun c6 => ?_)
  · refine x_aload_n (pc := 12) hc dX6_bestBound_12 0 rfl ?_
    refine x_get (pc := 13) hc cfR kcX6 0 (by decide) fl_X6_7 rfl dX6_bestBound_13 ?_
    refine x_sipush (v := 302) (pc := 16) hc dX6_bestBound_16 (by decide) ?_
    refine x_as (nI 302) rfl ?_
    refine x_iald (pc := 19) hc af0 (vp_in_nI (by omega) (by decide)) dX6_bestBound_19 ?_
    refine x_as (G 240 302) (congrArg _ (nI_clamp (by omega))) ?_
    refine x_if_ne (pc := 20) hc dX6_bestBound_20 26 (by decide) (fun c20 => ?_) (fun c20 => ?_)
    · refine x_iconst (v := 0) (pc := 26) hc dX6_bestBound_26 (by decide) ?_
      refine x_istore_n (pc := 27) (L' := [(2, .int 0), (0, .ref (w.2.2 239)), (1, .int y)]) hc dX6_bestBound_27 (by decide) rfl ?_
      refine x_aload_n (pc := 28) hc dX6_bestBound_28 1 rfl ?_
      refine x_iconst (v := 0) (pc := 29) hc dX6_bestBound_29 (by decide) ?_
      refine x_callVi (pc := 30) hc cl_X6_151 cfR kcX6 [.int 0] (m_X6_wrongs hI (kl K) G 0) rfl rfl (by simp [Value.category]) rfl rfl ⟨by decide, by decide⟩ dX6_bestBound_30 (fun r30 Gc30 q30 => ?_)
      obtain ⟨er30, eGc30⟩ := q30
      rw [eGc30]
      subst er30
      refine x_nm (fun x33 ex33 => ?_)
      refine x_istore_n (pc := 33) (L' := [(3, .int x33), (2, .int 0), (0, .ref (w.2.2 239)), (1, .int y)]) hc dX6_bestBound_33 (by decide) rfl ?_
      refine x_iconst (v := 1) (pc := 34) hc dX6_bestBound_34 (by decide) ?_
      refine x_istore (pc := 35) (L' := [(4, .int 1), (3, .int x33), (2, .int 0), (0, .ref (w.2.2 239)), (1, .int y)]) hc dX6_bestBound_35 (by decide) rfl ?_
      have loop37 : ∀ (n1 : Nat) (k : Nat), k ≤ 20 → 20 < k + n1 → XX w K 7 G 37 [(4, .int (nI (k + 1))), (3, .int ((bB (G 240) k).2)), (2, .int ((bB (G 240) k).1)), (0, .ref (w.2.2 239)), (1, .int y)] [] := by
        intro n1
        induction n1 with
        | zero => intro k hk hf; omega
        | succ n1 ih =>
          intro k hk hf
          refine x_iload (pc := 37) hc dX6_bestBound_37 0 rfl ?_
          refine x_bipush (v := 20) (pc := 39) hc dX6_bestBound_39 (by decide) ?_
          refine x_icmp_gt (pc := 41) hc dX6_bestBound_41 120 (by decide) (fun c41 => ?_) (fun c41 => ?_)
          · have c41 : 20 < k + 1 := (nI_ltI (a := 20) (b := k + 1) (by omega) (by omega)).mp c41
            refine x_iload_n (pc := 120) hc dX6_bestBound_120 4 rfl ?_
            refine x_if_ne (pc := 121) hc dX6_bestBound_121 132 (by decide) (fun c121 => ?_) (fun c121 => ?_)
            · refine x_iload_n (pc := 132) hc dX6_bestBound_132 1 rfl ?_
              exact hret _ _ _ _ dX6_bestBound_133 ⟨(by unfold qBound; rw [if_neg c6, if_neg c20, if_neg c121, show (20 : Nat) = k by omega]), PMq_same hR (fun _ _ => rfl)⟩
            · refine x_iload_n (pc := 124) hc dX6_bestBound_124 2 rfl ?_
              refine x_sipush (v := 1000) (pc := 125) hc dX6_bestBound_125 (by decide) ?_
              refine x_iadd (pc := 128) hc dX6_bestBound_128 ?_
              refine x_goto (pc := 129) hc dX6_bestBound_129 133 (by decide) ?_
              exact hret _ _ _ _ dX6_bestBound_133 ⟨(by unfold qBound; rw [if_neg c6, if_neg c20, if_pos c121, show (20 : Nat) = k by omega]), PMq_same hR (fun _ _ => rfl)⟩
          · have c41 : ¬ 20 < k + 1 := fun h9 => c41 ((nI_ltI (a := 20) (b := k + 1) (by omega) (by omega)).mpr h9)
            refine x_aload_n (pc := 44) hc dX6_bestBound_44 3 rfl ?_
            refine x_iload (pc := 45) hc dX6_bestBound_45 0 rfl ?_
            refine x_ineg (pc := 47) hc dX6_bestBound_47 ?_
            refine x_callVi (pc := 48) hc cl_X6_151 cfR kcX6 [.int (-(nI (k + 1)))] (m_X6_wrongs hI (kl K) G (-(nI (k + 1)))) rfl rfl (by simp [Value.category]) rfl rfl ⟨by decide, by decide⟩ dX6_bestBound_48 (fun r48 Gc48 q48 => ?_)
            obtain ⟨er48, eGc48⟩ := q48
            rw [eGc48]
            subst er48
            refine x_nm (fun x51 ex51 => ?_)
            refine x_istore (pc := 51) (L' := [(5, .int x51), (4, .int (nI (k + 1))), (3, .int ((bB (G 240) k).2)), (2, .int ((bB (G 240) k).1)), (0, .ref (w.2.2 239)), (1, .int y)]) hc dX6_bestBound_51 (by decide) rfl ?_
            refine x_iload (pc := 53) hc dX6_bestBound_53 0 rfl ?_
            refine x_iload_n (pc := 55) hc dX6_bestBound_55 2 rfl ?_
            refine x_icmp_ge (pc := 56) hc dX6_bestBound_56 65 (by decide) (fun c56 => ?_) (fun c56 => ?_)
            · refine x_iload_n (pc := 65) hc dX6_bestBound_65 3 rfl ?_
              refine x_nm (fun x66 ex66 => ?_)
              refine x_istore_n (pc := 66) (L' := [(2, .int x66), (5, .int x51), (4, .int (nI (k + 1))), (3, .int ((bB (G 240) k).2)), (0, .ref (w.2.2 239)), (1, .int y)]) hc dX6_bestBound_66 (by decide) rfl ?_
              refine x_iload (pc := 67) hc dX6_bestBound_67 1 rfl ?_
              refine x_iload_n (pc := 69) hc dX6_bestBound_69 3 rfl ?_
              refine x_icmp_ge (pc := 70) hc dX6_bestBound_70 78 (by decide) (fun c70 => ?_) (fun c70 => ?_)
              · refine x_iload_n (pc := 78) hc dX6_bestBound_78 3 rfl ?_
                refine x_nm (fun x79 ex79 => ?_)
                refine x_istore_n (pc := 79) (L' := [(3, .int x79), (2, .int x66), (5, .int x51), (4, .int (nI (k + 1))), (0, .ref (w.2.2 239)), (1, .int y)]) hc dX6_bestBound_79 (by decide) rfl ?_
                refine x_aload_n (pc := 80) hc dX6_bestBound_80 4 rfl ?_
                refine x_iload (pc := 81) hc dX6_bestBound_81 3 rfl ?_
                refine x_callVi (pc := 83) hc cl_X6_151 cfR kcX6 [.int (nI (k + 1))] (m_X6_wrongs hI (kl K) G (nI (k + 1))) rfl rfl (by simp [Value.category]) rfl rfl ⟨by decide, by decide⟩ dX6_bestBound_83 (fun r83 Gc83 q83 => ?_)
                obtain ⟨er83, eGc83⟩ := q83
                rw [eGc83]
                subst er83
                refine x_nm (fun x86 ex86 => ?_)
                refine x_istore (pc := 86) (L' := [(6, .int x86), (3, .int x79), (2, .int x66), (5, .int x51), (4, .int (nI (k + 1))), (0, .ref (w.2.2 239)), (1, .int y)]) hc dX6_bestBound_86 (by decide) rfl ?_
                refine x_iload (pc := 88) hc dX6_bestBound_88 0 rfl ?_
                refine x_iload_n (pc := 90) hc dX6_bestBound_90 1 rfl ?_
                refine x_icmp_ge (pc := 91) hc dX6_bestBound_91 99 (by decide) (fun c91 => ?_) (fun c91 => ?_)
                · refine x_iload_n (pc := 99) hc dX6_bestBound_99 2 rfl ?_
                  refine x_istore_n (pc := 100) (L' := [(2, .int x66), (6, .int x86), (3, .int x79), (5, .int x51), (4, .int (nI (k + 1))), (0, .ref (w.2.2 239)), (1, .int y)]) hc dX6_bestBound_100 (by decide) rfl ?_
                  refine x_iload (pc := 101) hc dX6_bestBound_101 1 rfl ?_
                  refine x_iload_n (pc := 103) hc dX6_bestBound_103 2 rfl ?_
                  refine x_icmp_ge (pc := 104) hc dX6_bestBound_104 112 (by decide) (fun c104 => ?_) (fun c104 => ?_)
                  · refine x_iload_n (pc := 112) hc dX6_bestBound_112 2 rfl ?_
                    refine x_istore_n (pc := 113) (L' := [(3, .int x79), (2, .int x66), (6, .int x86), (5, .int x51), (4, .int (nI (k + 1))), (0, .ref (w.2.2 239)), (1, .int y)]) hc dX6_bestBound_113 (by decide) rfl ?_
                    refine x_iinc (pc := 114) (L' := [(4, .int (nI (k + 1 + 1))), (3, .int x79), (2, .int x66), (6, .int x86), (5, .int x51), (0, .ref (w.2.2 239)), (1, .int y)]) hc dX6_bestBound_114 4 rfl (nI (k + 1 + 1)) (nI_1 _) (by decide) rfl ?_
                    refine x_goto (pc := 117) hc dX6_bestBound_117 37 (by decide) ?_
                    refine x_loc [0, 1, 2, 5, 6] rfl ?_
                    subst ex51
                    subst ex66
                    subst ex79
                    subst ex86
                    have h1 : bB1 (G 240) (bB (G 240) k) k = (bB (G 240) k) := if_neg (Int32.not_lt.mpr c56)
                    have h2 : bB2 (G 240) (bB (G 240) k) k = (bB (G 240) k) := if_neg (Int32.not_lt.mpr c91)
                    have z8 := ih (k + 1) (by omega) (by omega)
                    have h3 : bB (G 240) (k + 1) = (bB (G 240) k) := (congrArg (fun z => bB2 (G 240) z k) h1).trans h2
                    rw [h3] at z8
                    exact z8
                  · exact absurd c91 c104
                · refine x_iload (pc := 94) hc dX6_bestBound_94 4 rfl ?_
                  refine x_goto (pc := 96) hc dX6_bestBound_96 100 (by decide) ?_
                  refine x_istore_n (pc := 100) (L' := [(2, .int (nI (k + 1))), (6, .int x86), (3, .int x79), (5, .int x51), (4, .int (nI (k + 1))), (0, .ref (w.2.2 239)), (1, .int y)]) hc dX6_bestBound_100 (by decide) rfl ?_
                  refine x_iload (pc := 101) hc dX6_bestBound_101 1 rfl ?_
                  refine x_iload_n (pc := 103) hc dX6_bestBound_103 2 rfl ?_
                  refine x_icmp_ge (pc := 104) hc dX6_bestBound_104 112 (by decide) (fun c104_1 => ?_) (fun c104_1 => ?_)
                  · exact absurd c104_1 c91
                  · refine x_iload (pc := 107) hc dX6_bestBound_107 1 rfl ?_
                    refine x_goto (pc := 109) hc dX6_bestBound_109 113 (by decide) ?_
                    refine x_istore_n (pc := 113) (L' := [(3, .int x86), (2, .int (nI (k + 1))), (6, .int x86), (5, .int x51), (4, .int (nI (k + 1))), (0, .ref (w.2.2 239)), (1, .int y)]) hc dX6_bestBound_113 (by decide) rfl ?_
                    refine x_iinc (pc := 114) (L' := [(4, .int (nI (k + 1 + 1))), (3, .int x86), (2, .int (nI (k + 1))), (6, .int x86), (5, .int x51), (0, .ref (w.2.2 239)), (1, .int y)]) hc dX6_bestBound_114 4 rfl (nI (k + 1 + 1)) (nI_1 _) (by decide) rfl ?_
                    refine x_goto (pc := 117) hc dX6_bestBound_117 37 (by decide) ?_
                    refine x_loc [0, 1, 2, 5, 6] rfl ?_
                    subst ex51
                    subst ex66
                    subst ex79
                    subst ex86
                    have h1 : bB1 (G 240) (bB (G 240) k) k = (bB (G 240) k) := if_neg (Int32.not_lt.mpr c56)
                    have h2 : bB2 (G 240) (bB (G 240) k) k = (nI (k + 1), wr (G 240) (nI (k + 1)) 20) := if_pos (Int32.not_le.mp c91)
                    have z8 := ih (k + 1) (by omega) (by omega)
                    have h3 : bB (G 240) (k + 1) = (nI (k + 1), wr (G 240) (nI (k + 1)) 20) := (congrArg (fun z => bB2 (G 240) z k) h1).trans h2
                    rw [h3] at z8
                    exact z8
              · exact absurd c56 c70
            · refine x_iload (pc := 59) hc dX6_bestBound_59 1 rfl ?_
              refine x_ineg (pc := 61) hc dX6_bestBound_61 ?_
              refine x_goto (pc := 62) hc dX6_bestBound_62 66 (by decide) ?_
              refine x_nm (fun x66_1 ex66_1 => ?_)
              refine x_istore_n (pc := 66) (L' := [(2, .int x66_1), (5, .int x51), (4, .int (nI (k + 1))), (3, .int ((bB (G 240) k).2)), (0, .ref (w.2.2 239)), (1, .int y)]) hc dX6_bestBound_66 (by decide) rfl ?_
              refine x_iload (pc := 67) hc dX6_bestBound_67 1 rfl ?_
              refine x_iload_n (pc := 69) hc dX6_bestBound_69 3 rfl ?_
              refine x_icmp_ge (pc := 70) hc dX6_bestBound_70 78 (by decide) (fun c70_1 => ?_) (fun c70_1 => ?_)
              · exact absurd c70_1 c56
              · refine x_iload (pc := 73) hc dX6_bestBound_73 1 rfl ?_
                refine x_goto (pc := 75) hc dX6_bestBound_75 79 (by decide) ?_
                refine x_istore_n (pc := 79) (L' := [(3, .int x51), (2, .int x66_1), (5, .int x51), (4, .int (nI (k + 1))), (0, .ref (w.2.2 239)), (1, .int y)]) hc dX6_bestBound_79 (by decide) rfl ?_
                refine x_aload_n (pc := 80) hc dX6_bestBound_80 4 rfl ?_
                refine x_iload (pc := 81) hc dX6_bestBound_81 3 rfl ?_
                refine x_callVi (pc := 83) hc cl_X6_151 cfR kcX6 [.int (nI (k + 1))] (m_X6_wrongs hI (kl K) G (nI (k + 1))) rfl rfl (by simp [Value.category]) rfl rfl ⟨by decide, by decide⟩ dX6_bestBound_83 (fun r83_1 Gc83_1 q83_1 => ?_)
                obtain ⟨er83_1, eGc83_1⟩ := q83_1
                rw [eGc83_1]
                subst er83_1
                refine x_nm (fun x86_1 ex86_1 => ?_)
                refine x_istore (pc := 86) (L' := [(6, .int x86_1), (3, .int x51), (2, .int x66_1), (5, .int x51), (4, .int (nI (k + 1))), (0, .ref (w.2.2 239)), (1, .int y)]) hc dX6_bestBound_86 (by decide) rfl ?_
                refine x_iload (pc := 88) hc dX6_bestBound_88 0 rfl ?_
                refine x_iload_n (pc := 90) hc dX6_bestBound_90 1 rfl ?_
                refine x_icmp_ge (pc := 91) hc dX6_bestBound_91 99 (by decide) (fun c91_1 => ?_) (fun c91_1 => ?_)
                · refine x_iload_n (pc := 99) hc dX6_bestBound_99 2 rfl ?_
                  refine x_istore_n (pc := 100) (L' := [(2, .int x66_1), (6, .int x86_1), (3, .int x51), (5, .int x51), (4, .int (nI (k + 1))), (0, .ref (w.2.2 239)), (1, .int y)]) hc dX6_bestBound_100 (by decide) rfl ?_
                  refine x_iload (pc := 101) hc dX6_bestBound_101 1 rfl ?_
                  refine x_iload_n (pc := 103) hc dX6_bestBound_103 2 rfl ?_
                  refine x_icmp_ge (pc := 104) hc dX6_bestBound_104 112 (by decide) (fun c104_2 => ?_) (fun c104_2 => ?_)
                  · refine x_iload_n (pc := 112) hc dX6_bestBound_112 2 rfl ?_
                    refine x_istore_n (pc := 113) (L' := [(3, .int x51), (2, .int x66_1), (6, .int x86_1), (5, .int x51), (4, .int (nI (k + 1))), (0, .ref (w.2.2 239)), (1, .int y)]) hc dX6_bestBound_113 (by decide) rfl ?_
                    refine x_iinc (pc := 114) (L' := [(4, .int (nI (k + 1 + 1))), (3, .int x51), (2, .int x66_1), (6, .int x86_1), (5, .int x51), (0, .ref (w.2.2 239)), (1, .int y)]) hc dX6_bestBound_114 4 rfl (nI (k + 1 + 1)) (nI_1 _) (by decide) rfl ?_
                    refine x_goto (pc := 117) hc dX6_bestBound_117 37 (by decide) ?_
                    refine x_loc [0, 1, 2, 5, 6] rfl ?_
                    subst ex51
                    subst ex66_1
                    subst ex86_1
                    have h1 : bB1 (G 240) (bB (G 240) k) k = (-nI (k + 1), wr (G 240) (-nI (k + 1)) 20) := if_pos (Int32.not_le.mp c56)
                    have h2 : bB2 (G 240) (-nI (k + 1), wr (G 240) (-nI (k + 1)) 20) k = (-nI (k + 1), wr (G 240) (-nI (k + 1)) 20) := if_neg (Int32.not_lt.mpr c91_1)
                    have z8 := ih (k + 1) (by omega) (by omega)
                    have h3 : bB (G 240) (k + 1) = (-nI (k + 1), wr (G 240) (-nI (k + 1)) 20) := (congrArg (fun z => bB2 (G 240) z k) h1).trans h2
                    rw [h3] at z8
                    exact z8
                  · exact absurd c91_1 c104_2
                · refine x_iload (pc := 94) hc dX6_bestBound_94 4 rfl ?_
                  refine x_goto (pc := 96) hc dX6_bestBound_96 100 (by decide) ?_
                  refine x_istore_n (pc := 100) (L' := [(2, .int (nI (k + 1))), (6, .int x86_1), (3, .int x51), (5, .int x51), (4, .int (nI (k + 1))), (0, .ref (w.2.2 239)), (1, .int y)]) hc dX6_bestBound_100 (by decide) rfl ?_
                  refine x_iload (pc := 101) hc dX6_bestBound_101 1 rfl ?_
                  refine x_iload_n (pc := 103) hc dX6_bestBound_103 2 rfl ?_
                  refine x_icmp_ge (pc := 104) hc dX6_bestBound_104 112 (by decide) (fun c104_3 => ?_) (fun c104_3 => ?_)
                  · exact absurd c104_3 c91_1
                  · refine x_iload (pc := 107) hc dX6_bestBound_107 1 rfl ?_
                    refine x_goto (pc := 109) hc dX6_bestBound_109 113 (by decide) ?_
                    refine x_istore_n (pc := 113) (L' := [(3, .int x86_1), (2, .int (nI (k + 1))), (6, .int x86_1), (5, .int x51), (4, .int (nI (k + 1))), (0, .ref (w.2.2 239)), (1, .int y)]) hc dX6_bestBound_113 (by decide) rfl ?_
                    refine x_iinc (pc := 114) (L' := [(4, .int (nI (k + 1 + 1))), (3, .int x86_1), (2, .int (nI (k + 1))), (6, .int x86_1), (5, .int x51), (0, .ref (w.2.2 239)), (1, .int y)]) hc dX6_bestBound_114 4 rfl (nI (k + 1 + 1)) (nI_1 _) (by decide) rfl ?_
                    refine x_goto (pc := 117) hc dX6_bestBound_117 37 (by decide) ?_
                    refine x_loc [0, 1, 2, 5, 6] rfl ?_
                    subst ex51
                    subst ex66_1
                    subst ex86_1
                    have h1 : bB1 (G 240) (bB (G 240) k) k = (-nI (k + 1), wr (G 240) (-nI (k + 1)) 20) := if_pos (Int32.not_le.mp c56)
                    have h2 : bB2 (G 240) (-nI (k + 1), wr (G 240) (-nI (k + 1)) 20) k = (nI (k + 1), wr (G 240) (nI (k + 1)) 20) := if_pos (Int32.not_le.mp c91_1)
                    have z8 := ih (k + 1) (by omega) (by omega)
                    have h3 : bB (G 240) (k + 1) = (nI (k + 1), wr (G 240) (nI (k + 1)) 20) := (congrArg (fun z => bB2 (G 240) z k) h1).trans h2
                    rw [h3] at z8
                    exact z8
      refine x_loc [0, 1, 2, 3, 4] rfl ?_
      rw [ex33]
      exact loop37 21 0 (by omega) (by omega)
    · refine x_bipush (v := (-5)) (pc := 23) hc dX6_bestBound_23 (by decide) ?_
      exact hret _ _ _ _ dX6_bestBound_25 ⟨(by unfold qBound; rw [if_neg (c6), if_pos (c20)]), PMq_same hR (fun _ _ => rfl)⟩
  · refine x_bipush (v := (-2)) (pc := 9) hc dX6_bestBound_9 (by decide) ?_
    exact hret _ _ _ _ dX6_bestBound_11 ⟨(by unfold qBound; rw [if_pos (c6)]), PMq_same hR (fun _ _ => rfl)⟩
set_option maxHeartbeats 4000000 in
set_option maxRecDepth 100000 in
theorem m_X6_sumWith {w : WT} (hI : xI w) (l : Launch) (G : GS) (t : Int32) (r : Nat) (hr : r ≤ 9) (h3 : G 240 303 = nI r) : Mi w l yX6_sumWith cX6_sumWith 4 (some .int) ⟨4, 0, 0, 89⟩ [.ref (w.2.2 239), .int t] G (fun r' G' => r' = sW (G 240) (G 244) r t 20 ∧ G' = G) := by
  refine mk_i (L0 := [(0, .ref (w.2.2 239)), (1, .int t)]) hI (by decide +kernel) rfl (Nat.le_of_ble_eq_true rfl) (fun _ _ _ => rfl) (fun K hc hret => ?_)
  refine x_iconst (v := 0) (pc := 0) hc dX6_sumWith_0 (by decide) ?_
  refine x_istore_n (pc := 1) (L' := [(2, .int 0), (0, .ref (w.2.2 239)), (1, .int t)]) hc dX6_sumWith_1 (by decide) rfl ?_
  refine x_iconst (v := 0) (pc := 2) hc dX6_sumWith_2 (by decide) ?_
  refine x_istore_n (pc := 3) (L' := [(3, .int 0), (2, .int 0), (0, .ref (w.2.2 239)), (1, .int t)]) hc dX6_sumWith_3 (by decide) rfl ?_
  have loop4 : ∀ (n1 : Nat) (k : Nat), k ≤ 20 → 20 < k + n1 → XX w K 4 G 4 [(3, .int (nI k)), (2, .int (sW (G 240) (G 244) r t k)), (0, .ref (w.2.2 239)), (1, .int t)] [] := by
    intro n1
    induction n1 with
    | zero => intro k hk hf; omega
    | succ n1 ih =>
      intro k hk hf
      refine x_iload_n (pc := 4) hc dX6_sumWith_4 0 rfl ?_
      refine x_bipush (v := 20) (pc := 5) hc dX6_sumWith_5 (by decide) ?_
      refine x_icmp_ge (pc := 7) hc dX6_sumWith_7 48 (by decide) (fun c7 => ?_) (fun c7 => ?_)
      · have c7 : 20 ≤ k := (nI_leI (a := 20) (b := k) (by omega) (by omega)).mp c7
        refine x_iload_n (pc := 48) hc dX6_sumWith_48 1 rfl ?_
        exact hret _ _ _ _ dX6_sumWith_49 ⟨by rw [show (20 : Nat) = k by omega], rfl⟩
      · have c7 : ¬ 20 ≤ k := fun h9 => c7 ((nI_leI (a := 20) (b := k) (by omega) (by omega)).mpr h9)
        refine x_iload_n (pc := 10) hc dX6_sumWith_10 1 rfl ?_
        refine x_aload_n (pc := 11) hc dX6_sumWith_11 2 rfl ?_
        refine x_get (pc := 12) hc cfR kcX6 0 (by decide) fl_X6_7 rfl dX6_sumWith_12 ?_
        refine x_bipush (v := 60) (pc := 15) hc dX6_sumWith_15 (by decide) ?_
        refine x_iload_n (pc := 17) hc dX6_sumWith_17 0 rfl ?_
        refine x_iadd (pc := 18) hc dX6_sumWith_18 ?_
        refine x_as (nI (60 + k)) (nI_add _ _) ?_
        refine x_iald (pc := 19) hc af0 (vp_in_nI (by omega) (by decide)) dX6_sumWith_19 ?_
        refine x_as (G 240 (60 + k)) (congrArg _ (nI_clamp (by omega))) ?_
        refine x_aload_n (pc := 20) hc dX6_sumWith_20 2 rfl ?_
        refine x_aload_n (pc := 21) hc dX6_sumWith_21 2 rfl ?_
        refine x_get (pc := 22) hc cfR kcX6 0 (by decide) fl_X6_7 rfl dX6_sumWith_22 ?_
        refine x_sipush (v := 160) (pc := 25) hc dX6_sumWith_25 (by decide) ?_
        refine x_iload_n (pc := 28) hc dX6_sumWith_28 0 rfl ?_
        refine x_iadd (pc := 29) hc dX6_sumWith_29 ?_
        refine x_as (nI (160 + k)) (nI_add _ _) ?_
        refine x_iald (pc := 30) hc af0 (vp_in_nI (by omega) (by decide)) dX6_sumWith_30 ?_
        refine x_as (G 240 (160 + k)) (congrArg _ (nI_clamp (by omega))) ?_
        refine x_iload_n (pc := 31) hc dX6_sumWith_31 0 rfl ?_
        refine x_iload_n (pc := 32) hc dX6_sumWith_32 3 rfl ?_
        refine x_callVi (pc := 33) hc cl_X6_62 cfR kcX6 [.int (G 240 (160 + k)), .int (nI k), .int t] (m_X6_mended hI (kl K) G (G 240 (160 + k)) t k r (by omega) hr h3) rfl rfl (by simp [Value.category]) rfl rfl ⟨by decide, by decide⟩ dX6_sumWith_33 (fun r33 Gc33 q33 => ?_)
        obtain ⟨er33, eGc33⟩ := q33
        rw [eGc33]
        subst er33
        refine x_isub (pc := 36) hc dX6_sumWith_36 ?_
        refine x_callSi (pc := 37) hc cl_X6_73 [.int ((G 240 (60 + k)) - (bnd ((G 240 (160 + k)) + mean (G 244) k r * t / 100)))] (m_X6_size hI (kl K) G ((G 240 (60 + k)) - (bnd ((G 240 (160 + k)) + mean (G 244) k r * t / 100)))) rfl rfl (by simp [Value.category]) rfl rfl ⟨by decide, by decide⟩ dX6_sumWith_37 (fun r37 Gc37 q37 => ?_)
        obtain ⟨er37, eGc37⟩ := q37
        rw [eGc37]
        subst er37
        refine x_iadd (pc := 40) hc dX6_sumWith_40 ?_
        refine x_nm (fun x41 ex41 => ?_)
        refine x_istore_n (pc := 41) (L' := [(2, .int x41), (3, .int (nI k)), (0, .ref (w.2.2 239)), (1, .int t)]) hc dX6_sumWith_41 (by decide) rfl ?_
        refine x_iinc (pc := 42) (L' := [(3, .int (nI (k + 1))), (2, .int x41), (0, .ref (w.2.2 239)), (1, .int t)]) hc dX6_sumWith_42 1 rfl (nI (k + 1)) (nI_1 _) (by decide) rfl ?_
        refine x_goto (pc := 45) hc dX6_sumWith_45 4 (by decide) ?_
        refine x_loc [0, 1, 2, 3] rfl ?_
        rw [ex41]
        exact ih (k + 1) (by omega) (by omega)
  refine x_loc [0, 1, 2, 3] rfl ?_
  exact loop4 21 0 (by omega) (by omega)
set_option maxHeartbeats 4000000 in
set_option maxRecDepth 100000 in
theorem M_bestRate {w : WT} (hI : xI w) (l : Launch) (G : GS) (y : Int32) (B : Nat) (hR : MR G) (hV : AV (aOf G) B) : Mi w l yX6_bestRate cX6_bestRate 6 (some .int) ⟨5, 0, 0, 112⟩ [.ref (w.2.2 239), .int y] G (fun v9 G' => v9 = qRate (aOf G) y ∧ PMq G G' (aOf G)) := by
  refine mk_i (L0 := [(0, .ref (w.2.2 239)), (1, .int y)]) hI (by decide +kernel) rfl (Nat.le_of_ble_eq_true rfl) (fun _ _ _ => rfl) (fun K hc hret => ?_)
  have hn : aN (aOf G) ≤ 4 := hV.1
  have h300 : G 240 300 = nI (dN (G 240)) := hV.2.1.1.2
  have hdN : dN (G 240) < 20 := hV.2.1.1.1
  have h303a : G 240 303 = nI (rN (G 240)) := hV.2.1.2.2.1.2
  have hrN : rN (G 240) ≤ 9 := hV.2.1.2.2.1.1
  have hsn : rSn (G 240) (cN (G 240)) := hV.2.1.2.2.2.2.1
  have hcN := hsn.1
  have h302 : G 240 302 = nI (kN (G 240)) := hV.2.1.2.1.2.2
  have hkN : kN (G 240) ≤ 4 := by unfold kN; omega
  refine x_iload_n (pc := 0) hc dX6_bestRate_0 1 rfl ?_
  refine x_iconst (v := 0) (pc := 1) hc dX6_bestRate_1 (by decide) ?_
  refine x_iconst (v := 1) (pc := 2) hc dX6_bestRate_2 (by decide) ?_
  refine x_callSi (pc := 3) hc cl_X6_29 [.int y, .int 0, .int 1] (m_X6_in hI (kl K) G y 0 1) rfl rfl (by simp [Value.category]) rfl rfl ⟨by decide, by decide⟩ dX6_bestRate_3 (fun r3 Gc3 q3 => ?_)
  obtain ⟨er3, eGc3⟩ := q3
  rw [eGc3]
  subst er3
  refine x_if_ne (pc := 6) hc dX6_bestRate_6 12 (by decide) (fun c6 => ?_) (fun c6 => ?_)
  · refine x_aload_n (pc := 12) hc dX6_bestRate_12 0 rfl ?_
    refine x_get (pc := 13) hc cfR kcX6 0 (by decide) fl_X6_7 rfl dX6_bestRate_13 ?_
    refine x_sipush (v := 302) (pc := 16) hc dX6_bestRate_16 (by decide) ?_
    refine x_as (nI 302) rfl ?_
    refine x_iald (pc := 19) hc af0 (vp_in_nI (by omega) (by decide)) dX6_bestRate_19 ?_
    refine x_as (G 240 302) (congrArg _ (nI_clamp (by omega))) ?_
    refine x_as (nI (kN (G 240))) h302 ?_
    refine x_iconst (v := 2) (pc := 20) hc dX6_bestRate_20 (by decide) ?_
    refine x_icmp_ge (pc := 21) hc dX6_bestRate_21 27 (by decide) (fun c21 => ?_) (fun c21 => ?_)
    · have c21 : 2 ≤ kN (G 240) := (nI_leI (a := 2) (b := kN (G 240)) (by omega) (by omega)).mp c21
      refine x_aload_n (pc := 27) hc dX6_bestRate_27 0 rfl ?_
      refine x_iconst (v := 1) (pc := 28) hc dX6_bestRate_28 (by decide) ?_
      refine x_callVv (pc := 29) hc cl_X6_135 cfR kcX6 [.int 1] (gm_0 G ▸ m_X6_looks hI (kl K) G 1 (G 240) (G 240) (G 244) (by omega)) rfl rfl (by simp [Value.category]) rfl rfl ⟨by decide, by decide⟩ dX6_bestRate_29 (fun Gc29 q29 => ?_)
      rw [q29]
      refine x_iconst (v := 0) (pc := 32) hc dX6_bestRate_32 (by decide) ?_
      refine x_istore_n (pc := 33) (L' := [(2, .int 0), (0, .ref (w.2.2 239)), (1, .int y)]) hc dX6_bestRate_33 (by decide) rfl ?_
      refine x_aload_n (pc := 34) hc dX6_bestRate_34 1 rfl ?_
      refine x_iconst (v := 0) (pc := 35) hc dX6_bestRate_35 (by decide) ?_
      refine x_callVi (pc := 36) hc cl_X6_154 cfR kcX6 [.int 0] (m_X6_sumWith hI (kl K) (GM G 0 (G 240) (G 240) (lkRow (G 240) (G 244) 1 20)) 0 (rN (G 240)) hrN (h303.at (p := 0) (s := G 240) (f := G 240) (r := rN (G 240)) ⟨hrN, Or.inl ⟨rfl, h303a⟩⟩ rfl _ _)) rfl rfl (by simp [Value.category]) rfl rfl ⟨by decide, by decide⟩ dX6_bestRate_36 (fun r36 Gc36 q36 => ?_)
      obtain ⟨ev9, eg9⟩ := q36
      rw [eg9]
      have ev8 : r36 = sW (G 240) (lkRow (G 240) (G 244) 1 20) (rN (G 240)) 0 20 := ev9.trans (congrArg (fun z => sW z (lkRow (G 240) (G 244) 1 20) (rN (G 240)) 0 20) (gm_240 _ _ _ _))
      subst ev8
      refine x_nm (fun x39 ex39 => ?_)
      refine x_istore_n (pc := 39) (L' := [(3, .int x39), (2, .int 0), (0, .ref (w.2.2 239)), (1, .int y)]) hc dX6_bestRate_39 (by decide) rfl ?_
      refine x_iconst (v := 1) (pc := 40) hc dX6_bestRate_40 (by decide) ?_
      refine x_istore (pc := 41) (L' := [(4, .int 1), (3, .int x39), (2, .int 0), (0, .ref (w.2.2 239)), (1, .int y)]) hc dX6_bestRate_41 (by decide) rfl ?_
      have loop43 : ∀ (n1 : Nat) (k : Nat), k ≤ 100 → 100 < k + n1 → XX w K 6 (GM G 0 (G 240) (G 240) (lkRow (G 240) (G 244) 1 20)) 43 [(4, .int (nI (k + 1))), (3, .int ((bR (G 240) (lkRow (G 240) (G 244) 1 20) (rN (G 240)) k).2)), (2, .int ((bR (G 240) (lkRow (G 240) (G 244) 1 20) (rN (G 240)) k).1)), (0, .ref (w.2.2 239)), (1, .int y)] [] := by
        intro n1
        induction n1 with
        | zero => intro k hk hf; omega
        | succ n1 ih =>
          intro k hk hf
          refine x_iload (pc := 43) hc dX6_bestRate_43 0 rfl ?_
          refine x_bipush (v := 100) (pc := 45) hc dX6_bestRate_45 (by decide) ?_
          refine x_icmp_gt (pc := 47) hc dX6_bestRate_47 90 (by decide) (fun c47 => ?_) (fun c47 => ?_)
          · have c47 : 100 < k + 1 := (nI_ltI (a := 100) (b := k + 1) (by omega) (by omega)).mp c47
            refine x_iload_n (pc := 90) hc dX6_bestRate_90 4 rfl ?_
            refine x_if_ne (pc := 91) hc dX6_bestRate_91 98 (by decide) (fun c91 => ?_) (fun c91 => ?_)
            · refine x_iload_n (pc := 98) hc dX6_bestRate_98 1 rfl ?_
              exact hret _ _ _ _ dX6_bestRate_99 ⟨(by unfold qRate; rw [if_neg c6, if_neg (show ¬ kN (G 240) < 2 by omega), if_neg c91, ← bR_congr (rN (G 240)) (fun j hj => lkRow_in (G 240) (G 244) 1 hj), show (100 : Nat) = k by omega]), PMq_same hR (gm_same G _)⟩
            · refine x_iload_n (pc := 94) hc dX6_bestRate_94 2 rfl ?_
              refine x_goto (pc := 95) hc dX6_bestRate_95 99 (by decide) ?_
              exact hret _ _ _ _ dX6_bestRate_99 ⟨(by unfold qRate; rw [if_neg c6, if_neg (show ¬ kN (G 240) < 2 by omega), if_pos c91, ← bR_congr (rN (G 240)) (fun j hj => lkRow_in (G 240) (G 244) 1 hj), show (100 : Nat) = k by omega]), PMq_same hR (gm_same G _)⟩
          · have c47 : ¬ 100 < k + 1 := fun h9 => c47 ((nI_ltI (a := 100) (b := k + 1) (by omega) (by omega)).mpr h9)
            refine x_aload_n (pc := 50) hc dX6_bestRate_50 3 rfl ?_
            refine x_iload (pc := 51) hc dX6_bestRate_51 0 rfl ?_
            refine x_callVi (pc := 53) hc cl_X6_154 cfR kcX6 [.int (nI (k + 1))] (m_X6_sumWith hI (kl K) (GM G 0 (G 240) (G 240) (lkRow (G 240) (G 244) 1 20)) (nI (k + 1)) (rN (G 240)) hrN (h303.at (p := 0) (s := G 240) (f := G 240) (r := rN (G 240)) ⟨hrN, Or.inl ⟨rfl, h303a⟩⟩ rfl _ _)) rfl rfl (by simp [Value.category]) rfl rfl ⟨by decide, by decide⟩ dX6_bestRate_53 (fun r53 Gc53 q53 => ?_)
            obtain ⟨ev9, eg9⟩ := q53
            rw [eg9]
            have ev8 : r53 = sW (G 240) (lkRow (G 240) (G 244) 1 20) (rN (G 240)) (nI (k + 1)) 20 := ev9.trans (congrArg (fun z => sW z (lkRow (G 240) (G 244) 1 20) (rN (G 240)) (nI (k + 1)) 20) (gm_240 _ _ _ _))
            subst ev8
            refine x_nm (fun x56 ex56 => ?_)
            refine x_istore (pc := 56) (L' := [(5, .int x56), (4, .int (nI (k + 1))), (3, .int ((bR (G 240) (lkRow (G 240) (G 244) 1 20) (rN (G 240)) k).2)), (2, .int ((bR (G 240) (lkRow (G 240) (G 244) 1 20) (rN (G 240)) k).1)), (0, .ref (w.2.2 239)), (1, .int y)]) hc dX6_bestRate_56 (by decide) rfl ?_
            refine x_iload (pc := 58) hc dX6_bestRate_58 0 rfl ?_
            refine x_iload_n (pc := 60) hc dX6_bestRate_60 2 rfl ?_
            refine x_icmp_ge (pc := 61) hc dX6_bestRate_61 69 (by decide) (fun c61 => ?_) (fun c61 => ?_)
            · refine x_iload_n (pc := 69) hc dX6_bestRate_69 3 rfl ?_
              refine x_nm (fun x70 ex70 => ?_)
              refine x_istore_n (pc := 70) (L' := [(2, .int x70), (5, .int x56), (4, .int (nI (k + 1))), (3, .int ((bR (G 240) (lkRow (G 240) (G 244) 1 20) (rN (G 240)) k).2)), (0, .ref (w.2.2 239)), (1, .int y)]) hc dX6_bestRate_70 (by decide) rfl ?_
              refine x_iload (pc := 71) hc dX6_bestRate_71 1 rfl ?_
              refine x_iload_n (pc := 73) hc dX6_bestRate_73 3 rfl ?_
              refine x_icmp_ge (pc := 74) hc dX6_bestRate_74 82 (by decide) (fun c74 => ?_) (fun c74 => ?_)
              · refine x_iload_n (pc := 82) hc dX6_bestRate_82 3 rfl ?_
                refine x_nm (fun x83 ex83 => ?_)
                refine x_istore_n (pc := 83) (L' := [(3, .int x83), (2, .int x70), (5, .int x56), (4, .int (nI (k + 1))), (0, .ref (w.2.2 239)), (1, .int y)]) hc dX6_bestRate_83 (by decide) rfl ?_
                refine x_iinc (pc := 84) (L' := [(4, .int (nI (k + 1 + 1))), (3, .int x83), (2, .int x70), (5, .int x56), (0, .ref (w.2.2 239)), (1, .int y)]) hc dX6_bestRate_84 3 rfl (nI (k + 1 + 1)) (nI_1 _) (by decide) rfl ?_
                refine x_goto (pc := 87) hc dX6_bestRate_87 43 (by decide) ?_
                refine x_loc [0, 1, 2, 4, 5] rfl ?_
                subst ex56
                subst ex70
                subst ex83
                have h3 : bR (G 240) (lkRow (G 240) (G 244) 1 20) (rN (G 240)) (k + 1) = (bR (G 240) (lkRow (G 240) (G 244) 1 20) (rN (G 240)) k) := if_neg (Int32.not_lt.mpr c61)
                have z8 := ih (k + 1) (by omega) (by omega)
                rw [h3] at z8
                exact z8
              · exact absurd c61 c74
            · refine x_iload (pc := 64) hc dX6_bestRate_64 1 rfl ?_
              refine x_goto (pc := 66) hc dX6_bestRate_66 70 (by decide) ?_
              refine x_istore_n (pc := 70) (L' := [(2, .int (nI (k + 1))), (5, .int x56), (4, .int (nI (k + 1))), (3, .int ((bR (G 240) (lkRow (G 240) (G 244) 1 20) (rN (G 240)) k).2)), (0, .ref (w.2.2 239)), (1, .int y)]) hc dX6_bestRate_70 (by decide) rfl ?_
              refine x_iload (pc := 71) hc dX6_bestRate_71 1 rfl ?_
              refine x_iload_n (pc := 73) hc dX6_bestRate_73 3 rfl ?_
              refine x_icmp_ge (pc := 74) hc dX6_bestRate_74 82 (by decide) (fun c74_1 => ?_) (fun c74_1 => ?_)
              · exact absurd c74_1 c61
              · refine x_iload (pc := 77) hc dX6_bestRate_77 1 rfl ?_
                refine x_goto (pc := 79) hc dX6_bestRate_79 83 (by decide) ?_
                refine x_istore_n (pc := 83) (L' := [(3, .int x56), (2, .int (nI (k + 1))), (5, .int x56), (4, .int (nI (k + 1))), (0, .ref (w.2.2 239)), (1, .int y)]) hc dX6_bestRate_83 (by decide) rfl ?_
                refine x_iinc (pc := 84) (L' := [(4, .int (nI (k + 1 + 1))), (3, .int x56), (2, .int (nI (k + 1))), (5, .int x56), (0, .ref (w.2.2 239)), (1, .int y)]) hc dX6_bestRate_84 3 rfl (nI (k + 1 + 1)) (nI_1 _) (by decide) rfl ?_
                refine x_goto (pc := 87) hc dX6_bestRate_87 43 (by decide) ?_
                refine x_loc [0, 1, 2, 4, 5] rfl ?_
                subst ex56
                have h3 : bR (G 240) (lkRow (G 240) (G 244) 1 20) (rN (G 240)) (k + 1) = (nI (k + 1), sW (G 240) (lkRow (G 240) (G 244) 1 20) (rN (G 240)) (nI (k + 1)) 20) := if_pos (Int32.not_le.mp c61)
                have z8 := ih (k + 1) (by omega) (by omega)
                rw [h3] at z8
                exact z8
      refine x_loc [0, 1, 2, 3, 4] rfl ?_
      rw [ex39]
      exact loop43 101 0 (by omega) (by omega)
    · have c21 : ¬ 2 ≤ kN (G 240) := fun h9 => c21 ((nI_leI (a := 2) (b := kN (G 240)) (by omega) (by omega)).mpr h9)
      refine x_bipush (v := (-5)) (pc := 24) hc dX6_bestRate_24 (by decide) ?_
      exact hret _ _ _ _ dX6_bestRate_26 ⟨(by unfold qRate; rw [if_neg c6, if_pos (show kN (G 240) < 2 by omega)]), PMq_same hR (fun _ _ => rfl)⟩
  · refine x_bipush (v := (-2)) (pc := 9) hc dX6_bestRate_9 (by decide) ?_
    exact hret _ _ _ _ dX6_bestRate_11 ⟨(by unfold qRate; rw [if_pos c6]), PMq_same hR (fun _ _ => rfl)⟩
set_option maxHeartbeats 4000000 in
set_option maxRecDepth 100000 in
theorem M_ifMeasured {w : WT} (hI : xI w) (l : Launch) (G : GS) (x v : Int32) (B : Nat) (hR : MR G) (hV : AV (aOf G) B) : Mi w l yX6_ifMeasured cX6_ifMeasured 4 (some .int) ⟨6, 0, 0, 138⟩ [.ref (w.2.2 239), .int x, .int v] G (fun v9 G' => v9 = qIf (aOf G) x v ∧ PMq G G' (aOf G)) := by
  refine mk_i (L0 := [(0, .ref (w.2.2 239)), (1, .int x), (2, .int v)]) hI (by decide +kernel) rfl (Nat.le_of_ble_eq_true rfl) (fun _ _ _ => rfl) (fun K hc hret => ?_)
  have hn : aN (aOf G) ≤ 4 := hV.1
  have h300 : G 240 300 = nI (dN (G 240)) := hV.2.1.1.2
  have hdN : dN (G 240) < 20 := hV.2.1.1.1
  have h303a : G 240 303 = nI (rN (G 240)) := hV.2.1.2.2.1.2
  have hrN : rN (G 240) ≤ 9 := hV.2.1.2.2.1.1
  have hsn : rSn (G 240) (cN (G 240)) := hV.2.1.2.2.2.2.1
  have hcN := hsn.1
  have h302 : G 240 302 = nI (kN (G 240)) := hV.2.1.2.1.2.2
  have hkN : kN (G 240) ≤ 4 := by unfold kN; omega
  refine x_iload_n (pc := 0) hc dX6_ifMeasured_0 1 rfl ?_
  refine x_callSi (pc := 1) hc cl_X6_91 [.int x] (m_X6_isReader hI (kl K) G x) rfl rfl (by simp [Value.category]) rfl rfl ⟨by decide, by decide⟩ dX6_ifMeasured_1 (fun r1 Gc1 q1 => ?_)
  obtain ⟨er1, eGc1⟩ := q1
  rw [eGc1]
  subst er1
  refine x_if_ne (pc := 4) hc dX6_ifMeasured_4 9 (by decide) (fun c4 => ?_) (fun c4 => ?_)
  · obtain ⟨d, hd, rfl⟩ := inB_nat (n := 3) rfl c4
    have zd : (nI d).toNatClampNeg = d := nI_clamp (by omega)
    refine x_iload_n (pc := 9) hc dX6_ifMeasured_9 2 rfl ?_
    refine x_bipush (v := (-40)) (pc := 10) hc dX6_ifMeasured_10 (by decide) ?_
    refine x_bipush (v := 40) (pc := 12) hc dX6_ifMeasured_12 (by decide) ?_
    refine x_callSi (pc := 14) hc cl_X6_29 [.int v, .int (-40), .int 40] (m_X6_in hI (kl K) G v (-40) 40) rfl rfl (by simp [Value.category]) rfl rfl ⟨by decide, by decide⟩ dX6_ifMeasured_14 (fun r14 Gc14 q14 => ?_)
    obtain ⟨er14, eGc14⟩ := q14
    rw [eGc14]
    subst er14
    refine x_if_ne (pc := 17) hc dX6_ifMeasured_17 23 (by decide) (fun c17 => ?_) (fun c17 => ?_)
    · refine x_aload_n (pc := 23) hc dX6_ifMeasured_23 0 rfl ?_
      refine x_callVv (pc := 24) hc cl_X6_157 cfR kcX6 [] (m_X6_copies hI (kl K) G) rfl rfl (by simp [Value.category]) rfl rfl ⟨by decide, by decide⟩ dX6_ifMeasured_24 (fun Gc24 q24 => ?_)
      rw [q24]
      refine x_aload_n (pc := 27) hc dX6_ifMeasured_27 0 rfl ?_
      refine x_sipush (v := 354) (pc := 28) hc dX6_ifMeasured_28 (by decide) ?_
      refine x_iload_n (pc := 31) hc dX6_ifMeasured_31 2 rfl ?_
      rw [← gm_p (up1 G 240 (cpRow (G 240) (G 240) 354 354)) 354]
      have hcp : (fun i => (up1 G 240 (cpRow (G 240) (G 240) 354 354)) 240 (354 + i)) = cpf (G 240) := by
        funext i
        show up1 G 240 _ 240 (354 + i) = _
        rw [up1_s]
        rfl
      rw [hcp]
      have e300 : cpf (G 240) 300 = nI (dN (G 240)) := by rw [cpf_in _ (by omega)]; exact h300
      have hsn2 : rSn (cpf (G 240)) (cN (G 240)) := rSn_congr (fun i _ h9 => cpf_in _ (by omega)) hsn
      have e303 : (up1 G 240 (cpRow (G 240) (G 240) 354 354)) 240 303 = nI (rN (G 240)) := by
        rw [up1_s]
        unfold cpRow
        rw [if_neg (by omega)]
        exact h303a
      refine x_callVi (pc := 32) hc cl_X6_82 cfR kcX6 [.int 354, .int v] (m_X6_measures hI (kl K) (up1 G 240 (cpRow (G 240) (G 240) 354 354)) v (dN (G 240)) (cN (G 240)) (rN (G 240)) 354 ((up1 G 240 (cpRow (G 240) (G 240) 354 354)) 240) (cpf (G 240)) ((up1 G 240 (cpRow (G 240) (G 240) 354 354)) 244) (by omega) hdN e300 hsn2 ⟨hrN, Or.inr ⟨rfl, e303⟩⟩) rfl rfl (by simp [Value.category]) rfl rfl ⟨by decide, by decide⟩ dX6_ifMeasured_32 (fun r32 Gc32 q32 => ?_)
      obtain ⟨ev9, eg9⟩ := q32
      rw [eg9]
      refine x_istore_n (pc := 35) (L' := [(3, .int r32), (0, .ref (w.2.2 239)), (1, .int (nI d)), (2, .int v)]) hc dX6_ifMeasured_35 (by decide) rfl ?_
      refine x_aload_n (pc := 36) hc dX6_ifMeasured_36 1 rfl ?_
      refine x_get (pc := 37) hc cfR kcX6 0 (by decide) fl_X6_7 rfl dX6_ifMeasured_37 ?_
      refine x_sipush (v := 354) (pc := 40) hc dX6_ifMeasured_40 (by decide) ?_
      refine x_iload_n (pc := 43) hc dX6_ifMeasured_43 2 rfl ?_
      refine x_callSi (pc := 44) hc cl_X6_25 [.int 354, .int (nI d)] (m_X6_reader hI (kl K) (GM (up1 G 240 (cpRow (G 240) (G 240) 354 354)) 354 ((up1 G 240 (cpRow (G 240) (G 240) 354 354)) 240) (rMeas (cpf (G 240)) v (dN (G 240)) (rN (G 240))) (rMis (cpf (G 240)) ((up1 G 240 (cpRow (G 240) (G 240) 354 354)) 244) v (dN (G 240)))) 354 d) rfl rfl (by simp [Value.category]) rfl rfl ⟨by decide, by decide⟩ dX6_ifMeasured_44 (fun r44 Gc44 q44 => ?_)
      obtain ⟨er44, eGc44⟩ := q44
      rw [eGc44]
      subst er44
      refine x_iconst (v := 0) (pc := 47) hc dX6_ifMeasured_47 (by decide) ?_
      refine x_iadd (pc := 48) hc dX6_ifMeasured_48 ?_
      refine x_as (nI (354 + 328 + 5 * d + 0)) (nI_add _ _) ?_
      refine x_iald (pc := 49) hc af0 (vp_in_nI (by omega) (by decide)) dX6_ifMeasured_49 ?_
      refine x_as ((rMeas (cpf (G 240)) v (dN (G 240)) (rN (G 240))) (328 + 5 * d + 0)) (gm_ld (by omega) (by omega)) ?_
      exact hret _ _ _ _ dX6_ifMeasured_50 ⟨(by unfold qIf; rw [if_neg c4, if_neg c17, zd]), PMq_240 hR (fun i hi => by
          show lft 354 ((up1 G 240 (cpRow (G 240) (G 240) 354 354)) 240) _ i = _
          unfold lft
          rw [if_pos hi, up1_s]
          unfold cpRow
          rw [if_neg (by omega)]) (fun q h1 h2 => by
          show up1 (up1 (up1 G 240 (cpRow (G 240) (G 240) 354 354)) 240 _) 244 _ q = _
          rw [up1_n _ _ h2, up1_n _ _ h1, up1_n _ _ h1])⟩
    · refine x_bipush (v := (-2)) (pc := 20) hc dX6_ifMeasured_20 (by decide) ?_
      exact hret _ _ _ _ dX6_ifMeasured_22 ⟨(by unfold qIf; rw [if_neg (c4), if_pos (c17)]), PMq_same hR (fun _ _ => rfl)⟩
  · refine x_iconst (v := (-1)) (pc := 7) hc dX6_ifMeasured_7 (by decide) ?_
    exact hret _ _ _ _ dX6_ifMeasured_8 ⟨(by unfold qIf; rw [if_pos (c4)]), PMq_same hR (fun _ _ => rfl)⟩
