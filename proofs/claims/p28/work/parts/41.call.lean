theorem BZ_meas (f : Nat → Int32) (w : Int32) (d r : Nat) : BZ (rMeas f w d r) := by
  intro k hk _
  have hz : rGo f w d (328 + 5 * k + 2) = 0 := (rMid_z _ _ _ _ _ _ _ hk).2
  unfold rMeas
  split
  · rw [rEnds_n _ _ _ (by omega)]; exact hz
  · exact hz
theorem BZ_rep {f : Nat → Int32} {v : Int32} (h : BZ f) : ∀ k, BZ (rRep f v k)
  | 0 => h
  | _ + 1 => BZ_meas _ _ _ _
theorem rMeas_353 {f : Nat → Int32} {w : Int32} {d r : Nat} (hd : d < 20) : rMeas f w d r 353 = f 353 + 1 := by
  have h : rGo f w d 353 = f 353 + 1 := by
    unfold rGo rMid
    rw [upd_n _ _ (by omega), upd_s, upd_n _ _ (by omega)]
    unfold rSettled
    rw [rSets_n2 _ _ _ _ 4 (by omega) (by omega) (by omega), rPre_n _ _ _ _ _ _ _ hd (by omega) (by omega)]
  unfold rMeas
  split
  · rw [rEnds_n _ _ _ (by omega)]; exact h
  · exact h
theorem rRep_353 {f : Nat → Int32} {v : Int32} {B : Nat} (hV : RV f B) : ∀ k, B + k < 2 ^ 31 → rRep f v k 353 = f 353 + nI k
  | 0 => fun _ => (Int32.add_zero _).symm
  | k + 1 => fun hk => by
    show rMeas (rRep f v k) v (dN (rRep f v k)) (rN (rRep f v k)) 353 = _
    rw [rMeas_353 (RV_rep v k (by omega) hV).1.1, rRep_353 hV k (by omega), Int32.add_assoc, nI_1]
theorem aAll_s {tx : Nat → Int32} {ln k pl : Nat} {f : Nat → Int32} {n : Int32} (h : pl < ln) : aAll tx ln (k + 1) pl f n = aAll tx ln k ((dEnd tx ln pl).2 + 1) (rRep f (dWarm tx ln pl) (mN tx ln pl)) (n + dMany tx ln pl) := if_pos h
theorem aAll_e {tx : Nat → Int32} {ln pl : Nat} {f : Nat → Int32} {n : Int32} (h : ln ≤ pl) : ∀ k, aAll tx ln k pl f n = (n, f)
  | 0 => rfl
  | _ + 1 => if_neg (by omega)
theorem aAll_c {tx tx' : Nat → Int32} {ln : Nat} (h : ∀ i, i < ln → tx i = tx' i) : ∀ k pl f n, aAll tx ln k pl f n = aAll tx' ln k pl f n
  | 0, _, _, _ => rfl
  | k + 1, pl, f, n => by
    unfold aAll mN
    rw [dEnd_c h, dWarm_c h, dMany_c h, aAll_c h k]
theorem dEnd_out (tx : Nat → Int32) (ln : Nat) : dEnd tx ln ln = (false, ln) := by
  have h : wEnd tx ln ln = (false, ln) := by
    have hs : sg tx ln ln = -1 := if_neg (by omega)
    unfold wEnd
    rw [hs, if_neg (by decide)]
    exact nE_f0 (by rw [dg_out (by omega)]; decide)
  exact dE_f h (fun z => by cases z)
theorem RC_all {G Gr Gx : GS} {A : AT} {B B' b : Nat} {fx : Nat → Int32} (eb : b = stb (G 0 4)) (hR : RC Gr (aRem A)) (gn : Gr 0 4 = G 0 4) (gU : ∀ q, 239 ≤ q → Gr q = G q) (hV : AV A B) (hV' : RV fx B') (hS : Sim (gv Gx b) fx) (h1 : Gx 1 1 = nI (aL A)) (hF : ∀ q, q ≠ 1 → (q < b ∨ b + 39 ≤ q) → Gx q = Gr q) : PCq G Gx (aPut (aRem A) fx) := by
  have h := PC_put eb hR gn gU hV hV' hS
  have hb := hR.1.1.2.2.2.2
  rw [gn, ← eb] at hb
  have hl := isB_lt hb
  have hgq : ∀ q, q ≠ 1 → Gx q = GC Gr b (gv Gx b) q := fun q hq => by
    by_cases h9 : b ≤ q ∧ q < b + 39
    · rw [gc_in Gr b (gv Gx b) (q := q) (c := q - b) (by omega) (by omega)]
      show Gx q = Gx (b + (q - b))
      rw [show b + (q - b) = q by omega]
    · rw [gc_out _ _ _ (by omega), hF q hq (by omega)]
  refine ⟨RC_txt h.1 (fun q u v => hgq q u) (aL A) (aT A) h1 (fun i hi => ?_), fun q hq => ?_⟩
  · rw [hF 2 (by omega) (by omega)]
    exact hR.2.2.2.2.2.2.1.2 i hi
  · rw [hF q (by omega) (by omega)]
    exact gU q hq
set_option maxHeartbeats 4000000 in
set_option maxRecDepth 100000 in
theorem C_measureAll {w : WT} (hI : xI w) (l : Launch) (G : GS) (A : AT) (B : Nat) (hR : RC G A) (hV : AV A B) (hZ : AZ A) (hB : B + 2000 < 2 ^ 30) : Mi w l yX5_measureAll cX5_measureAll 5 (some .int) ⟨6, 0, 0, 141⟩ [.ref (w.2.2 0)] G (fun v9 G' => v9 = qAll A ∧ PCq G G' (tAll A)) := by
  refine mk_i (L0 := [(0, .ref (w.2.2 0))]) hI (by decide +kernel) rfl (Nat.le_of_ble_eq_true rfl) (fun _ _ _ => rfl) (fun K hc hret => ?_)
  obtain ⟨b, eb⟩ : ∃ b, b = stb (G 0 4) := ⟨_, rfl⟩
  obtain ⟨h1, h2, h3, h4, h5, h6, h7, h8⟩ := id hR
  rw [← eb] at h2
  have hb : isB b := by rw [eb]; exact h1.1.2.2.2.2
  have hlb := isB_lt hb
  have hS0 := h2
  obtain ⟨s1, ⟨t4, t5, t6, t7, t8, t9, t10, t11, t12⟩, s3, s4, ⟨y1, y2, y3, y4⟩, so⟩ := h2
  have hRV := hV.2.1
  obtain ⟨⟨d1, d2⟩, ⟨v1, v2, v3⟩, ⟨r1, r2⟩, ho, ⟨c1, c2, c3⟩, hb4⟩ := id hRV
  have hd20 := Nat.le_of_lt d1
  have hn4 := hV.1
  have u4 : G b 4 = nI (cN (aF A)) := t4.trans c2
  have u5 : G b 5 = nI (yN (aF A)) := t5.trans v2
  have u6 : G b 6 = nI (dN (aF A)) := t6.trans d2
  have hln := hV.2.2.2.2.2
  refine x_aload_n (pc := 0) hc dX5_measureAll_0 0 rfl ?_
  refine x_get (pc := 1) hc cfM kcX5 0 (by decide) fl_X5_12 rfl dX5_measureAll_1 ?_
  refine x_callVi (pc := 4) hc cl_X5_53 cfT kcX0 [] (m_X0_findFault hI (kl K) G (aL A) hln h7.1) rfl rfl (by simp [Value.category]) rfl rfl ⟨by decide, by decide⟩ dX5_measureAll_4 (fun r4 Gc4 q4 => ?_)
  obtain ⟨z4, f4, s4f⟩ := q4
  have hR4 : RC Gc4 A := RC_txt hR (fun q u v => f4 q u) (aL A) (aT A) (s4f.trans h7.1) (fun i hi => by rw [f4 2 (by omega)]; exact h7.2 i hi)
  have hx4 := fFault_c h7.2 60 0
  refine x_as (qFault A) (z4.trans hx4) ?_
  refine x_nm (fun x7 ex7 => ?_)
  refine x_istore_n (pc := 7) (L' := [(1, .int x7), (0, .ref (w.2.2 0))]) hc dX5_measureAll_7 (by decide) rfl ?_
  subst ex7
  refine x_iload_n (pc := 8) hc dX5_measureAll_8 0 rfl ?_
  refine x_bipush (v := (-5)) (pc := 9) hc dX5_measureAll_9 (by decide) ?_
  refine x_icmp_eq (pc := 11) hc dX5_measureAll_11 19 (by decide) (fun c11 => ?_) (fun c11 => ?_)
  · have hq5 : qFault A = -5 := c11
    refine x_aload_n (pc := 19) hc dX5_measureAll_19 1 rfl ?_
    refine x_callVv (pc := 20) hc cl_X5_46 cfM kcX5 [] (m_X5_remember hI (kl K) Gc4 A B hR4 hV) rfl rfl (by simp [Value.category]) rfl rfl ⟨by decide, by decide⟩ dX5_measureAll_20 (fun Gc20 q20 => ?_)
    obtain ⟨gR, gU, gn, gN⟩ := q20
    have gn : Gc20 0 4 = G 0 4 := gn.trans (congrFun (f4 0 (by omega)) 4)
    have gU : ∀ q, 239 ≤ q → Gc20 q = G q := fun q hq => (gU q hq).trans (f4 q (by omega))
    have hg0 : Sim (gv Gc20 b) (aF A) := by
      have q := gR.2.1
      rw [gn, ← eb] at q
      exact q
    obtain ⟨tx, etx⟩ : ∃ tx, tx = Gc20 2 := ⟨_, rfl⟩
    have htx : ∀ i, i < aL A → tx i = aT A i := by
      rw [etx]
      exact gR.2.2.2.2.2.2.1.2
    have hFa : fFault tx (aL A) 60 0 = -5 := (fFault_c htx 60 0).trans hq5
    obtain ⟨Gr, eGr⟩ : ∃ Gr, Gr = Gc20 := ⟨_, rfl⟩
    rw [← eGr] at gR gU gn gN hg0 etx
    refine x_G eGr.symm ?_
    refine x_aload_n (pc := 23) hc dX5_measureAll_23 1 rfl ?_
    refine x_get (pc := 24) hc cfM kcX5 4 (by decide) fl_X5_31 rfl dX5_measureAll_24 ?_
    refine x_ar b (by rw [gn, eb]) ?_
    refine x_get (pc := 27) hc (cfS hb) kcX3 7 (by decide) fl_X5_57 rfl dX5_measureAll_27 ?_
    refine x_as (aF A 353) hg0.2.1.2.2.2.1 ?_
    refine x_nm (fun x30 ex30 => ?_)
    refine x_istore_n (pc := 30) (L' := [(2, .int x30), (1, .int (qFault A)), (0, .ref (w.2.2 0))]) hc dX5_measureAll_30 (by decide) rfl ?_
    subst ex30
    refine x_aload_n (pc := 31) hc dX5_measureAll_31 2 rfl ?_
    refine x_get (pc := 32) hc cfM kcX5 0 (by decide) fl_X5_12 rfl dX5_measureAll_32 ?_
    refine x_callVv (pc := 35) hc cl_X5_60 cfT kcX0 [] (m_X0_goToStart hI (kl K) Gr) rfl rfl (by simp [Value.category]) rfl rfl ⟨by decide, by decide⟩ dX5_measureAll_35 (fun Gc35 q35 => ?_)
    refine x_iconst (v := 0) (pc := 38) hc dX5_measureAll_38 (by decide) ?_
    refine x_istore_n (pc := 39) (L' := [(3, .int 0), (2, .int (aF A 353)), (1, .int (qFault A)), (0, .ref (w.2.2 0))]) hc dX5_measureAll_39 (by decide) rfl ?_
    have loop40 : ∀ (n1 : Nat) (j pl pc9 : Nat) (Gx : GS) (fx : Nat → Int32) (n9 : Int32), j ≤ 60 → 60 < j + n1 → Gx 1 1 = nI (aL A) → Gx 1 2 = nI pc9 → (∀ q, q ≠ 1 → (q < b ∨ b + 39 ≤ q) → Gx q = Gr q) → Sim (gv Gx b) fx → RV fx (B + 10 * pl) → BZ fx → ((pc9 = pl ∧ pl < aL A ∧ 2 * j ≤ pl ∧ fFault tx (aL A) (60 - j) pl = -5) ∨ (pc9 = aL A ∧ aL A ≤ pl ∧ pl ≤ 61)) → aAll tx (aL A) (61 - j) pl fx n9 = aAll tx (aL A) 61 0 (aF A) 0 → fx 353 = aF A 353 + n9 → XX w K 5 Gx 40 [(3, .int (nI j)), (0, .ref (w.2.2 0)), (2, .int (aF A 353))] [] := by
      intro n1
      induction n1 with
      | zero => intro j pl pc9 Gx fx n9 hj hf hl9 hp9 hF hSx hVx hZx hP hE hM; omega
      | succ n1 ih =>
        intro j pl pc9 Gx fx n9 hj hf hl9 hp9 hF hSx hVx hZx hP hE hM
        have hpb : pc9 < 900 := by
          rcases hP with ⟨h, h2, _⟩ | ⟨h, h2, _⟩
          · omega
          · omega
        have hpl : pl ≤ 61 := by
          rcases hP with ⟨h, h2, _⟩ | ⟨h, h2, h3⟩
          · omega
          · omega
        refine x_iload_n (pc := 40) hc dX5_measureAll_40 0 rfl ?_
        refine x_bipush (v := 60) (pc := 41) hc dX5_measureAll_41 (by decide) ?_
        refine x_icmp_ge (pc := 43) hc dX5_measureAll_43 105 (by decide) (fun c43 => ?_) (fun c43 => ?_)
        · have c43 : 60 ≤ j := (nI_leI (a := 60) (b := j) (by omega) (by omega)).mp c43
          refine x_aload_n (pc := 105) hc dX5_measureAll_105 1 rfl ?_
          refine x_get (pc := 106) hc cfM kcX5 4 (by decide) fl_X5_31 rfl dX5_measureAll_106 ?_
          refine x_ar b (by rw [hF 0 (by omega) (by omega), gn, eb]) ?_
          refine x_get (pc := 109) hc (cfS hb) kcX3 7 (by decide) fl_X5_57 rfl dX5_measureAll_109 ?_
          refine x_as (fx 353) hSx.2.1.2.2.2.1 ?_
          refine x_iload_n (pc := 112) hc dX5_measureAll_112 2 rfl ?_
          refine x_isub (pc := 113) hc dX5_measureAll_113 ?_
          exact hret _ _ _ _ dX5_measureAll_114 (by
              have hq : aL A ≤ pl := by
                rcases hP with ⟨h, h1, h2, _⟩ | ⟨h, h1, _⟩
                · omega
                · exact h1
              rw [aAll_e hq] at hE
              have hE2 := hE.trans (aAll_c htx 61 0 (aF A) 0)
              refine ⟨?_, ?_⟩
              · unfold qAll
                rw [if_pos hq5]
                rw [← hE2, hM, Int32.add_comm, Int32.add_sub_cancel]
              · unfold tAll
                rw [if_pos hq5, ← hE2]
                exact RC_all eb gR gn gU hV hVx hSx hl9 hF)
        · have c43 : ¬ 60 ≤ j := fun h9 => c43 ((nI_leI (a := 60) (b := j) (by omega) (by omega)).mpr h9)
          refine x_aload_n (pc := 46) hc dX5_measureAll_46 1 rfl ?_
          refine x_get (pc := 47) hc cfM kcX5 0 (by decide) fl_X5_12 rfl dX5_measureAll_47 ?_
          refine x_callVi (pc := 50) hc cl_X5_63 cfT kcX0 [] (m_X0_readEntry hI (kl K) Gx (aL A) pc9 hln hl9 hp9 hpb) rfl rfl (by simp [Value.category]) rfl rfl ⟨by decide, by decide⟩ dX5_measureAll_50 (fun r50 Gc50 q50 => ?_)
          obtain ⟨z50, f50, s50⟩ := q50
          rw [hF 2 (by omega) (by omega), ← etx] at z50
          unfold REp at z50
          rcases z50 with ⟨v50, e50, n50, p50, m50, k50⟩ | ⟨v50, b50, e50, n50, p50, m50⟩
          · refine x_as 1 v50 ?_
            refine x_if_eq (pc := 53) hc dX5_measureAll_53 105 (by decide) (fun c53 => ?_) (fun c53 => ?_)
            · exact absurd c53 (by decide)
            · have hA : pc9 = pl ∧ pl < aL A ∧ 2 * j ≤ pl ∧ fFault tx (aL A) (60 - j) pl = -5 := by
                rcases hP with h | ⟨h, _⟩
                · exact h
                · rw [h, dEnd_out] at n50; cases n50
              obtain ⟨hA0, hA1, hA2, hA3⟩ := hA
              subst hA0
              have hel := dEnd_le n50
              have heb := (dEnd_b _ _ _ n50).2.2 rfl
              obtain ⟨m9, hm1, hm20, em9⟩ := dMany_val n50
              have emN : mN tx (aL A) pc9 = m9 := by unfold mN; rw [em9, nI_clamp (by omega)]
              have ihO := ih
              refine x_iconst (v := 0) (pc := 56) hc dX5_measureAll_56 (by decide) ?_
              refine x_istore (pc := 57) (L' := [(4, .int 0), (3, .int (nI j)), (0, .ref (w.2.2 0)), (2, .int (aF A 353))]) hc dX5_measureAll_57 (by decide) rfl ?_
              have loopI : ∀ (n1 : Nat) (i : Nat) (Gy : GS), i ≤ m9 → m9 < i + n1 → (∀ q, (q < b ∨ b + 39 ≤ q) → Gy q = Gc50 q) → Sim (gv Gy b) (rRep fx (dWarm tx (aL A) pc9) i) → XX w K 5 Gy 59 [(4, .int (nI i)), (0, .ref (w.2.2 0)), (2, .int (aF A 353)), (3, .int (nI j))] [] := by
                intro n1
                induction n1 with
                | zero => intro i Gy hi hf hFy hSy; omega
                | succ n1 ih =>
                  intro i Gy hi hf hFy hSy
                  refine x_iload (pc := 59) hc dX5_measureAll_59 0 rfl ?_
                  refine x_aload_n (pc := 61) hc dX5_measureAll_61 1 rfl ?_
                  refine x_get (pc := 62) hc cfM kcX5 0 (by decide) fl_X5_12 rfl dX5_measureAll_62 ?_
                  refine x_get (pc := 65) hc cfT kcX0 5 (by decide) fl_X5_67 rfl dX5_measureAll_65 ?_
                  refine x_as (nI m9) (by rw [hFy 1 (by omega)]; exact k50.trans em9) ?_
                  refine x_icmp_ge (pc := 68) hc dX5_measureAll_68 92 (by decide) (fun c68 => ?_) (fun c68 => ?_)
                  · have c68 : m9 ≤ i := (nI_leI (a := m9) (b := i) (by omega) (by omega)).mp c68
                    refine x_aload_n (pc := 92) hc dX5_measureAll_92 1 rfl ?_
                    refine x_get (pc := 93) hc cfM kcX5 0 (by decide) fl_X5_12 rfl dX5_measureAll_93 ?_
                    refine x_callVv (pc := 96) hc cl_X5_73 cfT kcX0 [] (m_X0_skipSeparator hI (kl K) Gy (aL A) e50 hln (by rw [hFy 1 (by omega), s50, hl9]) (by rw [hFy 1 (by omega), p50]) (by omega)) rfl rfl (by simp [Value.category]) rfl rfl ⟨by decide, by decide⟩ dX5_measureAll_96 (fun Gc96 q96 => ?_)
                    rw [hFy 2 (by omega), f50 2 (by omega), hF 2 (by omega) (by omega), ← etx] at q96
                    refine x_iinc (pc := 99) (L' := [(3, .int (nI (j + 1))), (4, .int (nI i)), (0, .ref (w.2.2 0)), (2, .int (aF A 353))]) hc dX5_measureAll_99 3 rfl (nI (j + 1)) (nI_1 _) (by decide) rfl ?_
                    refine x_goto (pc := 102) hc dX5_measureAll_102 40 (by decide) ?_
                    refine x_loc [0, 2, 3] rfl ?_
                    have him : i = m9 := by omega
                    subst him
                    have hV9 := RV_rep (dWarm tx (aL A) pc9) i (by omega) hVx
                    have hV8 : RV (rRep fx (dWarm tx (aL A) pc9) i) (B + 10 * (e50 + 1)) := RV_mono (by omega) hV9
                    have hM9 : rRep fx (dWarm tx (aL A) pc9) i 353 = aF A 353 + (n9 + dMany tx (aL A) pc9) := by rw [rRep_353 hVx i (by omega), hM, Int32.add_assoc, em9]
                    rw [show 61 - j = 60 - j + 1 by omega, aAll_s hA1, n50, emN] at hE
                    by_cases h9 : e50 = aL A
                    · have hs : ¬ sg tx (aL A) e50 = 59 := by
                        rw [h9, show sg tx (aL A) (aL A) = -1 from if_neg (by omega)]
                        decide
                      rw [if_neg hs] at q96
                      refine ihO (j + 1) (e50 + 1) e50 _ (rRep fx (dWarm tx (aL A) pc9) i) (n9 + dMany tx (aL A) pc9) (by omega) (by omega) ?_ ?_ (fun q u v => ?_) ?_ hV8 (BZ_rep hZx i) (Or.inr ⟨h9, by omega, by omega⟩) ?_ hM9
                      · rw [q96, hFy 1 (by omega), s50, hl9]
                      · rw [q96, hFy 1 (by omega), p50]
                      · rw [q96, hFy q v, f50 q u, hF q u v]
                      · rw [q96]; exact hSy
                      · rw [show 61 - (j + 1) = 60 - j by omega]; exact hE
                    · have h3 := fF_go (n := 59 - j) n50 h9
                      rw [show 59 - j + 1 = 60 - j by omega, hA3] at h3
                      have hs : sg tx (aL A) e50 = 59 := by
                        by_cases hs : sg tx (aL A) e50 = 59
                        · exact hs
                        · rw [if_neg hs] at h3
                          exact absurd h3.symm (nI_m5 (by omega))
                      rw [if_pos hs] at h3 q96
                      have hlt : e50 + 1 < aL A := by
                        by_cases h8 : e50 + 1 = aL A
                        · have h7 := fF_f (n := 58 - j) (dEnd_out tx (aL A)) (fun z => by cases z)
                          rw [show 58 - j + 1 = 59 - j by omega, ← h8] at h7
                          rw [← h8] at h3
                          rw [h7] at h3
                          exact absurd h3.symm (nI_m5 (by omega))
                        · omega
                      refine ihO (j + 1) (e50 + 1) (e50 + 1) _ (rRep fx (dWarm tx (aL A) pc9) i) (n9 + dMany tx (aL A) pc9) (by omega) (by omega) ?_ ?_ (fun q u v => ?_) ?_ hV8 (BZ_rep hZx i) (Or.inl ⟨rfl, hlt, by omega, ?_⟩) ?_ hM9
                      · rw [q96, up2_i _ _ _ _ (by omega), hFy 1 (by omega), s50, hl9]
                      · rw [q96, up2_s]
                      · rw [q96, up2_r _ _ _ u, hFy q v, f50 q u, hF q u v]
                      · rw [q96]
                        exact Sim_blk (fun q u v => up2_r _ _ _ (by omega)) hV9 hSy
                      · rw [show 60 - (j + 1) = 59 - j by omega]; exact h3.symm
                      · rw [show 61 - (j + 1) = 60 - j by omega]; exact hE
                  · have c68 : ¬ m9 ≤ i := fun h9 => c68 ((nI_leI (a := m9) (b := i) (by omega) (by omega)).mpr h9)
                    refine x_aload_n (pc := 71) hc dX5_measureAll_71 1 rfl ?_
                    refine x_get (pc := 72) hc cfM kcX5 4 (by decide) fl_X5_31 rfl dX5_measureAll_72 ?_
                    refine x_ar b (by rw [hFy 0 (by omega), f50 0 (by omega), hF 0 (by omega) (by omega), gn, eb]) ?_
                    refine x_aload_n (pc := 75) hc dX5_measureAll_75 1 rfl ?_
                    refine x_get (pc := 76) hc cfM kcX5 0 (by decide) fl_X5_12 rfl dX5_measureAll_76 ?_
                    refine x_get (pc := 79) hc cfT kcX0 4 (by decide) fl_X5_70 rfl dX5_measureAll_79 ?_
                    refine x_as (dWarm tx (aL A) pc9) (by rw [hFy 1 (by omega)]; exact m50) ?_
                    refine x_G (gc_0 Gy b).symm ?_
                    refine x_callVi (pc := 82) hc cl_X5_49 (cfS hb) kcX3 [.int (dWarm tx (aL A) pc9)] (m_X3_passDay hI (kl K) Gy b (B + 10 * pc9 + i) (dWarm tx (aL A) pc9) (rRep fx (dWarm tx (aL A) pc9) i) (gv Gy b) hb hSy (RV_rep _ i (by omega) hVx) (BZ_rep hZx i) (by omega)) rfl rfl (by simp [Value.category]) rfl rfl ⟨by decide, by decide⟩ dX5_measureAll_82 (fun r82 Gc82 q82 => ?_)
                    obtain ⟨e9, g9, f9, k9⟩ := q82
                    rw [f9]
                    refine x_pop (pc := 85) hc dX5_measureAll_85 ?_
                    refine x_iinc (pc := 86) (L' := [(4, .int (nI (i + 1))), (0, .ref (w.2.2 0)), (2, .int (aF A 353)), (3, .int (nI j))]) hc dX5_measureAll_86 0 rfl (nI (i + 1)) (nI_1 _) (by decide) rfl ?_
                    refine x_goto (pc := 89) hc dX5_measureAll_89 59 (by decide) ?_
                    refine x_loc [0, 1, 2, 3] rfl ?_
                    have hV9 := RV_rep (dWarm tx (aL A) pc9) (i + 1) (by omega) hVx
                    refine ih (i + 1) _ (by omega) (by omega) (fun q hq => by rw [gc_out _ _ _ hq, hFy q hq]) ?_
                    exact Sim_congr (fun c i hc _ => by rw [gv_gc _ _ _ hc]) hV9.2.2.2.2.1.1 (Nat.le_of_lt hV9.1.1) k9
              refine x_loc [0, 2, 3, 1] rfl ?_
              exact loopI (m9 + 1) 0 _ (by omega) (by omega) (fun q _ => rfl) (Sim_blk (fun q u v => f50 q (by omega)) hVx hSx)
          · refine x_as 0 v50 ?_
            refine x_if_eq (pc := 53) hc dX5_measureAll_53 105 (by decide) (fun c53 => ?_) (fun c53 => ?_)
            · have hA : pc9 = aL A ∧ aL A ≤ pl := by
                rcases hP with ⟨h0, h1, h2, h3⟩ | h
                · have h9 := fF_f (n := 59 - j) n50 m50
                  rw [h0, show 59 - j + 1 = 60 - j by omega, h3] at h9
                  have hb9 := dEnd_b _ _ _ n50
                  exact absurd h9.symm (nI_m5 (by omega))
                · exact ⟨h.1, h.2.1⟩
              refine x_aload_n (pc := 105) hc dX5_measureAll_105 1 rfl ?_
              refine x_get (pc := 106) hc cfM kcX5 4 (by decide) fl_X5_31 rfl dX5_measureAll_106 ?_
              refine x_ar b (by rw [f50 0 (by omega), hF 0 (by omega) (by omega), gn, eb]) ?_
              refine x_get (pc := 109) hc (cfS hb) kcX3 7 (by decide) fl_X5_57 rfl dX5_measureAll_109 ?_
              refine x_as (fx 353) (by rw [f50 b (by omega)]; exact hSx.2.1.2.2.2.1) ?_
              refine x_iload_n (pc := 112) hc dX5_measureAll_112 2 rfl ?_
              refine x_isub (pc := 113) hc dX5_measureAll_113 ?_
              exact hret _ _ _ _ dX5_measureAll_114 (by
                  have hq : aL A ≤ pl := hA.2
                  rw [aAll_e hq] at hE
                  have hE2 := hE.trans (aAll_c htx 61 0 (aF A) 0)
                  refine ⟨?_, ?_⟩
                  · unfold qAll
                    rw [if_pos hq5]
                    rw [← hE2, hM, Int32.add_comm, Int32.add_sub_cancel]
                  · unfold tAll
                    rw [if_pos hq5, ← hE2]
                    exact RC_all eb gR gn gU hV hVx (Sim_blk (fun q u v => f50 q (by omega)) hVx hSx) (s50.trans hl9) (fun q u v => (f50 q u).trans (hF q u v)))
            · exact absurd rfl c53
    refine x_loc [0, 3, 1] rfl ?_
    have hl0 : 0 < aL A := by
      rcases Nat.eq_zero_or_pos (aL A) with h | h
      · have h7 := fF_f (n := 59) (dEnd_out tx (aL A)) (fun z => by cases z)
        rw [h] at h7
        rw [h, h7] at hFa
        exact absurd hFa (nI_m5 (by omega))
      · exact h
    refine loop40 61 0 0 0 _ (aF A) 0 (by omega) (by omega) ?_ ?_ (fun q u v => ?_) ?_ (RV_mono (by omega) hRV) hZ.1 (Or.inl ⟨rfl, hl0, by omega, hFa⟩) rfl (Int32.add_zero _).symm
    · rw [q35, up2_i _ _ _ _ (by omega)]; exact gR.2.2.2.2.2.2.1.1
    · rw [q35, up2_s]; rfl
    · rw [q35, up2_r _ _ _ u]
    · exact Sim_blk (fun q u v => by rw [q35, up2_r _ _ _ (by omega)]) hRV hg0
  · refine x_bipush (v := (-100)) (pc := 14) hc dX5_measureAll_14 (by decide) ?_
    refine x_iload_n (pc := 16) hc dX5_measureAll_16 0 rfl ?_
    refine x_isub (pc := 17) hc dX5_measureAll_17 ?_
    exact hret _ _ _ _ dX5_measureAll_18 ⟨(by unfold qAll; rw [if_neg c11]), (by unfold tAll; rw [if_neg c11]; exact ⟨hR4, fun q hq => f4 q (by omega)⟩)⟩
