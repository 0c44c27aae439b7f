theorem dg_sg2 {tx : Nat → Int32} {ln i : Nat} (h : 0 ≤ dg tx ln i) : sg tx ln i ≤ 57 := by
  unfold dg at h
  by_cases h1 : inB (sg tx ln i) 48 57 = 0
  · rw [if_pos h1] at h; exact absurd h (by decide)
  · have h2 := inB_f h1
    rw [Int32.le_iff_toInt_le]
    exact h2.2
theorem fF_f {tx : Nat → Int32} {ln pl n e : Nat} {b : Bool} (h : dEnd tx ln pl = (b, e)) (hd : b = true → e < ln ∧ 0 ≤ dg tx ln e) : fFault tx ln (n + 1) pl = nI e := by
  unfold fFault
  rw [h]
  cases b with
  | false => rfl
  | true =>
    have h0 := hd rfl
    have h1 := dg_sg2 h0.2
    dsimp only
    rw [if_neg (by omega), if_neg (fun z => by rw [z] at h1; exact absurd h1 (by decide))]
theorem fF_end {tx : Nat → Int32} {ln pl n : Nat} (h : dEnd tx ln pl = (true, ln)) : fFault tx ln (n + 1) pl = -5 := by
  unfold fFault
  rw [h]
  dsimp only
  rw [if_pos rfl]
theorem fF_go {tx : Nat → Int32} {ln pl n e : Nat} (h : dEnd tx ln pl = (true, e)) (hne : e ≠ ln) : fFault tx ln (n + 1) pl = if sg tx ln e = 59 then fFault tx ln n (e + 1) else nI e := by
  show (match dEnd tx ln pl with
    | (false, e) => nI e
    | (true, e) => if e = ln then -5 else if sg tx ln e = 59 then fFault tx ln n (e + 1) else nI e) = _
  rw [h]
  dsimp only
  rw [if_neg hne]
set_option maxHeartbeats 4000000 in
set_option maxRecDepth 100000 in
theorem m_X0_findFault {w : WT} (hI : xI w) (l : Launch) (G : GS) (ln : Nat) (hln : ln ≤ 60) (hl : G 1 1 = nI ln) : Mi w l yX0_findFault cX0_findFault 2 (some .int) ⟨3, 0, 0, 65⟩ [.ref (w.2.2 1)] G (fun v9 G' => v9 = fFault (G 2) ln 60 0 ∧ (∀ q, q ≠ 1 → G' q = G q) ∧ G' 1 1 = G 1 1) := by
  refine mk_i (L0 := [(0, .ref (w.2.2 1))]) hI (by decide +kernel) rfl (Nat.le_of_ble_eq_true rfl) (fun _ _ _ => rfl) (fun K hc hret => ?_)
  refine x_aload_n (pc := 0) hc dX0_findFault_0 0 rfl ?_
  refine x_callVv (pc := 1) hc cl_X0_22 cfT kcX0 [] (m_X0_goToStart hI (kl K) G) rfl rfl (by simp [Value.category]) rfl rfl ⟨by decide, by decide⟩ dX0_findFault_1 (fun Gc1 q1 => ?_)
  refine x_iconst (v := 0) (pc := 4) hc dX0_findFault_4 (by decide) ?_
  refine x_istore_n (pc := 5) (L' := [(1, .int 0), (0, .ref (w.2.2 1))]) hc dX0_findFault_5 (by decide) rfl ?_
  have loop6 : ∀ (n1 : Nat) (i pl : Nat) (Gx : GS), 2 * i ≤ pl → pl ≤ ln → 60 < i + n1 → Gx 1 1 = nI ln → Gx 1 2 = nI pl → (∀ q, q ≠ 1 → Gx q = G q) → fFault (G 2) ln (60 - i) pl = fFault (G 2) ln 60 0 → XX w K 2 Gx 6 [(1, .int (nI i)), (0, .ref (w.2.2 1))] [] := by
    intro n1
    induction n1 with
    | zero => intro i pl Gx hi hple hf hl9 hp hF hE; omega
    | succ n1 ih =>
      intro i pl Gx hi hple hf hl9 hp hF hE
      refine x_iload_n (pc := 6) hc dX0_findFault_6 0 rfl ?_
      refine x_bipush (v := 60) (pc := 7) hc dX0_findFault_7 (by decide) ?_
      refine x_icmp_ge (pc := 9) hc dX0_findFault_9 62 (by decide) (fun c9 => ?_) (fun c9 => ?_)
      · exact absurd ((nI_leI (a := 60) (by omega) (by omega)).mp c9) (by omega)
      · have c9 : ¬ 60 ≤ i := fun h9 => c9 ((nI_leI (a := 60) (b := i) (by omega) (by omega)).mpr h9)
        refine x_aload_n (pc := 12) hc dX0_findFault_12 1 rfl ?_
        refine x_callVi (pc := 13) hc cl_X0_25 cfT kcX0 [] (m_X0_readEntry hI (kl K) Gx ln pl hln hl9 hp (by omega)) rfl rfl (by simp [Value.category]) rfl rfl ⟨by decide, by decide⟩ dX0_findFault_13 (fun r13 Gc13 q13 => ?_)
        obtain ⟨z13, f13, s13⟩ := q13
        rw [hF 2 (by omega)] at z13
        unfold REp at z13
        rcases z13 with ⟨v13, e13, n13, p13, m13, k13⟩ | ⟨v13, b13, e13, n13, p13, m13⟩
        · refine x_as 1 v13 ?_
          refine x_if_ne (pc := 16) hc dX0_findFault_16 24 (by decide) (fun c16 => ?_) (fun c16 => ?_)
          · have hel := dEnd_le n13
            have heb := (dEnd_b _ _ _ n13).2.2 rfl
            refine x_aload_n (pc := 24) hc dX0_findFault_24 1 rfl ?_
            refine x_get (pc := 25) hc cfT kcX0 2 (by decide) fl_X0_19 rfl dX0_findFault_25 ?_
            refine x_as (nI e13) p13 ?_
            refine x_aload_n (pc := 28) hc dX0_findFault_28 1 rfl ?_
            refine x_get (pc := 29) hc cfT kcX0 1 (by decide) fl_X0_15 rfl dX0_findFault_29 ?_
            refine x_as (nI ln) (s13.trans hl9) ?_
            refine x_icmp_lt (pc := 32) hc dX0_findFault_32 38 (by decide) (fun c32 => ?_) (fun c32 => ?_)
            · have c32 : e13 < ln := (nI_ltI (a := e13) (b := ln) (by omega) (by omega)).mp c32
              refine x_aload_n (pc := 38) hc dX0_findFault_38 1 rfl ?_
              refine x_bipush (v := 59) (pc := 39) hc dX0_findFault_39 (by decide) ?_
              refine x_callVi (pc := 41) hc cl_X0_29 cfT kcX0 [.int 59] (m_X0_isAtPlace hI (kl K) Gc13 59 ln e13 hln (s13.trans hl9) p13 (by omega) (by decide)) rfl rfl (by simp [Value.category]) rfl rfl ⟨by decide, by decide⟩ dX0_findFault_41 (fun r41 Gc41 q41 => ?_)
              obtain ⟨er41, eGc41⟩ := q41
              rw [eGc41]
              subst er41
              refine x_as (b01 (sg (G 2) ln e13 = 59)) (by rw [f13 2 (by omega), hF 2 (by omega)]) ?_
              refine x_if_ne (pc := 44) hc dX0_findFault_44 52 (by decide) (fun c44 => ?_) (fun c44 => ?_)
              · refine x_aload_n (pc := 52) hc dX0_findFault_52 1 rfl ?_
                refine x_callVv (pc := 53) hc cl_X0_33 cfT kcX0 [] (m_X0_skipSeparator hI (kl K) Gc13 ln e13 hln (s13.trans hl9) p13 (by omega)) rfl rfl (by simp [Value.category]) rfl rfl ⟨by decide, by decide⟩ dX0_findFault_53 (fun Gc53 q53 => ?_)
                rw [f13 2 (by omega), hF 2 (by omega), if_pos (b01_f c44)] at q53
                refine x_iinc (pc := 56) (L' := [(1, .int (nI (i + 1))), (0, .ref (w.2.2 1))]) hc dX0_findFault_56 0 rfl (nI (i + 1)) (nI_1 _) (by decide) rfl ?_
                refine x_goto (pc := 59) hc dX0_findFault_59 6 (by decide) ?_
                refine x_loc [0, 1] rfl ?_
                refine ih (i + 1) (e13 + 1) _ (by omega) (by omega) (by omega) ?_ ?_ (fun q hq => ?_) ?_
                · rw [q53, up2_i _ _ _ _ (by omega), s13, hl9]
                · rw [q53, up2_s]
                · rw [q53, up2_r _ _ _ hq, f13 q hq, hF q hq]
                · rw [show 60 - (i + 1) = 59 - i by omega, ← hE, show 60 - i = 59 - i + 1 by omega, fF_go n13 (by omega), if_pos (b01_f c44)]
              · refine x_aload_n (pc := 47) hc dX0_findFault_47 1 rfl ?_
                refine x_get (pc := 48) hc cfT kcX0 2 (by decide) fl_X0_19 rfl dX0_findFault_48 ?_
                refine x_as (nI e13) p13 ?_
                exact hret _ _ _ _ dX0_findFault_51 ⟨by rw [← hE, show 60 - i = 59 - i + 1 by omega, fF_go n13 (by omega), if_neg (b01_t c44)], fun q hq => by rw [f13 q hq, hF q hq], by rw [s13, hl9, hl]⟩
            · have c32 : ¬ e13 < ln := fun h9 => c32 ((nI_ltI (a := e13) (b := ln) (by omega) (by omega)).mpr h9)
              refine x_bipush (v := (-5)) (pc := 35) hc dX0_findFault_35 (by decide) ?_
              exact hret _ _ _ _ dX0_findFault_37 ⟨by rw [show e13 = ln by omega] at n13; rw [← hE, show 60 - i = 59 - i + 1 by omega, fF_end n13], fun q hq => by rw [f13 q hq, hF q hq], by rw [s13, hl9, hl]⟩
          · exact absurd c16 (by decide)
        · refine x_as 0 v13 ?_
          refine x_if_ne (pc := 16) hc dX0_findFault_16 24 (by decide) (fun c16 => ?_) (fun c16 => ?_)
          · exact absurd c16 (by decide)
          · refine x_aload_n (pc := 19) hc dX0_findFault_19 1 rfl ?_
            refine x_get (pc := 20) hc cfT kcX0 2 (by decide) fl_X0_19 rfl dX0_findFault_20 ?_
            refine x_as (nI e13) p13 ?_
            exact hret _ _ _ _ dX0_findFault_23 ⟨by rw [← hE, show 60 - i = 59 - i + 1 by omega, fF_f n13 m13], fun q hq => by rw [f13 q hq, hF q hq], by rw [s13, hl9, hl]⟩
  refine x_loc [0, 1] rfl ?_
  refine loop6 61 0 0 _ (by omega) (by omega) (by omega) ?_ ?_ (fun q hq => ?_) rfl
  · rw [q1, up2_i _ _ _ _ (by omega), hl]
  · rw [q1, up2_s]; rfl
  · rw [q1, up2_r _ _ _ hq]
