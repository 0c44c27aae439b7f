set_option maxHeartbeats 4000000 in
set_option maxRecDepth 100000 in
theorem m_X6_tells {w : WT} (hI : xI w) (l : Launch) (G : GS) (i fe : Nat) (p : Nat) (s f m : Nat → Int32) (hp : p ≤ 354) (hi : i < 5) (hfe : fe < 20) (hf : f (308 + 4 * i) = nI fe) : Mi w l yX6_tells cX6_tells 4 (some .boolean) ⟨1, 0, 0, 21⟩ [.ref (w.2.2 239), .int (nI p), .int (nI i)] (GM G p s f m) (fun r G' => r = b01 (rTells f i) ∧ G' = GM G p s f m) := by
  refine mk_i (L0 := [(0, .ref (w.2.2 239)), (1, .int (nI p)), (2, .int (nI i))]) hI (by decide +kernel) rfl (Nat.le_of_ble_eq_true rfl) (fun v G9 h => by rw [h.1]; exact nz_b01 _) (fun K hc hret => ?_)
  refine x_aload_n (pc := 0) hc dX6_tells_0 0 rfl ?_
  refine x_get (pc := 1) hc cfR kcX6 0 (by decide) fl_X6_7 rfl dX6_tells_1 ?_
  refine x_iload_n (pc := 4) hc dX6_tells_4 1 rfl ?_
  refine x_iload_n (pc := 5) hc dX6_tells_5 2 rfl ?_
  refine x_callSi (pc := 6) hc cl_X6_37 [.int (nI p), .int (nI i)] (m_X6_saintAt hI (kl K) (GM G p s f m) p i) rfl rfl (by simp [Value.category]) rfl rfl ⟨by decide, by decide⟩ dX6_tells_6 (fun r6 Gc6 q6 => ?_)
  obtain ⟨er6, eGc6⟩ := q6
  rw [eGc6]
  subst er6
  refine x_iald (pc := 9) hc af0 (vp_in_nI (by omega) (by decide)) dX6_tells_9 ?_
  refine x_as (f (308 + 4 * i)) (gm_ld (by omega) (by omega)) ?_
  refine x_as (nI fe) hf ?_
  refine x_istore_n (pc := 10) (L' := [(3, .int (nI fe)), (0, .ref (w.2.2 239)), (1, .int (nI p)), (2, .int (nI i))]) hc dX6_tells_10 (by decide) rfl ?_
  refine x_iload_n (pc := 11) hc dX6_tells_11 0 rfl ?_
  refine x_aload_n (pc := 12) hc dX6_tells_12 1 rfl ?_
  refine x_get (pc := 13) hc cfR kcX6 0 (by decide) fl_X6_7 rfl dX6_tells_13 ?_
  refine x_iload_n (pc := 16) hc dX6_tells_16 2 rfl ?_
  refine x_sipush (v := 300) (pc := 17) hc dX6_tells_17 (by decide) ?_
  refine x_iadd (pc := 20) hc dX6_tells_20 ?_
  refine x_as (nI (p + 300)) (nI_add _ _) ?_
  refine x_iald (pc := 21) hc af0 (vp_in_nI (by omega) (by decide)) dX6_tells_21 ?_
  refine x_as (f 300) (gm_ld (by omega) (by omega)) ?_
  refine x_icmp_ge (pc := 22) hc dX6_tells_22 55 (by decide) (fun c22 => ?_) (fun c22 => ?_)
  · refine x_iconst (v := 0) (pc := 55) hc dX6_tells_55 (by decide) ?_
    exact hret _ _ _ _ dX6_tells_56 ⟨by simp only [b01, rTells, rFe_eq hf (by omega), hf, Int32.lt_iff_toInt_lt, Int32.le_iff_toInt_le] at c22 ⊢; (repeat' split) <;> first | rfl | omega, rfl⟩
  · refine x_aload_n (pc := 25) hc dX6_tells_25 1 rfl ?_
    refine x_get (pc := 26) hc cfR kcX6 0 (by decide) fl_X6_7 rfl dX6_tells_26 ?_
    refine x_iload_n (pc := 29) hc dX6_tells_29 2 rfl ?_
    refine x_bipush (v := 40) (pc := 30) hc dX6_tells_30 (by decide) ?_
    refine x_iadd (pc := 32) hc dX6_tells_32 ?_
    refine x_as (nI (p + 40)) (nI_add _ _) ?_
    refine x_iload_n (pc := 33) hc dX6_tells_33 0 rfl ?_
    refine x_iadd (pc := 34) hc dX6_tells_34 ?_
    refine x_as (nI (p + 40 + fe)) (nI_add _ _) ?_
    refine x_iald (pc := 35) hc af0 (vp_in_nI (by omega) (by decide)) dX6_tells_35 ?_
    refine x_as (f (40 + fe)) (gm_ld (by omega) (by omega)) ?_
    refine x_aload_n (pc := 36) hc dX6_tells_36 1 rfl ?_
    refine x_get (pc := 37) hc cfR kcX6 0 (by decide) fl_X6_7 rfl dX6_tells_37 ?_
    refine x_iload_n (pc := 40) hc dX6_tells_40 2 rfl ?_
    refine x_iload_n (pc := 41) hc dX6_tells_41 3 rfl ?_
    refine x_callSi (pc := 42) hc cl_X6_37 [.int (nI p), .int (nI i)] (m_X6_saintAt hI (kl K) (GM G p s f m) p i) rfl rfl (by simp [Value.category]) rfl rfl ⟨by decide, by decide⟩ dX6_tells_42 (fun r42 Gc42 q42 => ?_)
    obtain ⟨er42, eGc42⟩ := q42
    rw [eGc42]
    subst er42
    refine x_iconst (v := 1) (pc := 45) hc dX6_tells_45 (by decide) ?_
    refine x_iadd (pc := 46) hc dX6_tells_46 ?_
    refine x_as (nI (p + 308 + 4 * i + 1)) (nI_add _ _) ?_
    refine x_iald (pc := 47) hc af0 (vp_in_nI (by omega) (by decide)) dX6_tells_47 ?_
    refine x_as (f (308 + 4 * i + 1)) (gm_ld (by omega) (by omega)) ?_
    refine x_icmp_gt (pc := 48) hc dX6_tells_48 55 (by decide) (fun c48 => ?_) (fun c48 => ?_)
    · refine x_iconst (v := 0) (pc := 55) hc dX6_tells_55 (by decide) ?_
      exact hret _ _ _ _ dX6_tells_56 ⟨by simp only [b01, rTells, rFe_eq hf (by omega), hf, Int32.lt_iff_toInt_lt, Int32.le_iff_toInt_le] at c22 c48 ⊢; (repeat' split) <;> first | rfl | omega, rfl⟩
    · refine x_iconst (v := 1) (pc := 51) hc dX6_tells_51 (by decide) ?_
      refine x_goto (pc := 52) hc dX6_tells_52 56 (by decide) ?_
      exact hret _ _ _ _ dX6_tells_56 ⟨by simp only [b01, rTells, rFe_eq hf (by omega), hf, Int32.lt_iff_toInt_lt, Int32.le_iff_toInt_le] at c22 c48 ⊢; (repeat' split) <;> first | rfl | omega, rfl⟩
/-- the saints of a row: how many, and where their feasts are -/
def rSn (f : Nat → Int32) (c : Nat) : Prop := c ≤ 5 ∧ f 307 = nI c ∧ ∀ i, i < c → ∃ e, e < 20 ∧ f (308 + 4 * i) = nI e
set_option maxHeartbeats 4000000 in
set_option maxRecDepth 100000 in
theorem m_X6_foretold {w : WT} (hI : xI w) (l : Launch) (G : GS) (d c : Nat) (p : Nat) (s f m : Nat → Int32) (hp : p ≤ 354) (hd : d < 20) (hs : rSn f c) : Mi w l yX6_foretold cX6_foretold 7 (some .int) ⟨2, 0, 0, 44⟩ [.ref (w.2.2 239), .int (nI p), .int (nI d)] (GM G p s f m) (fun r G' => r = rTold f d ∧ G' = GM G p s f m) := by
  refine mk_i (L0 := [(0, .ref (w.2.2 239)), (1, .int (nI p)), (2, .int (nI d))]) hI (by decide +kernel) rfl (Nat.le_of_ble_eq_true rfl) (fun _ _ _ => rfl) (fun K hc hret => ?_)
  refine x_aload_n (pc := 0) hc dX6_foretold_0 0 rfl ?_
  refine x_get (pc := 1) hc cfR kcX6 0 (by decide) fl_X6_7 rfl dX6_foretold_1 ?_
  refine x_iload_n (pc := 4) hc dX6_foretold_4 1 rfl ?_
  refine x_iconst (v := 0) (pc := 5) hc dX6_foretold_5 (by decide) ?_
  refine x_iadd (pc := 6) hc dX6_foretold_6 ?_
  refine x_as (nI (p + 0)) (nI_add _ _) ?_
  refine x_iload_n (pc := 7) hc dX6_foretold_7 2 rfl ?_
  refine x_iadd (pc := 8) hc dX6_foretold_8 ?_
  refine x_as (nI (p + 0 + d)) (nI_add _ _) ?_
  refine x_iald (pc := 9) hc af0 (vp_in_nI (by omega) (by decide)) dX6_foretold_9 ?_
  refine x_as (f (0 + d)) (gm_ld (by omega) (by omega)) ?_
  refine x_nm (fun x10 ex10 => ?_)
  refine x_istore_n (pc := 10) (L' := [(3, .int x10), (0, .ref (w.2.2 239)), (1, .int (nI p)), (2, .int (nI d))]) hc dX6_foretold_10 (by decide) rfl ?_
  refine x_iconst (v := 0) (pc := 11) hc dX6_foretold_11 (by decide) ?_
  refine x_istore (pc := 12) (L' := [(4, .int 0), (3, .int x10), (0, .ref (w.2.2 239)), (1, .int (nI p)), (2, .int (nI d))]) hc dX6_foretold_12 (by decide) rfl ?_
  have loop14 : ∀ (n1 : Nat) (k : Nat), k ≤ c → c < k + n1 → XX w K 7 (GM G p s f m) 14 [(4, .int (nI k)), (3, .int (rSum f d k)), (0, .ref (w.2.2 239)), (1, .int (nI p)), (2, .int (nI d))] [] := by
    intro n1
    induction n1 with
    | zero => intro k hk hn; omega
    | succ n1 ih =>
      intro k hk hn
      have hc4 := hs.1
      refine x_iload (pc := 14) hc dX6_foretold_14 0 rfl ?_
      refine x_aload_n (pc := 16) hc dX6_foretold_16 2 rfl ?_
      refine x_get (pc := 17) hc cfR kcX6 0 (by decide) fl_X6_7 rfl dX6_foretold_17 ?_
      refine x_iload_n (pc := 20) hc dX6_foretold_20 3 rfl ?_
      refine x_sipush (v := 307) (pc := 21) hc dX6_foretold_21 (by decide) ?_
      refine x_iadd (pc := 24) hc dX6_foretold_24 ?_
      refine x_as (nI (p + 307)) (nI_add _ _) ?_
      refine x_iald (pc := 25) hc af0 (vp_in_nI (by omega) (by decide)) dX6_foretold_25 ?_
      refine x_as (f 307) (gm_ld (by omega) (by omega)) ?_
      refine x_as (nI c) hs.2.1 ?_
      refine x_icmp_ge (pc := 26) hc dX6_foretold_26 116 (by decide) (fun c26 => ?_) (fun c26 => ?_)
      · have c26 : c ≤ k := (nI_leI (a := c) (b := k) (by omega) (by omega)).mp c26
        refine x_iload_n (pc := 116) hc dX6_foretold_116 1 rfl ?_
        refine x_callSi (pc := 117) hc cl_X6_44 [.int (rSum f d k)] (m_X6_bounded hI (kl K) (GM G p s f m) (rSum f d k)) rfl rfl (by simp [Value.category]) rfl rfl ⟨by decide, by decide⟩ dX6_foretold_117 (fun r117 Gc117 q117 => ?_)
        obtain ⟨er117, eGc117⟩ := q117
        rw [eGc117]
        subst er117
        exact hret _ _ _ _ dX6_foretold_120 ⟨by rw [rTold, hs.2.1, nI_clamp (by have := hs.1; omega), show c = k by omega], rfl⟩
      · have c26 : ¬ c ≤ k := fun h9 => c26 ((nI_leI (a := c) (b := k) (by omega) (by omega)).mpr h9)
        have hc5 := hs.1
        obtain ⟨e5, he5, hf5⟩ := hs.2.2 k (by omega)
        refine x_aload_n (pc := 29) hc dX6_foretold_29 2 rfl ?_
        refine x_get (pc := 30) hc cfR kcX6 0 (by decide) fl_X6_7 rfl dX6_foretold_30 ?_
        refine x_iload_n (pc := 33) hc dX6_foretold_33 3 rfl ?_
        refine x_iload (pc := 34) hc dX6_foretold_34 0 rfl ?_
        refine x_callSi (pc := 36) hc cl_X6_37 [.int (nI p), .int (nI k)] (m_X6_saintAt hI (kl K) (GM G p s f m) p k) rfl rfl (by simp [Value.category]) rfl rfl ⟨by decide, by decide⟩ dX6_foretold_36 (fun r36 Gc36 q36 => ?_)
        obtain ⟨er36, eGc36⟩ := q36
        rw [eGc36]
        subst er36
        refine x_iald (pc := 39) hc af0 (vp_in_nI (by omega) (by decide)) dX6_foretold_39 ?_
        refine x_as (f (308 + 4 * k)) (gm_ld (by omega) (by omega)) ?_
        refine x_as (nI e5) hf5 ?_
        refine x_istore (pc := 40) (L' := [(5, .int (nI e5)), (4, .int (nI k)), (3, .int (rSum f d k)), (0, .ref (w.2.2 239)), (1, .int (nI p)), (2, .int (nI d))]) hc dX6_foretold_40 (by decide) rfl ?_
        refine x_aload_n (pc := 42) hc dX6_foretold_42 3 rfl ?_
        refine x_iload_n (pc := 43) hc dX6_foretold_43 4 rfl ?_
        refine x_iload (pc := 44) hc dX6_foretold_44 1 rfl ?_
        refine x_callVi (pc := 46) hc cl_X6_40 cfR kcX6 [.int (nI p), .int (nI k)] (m_X6_tells hI (kl K) G k e5 p s f m (by omega) (by omega) he5 hf5) rfl rfl (by simp [Value.category]) rfl rfl ⟨by decide, by decide⟩ dX6_foretold_46 (fun r46 Gc46 q46 => ?_)
        obtain ⟨er46, eGc46⟩ := q46
        rw [eGc46]
        subst er46
        refine x_if_eq (pc := 49) hc dX6_foretold_49 82 (by decide) (fun c49 => ?_) (fun c49 => ?_)
        · refine x_iconst (v := 0) (pc := 82) hc dX6_foretold_82 (by decide) ?_
          refine x_istore (pc := 83) (L' := [(6, .int 0), (5, .int (nI e5)), (4, .int (nI k)), (3, .int (rSum f d k)), (0, .ref (w.2.2 239)), (1, .int (nI p)), (2, .int (nI d))]) hc dX6_foretold_83 (by decide) rfl ?_
          refine x_iload_n (pc := 85) hc dX6_foretold_85 3 rfl ?_
          refine x_iload (pc := 86) hc dX6_foretold_86 0 rfl ?_
          refine x_if_eq (pc := 88) hc dX6_foretold_88 107 (by decide) (fun c88 => ?_) (fun c88 => ?_)
          · refine x_iconst (v := 0) (pc := 107) hc dX6_foretold_107 (by decide) ?_
            refine x_iadd (pc := 108) hc dX6_foretold_108 ?_
            refine x_nm (fun x109 ex109 => ?_)
            refine x_istore_n (pc := 109) (L' := [(3, .int x109), (6, .int 0), (5, .int (nI e5)), (4, .int (nI k)), (0, .ref (w.2.2 239)), (1, .int (nI p)), (2, .int (nI d))]) hc dX6_foretold_109 (by decide) rfl ?_
            refine x_iinc (pc := 110) (L' := [(4, .int (nI (k + 1))), (3, .int x109), (6, .int 0), (5, .int (nI e5)), (0, .ref (w.2.2 239)), (1, .int (nI p)), (2, .int (nI d))]) hc dX6_foretold_110 3 rfl (nI (k + 1)) (nI_1 _) (by decide) rfl ?_
            refine x_goto (pc := 113) hc dX6_foretold_113 14 (by decide) ?_
            refine x_loc [0, 1, 4, 5, 6] rfl ?_
            have e3 : x109 = rSum f d (k + 1) := by
              rw [ex109]
              show _ = rSum f d k + rAdd f d k
              congr 1
              unfold rAdd
              rw [if_neg (fun z => b01_t c49 z.1)]
            rw [e3]
            exact ih (k + 1) (by omega) (by omega)
          · exact absurd (by decide) c88
        · refine x_iload_n (pc := 52) hc dX6_foretold_52 5 rfl ?_
          refine x_iload (pc := 53) hc dX6_foretold_53 0 rfl ?_
          refine x_icmp_le (pc := 55) hc dX6_foretold_55 82 (by decide) (fun c55 => ?_) (fun c55 => ?_)
          · have c55 : d ≤ e5 := (nI_leI (a := d) (b := e5) (by omega) (by omega)).mp c55
            refine x_iconst (v := 0) (pc := 82) hc dX6_foretold_82 (by decide) ?_
            refine x_istore (pc := 83) (L' := [(6, .int 0), (5, .int (nI e5)), (4, .int (nI k)), (3, .int (rSum f d k)), (0, .ref (w.2.2 239)), (1, .int (nI p)), (2, .int (nI d))]) hc dX6_foretold_83 (by decide) rfl ?_
            refine x_iload_n (pc := 85) hc dX6_foretold_85 3 rfl ?_
            refine x_iload (pc := 86) hc dX6_foretold_86 0 rfl ?_
            refine x_if_eq (pc := 88) hc dX6_foretold_88 107 (by decide) (fun c88_1 => ?_) (fun c88_1 => ?_)
            · refine x_iconst (v := 0) (pc := 107) hc dX6_foretold_107 (by decide) ?_
              refine x_iadd (pc := 108) hc dX6_foretold_108 ?_
              refine x_nm (fun x109_1 ex109_1 => ?_)
              refine x_istore_n (pc := 109) (L' := [(3, .int x109_1), (6, .int 0), (5, .int (nI e5)), (4, .int (nI k)), (0, .ref (w.2.2 239)), (1, .int (nI p)), (2, .int (nI d))]) hc dX6_foretold_109 (by decide) rfl ?_
              refine x_iinc (pc := 110) (L' := [(4, .int (nI (k + 1))), (3, .int x109_1), (6, .int 0), (5, .int (nI e5)), (0, .ref (w.2.2 239)), (1, .int (nI p)), (2, .int (nI d))]) hc dX6_foretold_110 3 rfl (nI (k + 1)) (nI_1 _) (by decide) rfl ?_
              refine x_goto (pc := 113) hc dX6_foretold_113 14 (by decide) ?_
              refine x_loc [0, 1, 4, 5, 6] rfl ?_
              have e3 : x109_1 = rSum f d (k + 1) := by
                rw [ex109_1]
                show _ = rSum f d k + rAdd f d k
                congr 1
                unfold rAdd
                rw [if_neg (fun z => by
                  have z1 := z.2.1
                  rw [hf5] at z1
                  have := (nI_ltI (by omega) (by omega)).mp z1
                  omega)]
              rw [e3]
              exact ih (k + 1) (by omega) (by omega)
            · exact absurd (by decide) c88_1
          · have c55 : ¬ d ≤ e5 := fun h9 => c55 ((nI_leI (a := d) (b := e5) (by omega) (by omega)).mpr h9)
            refine x_iload_n (pc := 58) hc dX6_foretold_58 5 rfl ?_
            refine x_iload (pc := 59) hc dX6_foretold_59 0 rfl ?_
            refine x_aload_n (pc := 61) hc dX6_foretold_61 3 rfl ?_
            refine x_get (pc := 62) hc cfR kcX6 0 (by decide) fl_X6_7 rfl dX6_foretold_62 ?_
            refine x_iload_n (pc := 65) hc dX6_foretold_65 4 rfl ?_
            refine x_iload (pc := 66) hc dX6_foretold_66 1 rfl ?_
            refine x_callSi (pc := 68) hc cl_X6_37 [.int (nI p), .int (nI k)] (m_X6_saintAt hI (kl K) (GM G p s f m) p k) rfl rfl (by simp [Value.category]) rfl rfl ⟨by decide, by decide⟩ dX6_foretold_68 (fun r68 Gc68 q68 => ?_)
            obtain ⟨er68, eGc68⟩ := q68
            rw [eGc68]
            subst er68
            refine x_iconst (v := 3) (pc := 71) hc dX6_foretold_71 (by decide) ?_
            refine x_iadd (pc := 72) hc dX6_foretold_72 ?_
            refine x_as (nI (p + 308 + 4 * k + 3)) (nI_add _ _) ?_
            refine x_iald (pc := 73) hc af0 (vp_in_nI (by omega) (by decide)) dX6_foretold_73 ?_
            refine x_as (f (308 + 4 * k + 3)) (gm_ld (by omega) (by omega)) ?_
            refine x_iadd (pc := 74) hc dX6_foretold_74 ?_
            refine x_icmp_gt (pc := 75) hc dX6_foretold_75 82 (by decide) (fun c75 => ?_) (fun c75 => ?_)
            · refine x_iconst (v := 0) (pc := 82) hc dX6_foretold_82 (by decide) ?_
              refine x_istore (pc := 83) (L' := [(6, .int 0), (5, .int (nI e5)), (4, .int (nI k)), (3, .int (rSum f d k)), (0, .ref (w.2.2 239)), (1, .int (nI p)), (2, .int (nI d))]) hc dX6_foretold_83 (by decide) rfl ?_
              refine x_iload_n (pc := 85) hc dX6_foretold_85 3 rfl ?_
              refine x_iload (pc := 86) hc dX6_foretold_86 0 rfl ?_
              refine x_if_eq (pc := 88) hc dX6_foretold_88 107 (by decide) (fun c88_2 => ?_) (fun c88_2 => ?_)
              · refine x_iconst (v := 0) (pc := 107) hc dX6_foretold_107 (by decide) ?_
                refine x_iadd (pc := 108) hc dX6_foretold_108 ?_
                refine x_nm (fun x109_2 ex109_2 => ?_)
                refine x_istore_n (pc := 109) (L' := [(3, .int x109_2), (6, .int 0), (5, .int (nI e5)), (4, .int (nI k)), (0, .ref (w.2.2 239)), (1, .int (nI p)), (2, .int (nI d))]) hc dX6_foretold_109 (by decide) rfl ?_
                refine x_iinc (pc := 110) (L' := [(4, .int (nI (k + 1))), (3, .int x109_2), (6, .int 0), (5, .int (nI e5)), (0, .ref (w.2.2 239)), (1, .int (nI p)), (2, .int (nI d))]) hc dX6_foretold_110 3 rfl (nI (k + 1)) (nI_1 _) (by decide) rfl ?_
                refine x_goto (pc := 113) hc dX6_foretold_113 14 (by decide) ?_
                refine x_loc [0, 1, 4, 5, 6] rfl ?_
                have e3 : x109_2 = rSum f d (k + 1) := by
                  rw [ex109_2]
                  show _ = rSum f d k + rAdd f d k
                  congr 1
                  unfold rAdd
                  rw [if_neg (fun z => by
                    have z1 := z.2.2
                    rw [hf5] at z1
                    exact absurd z1 (Int32.not_le.mpr c75))]
                rw [e3]
                exact ih (k + 1) (by omega) (by omega)
              · exact absurd (by decide) c88_2
            · refine x_iconst (v := 1) (pc := 78) hc dX6_foretold_78 (by decide) ?_
              refine x_goto (pc := 79) hc dX6_foretold_79 83 (by decide) ?_
              refine x_istore (pc := 83) (L' := [(6, .int 1), (5, .int (nI e5)), (4, .int (nI k)), (3, .int (rSum f d k)), (0, .ref (w.2.2 239)), (1, .int (nI p)), (2, .int (nI d))]) hc dX6_foretold_83 (by decide) rfl ?_
              refine x_iload_n (pc := 85) hc dX6_foretold_85 3 rfl ?_
              refine x_iload (pc := 86) hc dX6_foretold_86 0 rfl ?_
              refine x_if_eq (pc := 88) hc dX6_foretold_88 107 (by decide) (fun c88_3 => ?_) (fun c88_3 => ?_)
              · exact absurd c88_3 (by decide)
              · refine x_aload_n (pc := 91) hc dX6_foretold_91 4 rfl ?_
                refine x_get (pc := 92) hc cfR kcX6 0 (by decide) fl_X6_7 rfl dX6_foretold_92 ?_
                refine x_iload_n (pc := 95) hc dX6_foretold_95 5 rfl ?_
                refine x_iload (pc := 96) hc dX6_foretold_96 2 rfl ?_
                refine x_callSi (pc := 98) hc cl_X6_37 [.int (nI p), .int (nI k)] (m_X6_saintAt hI (kl K) (GM G p s f m) p k) rfl rfl (by simp [Value.category]) rfl rfl ⟨by decide, by decide⟩ dX6_foretold_98 (fun r98 Gc98 q98 => ?_)
                obtain ⟨er98, eGc98⟩ := q98
                rw [eGc98]
                subst er98
                refine x_iconst (v := 2) (pc := 101) hc dX6_foretold_101 (by decide) ?_
                refine x_iadd (pc := 102) hc dX6_foretold_102 ?_
                refine x_as (nI (p + 308 + 4 * k + 2)) (nI_add _ _) ?_
                refine x_iald (pc := 103) hc af0 (vp_in_nI (by omega) (by decide)) dX6_foretold_103 ?_
                refine x_as (f (308 + 4 * k + 2)) (gm_ld (by omega) (by omega)) ?_
                refine x_goto (pc := 104) hc dX6_foretold_104 108 (by decide) ?_
                refine x_iadd (pc := 108) hc dX6_foretold_108 ?_
                refine x_nm (fun x109_3 ex109_3 => ?_)
                refine x_istore_n (pc := 109) (L' := [(3, .int x109_3), (6, .int 1), (5, .int (nI e5)), (4, .int (nI k)), (0, .ref (w.2.2 239)), (1, .int (nI p)), (2, .int (nI d))]) hc dX6_foretold_109 (by decide) rfl ?_
                refine x_iinc (pc := 110) (L' := [(4, .int (nI (k + 1))), (3, .int x109_3), (6, .int 1), (5, .int (nI e5)), (0, .ref (w.2.2 239)), (1, .int (nI p)), (2, .int (nI d))]) hc dX6_foretold_110 3 rfl (nI (k + 1)) (nI_1 _) (by decide) rfl ?_
                refine x_goto (pc := 113) hc dX6_foretold_113 14 (by decide) ?_
                refine x_loc [0, 1, 4, 5, 6] rfl ?_
                have e3 : x109_3 = rSum f d (k + 1) := by
                  rw [ex109_3]
                  show _ = rSum f d k + rAdd f d k
                  congr 1
                  unfold rAdd
                  rw [if_pos ⟨b01_f c49, by rw [hf5]; exact (nI_ltI (by omega) (by omega)).mpr (by omega), by rw [hf5]; exact Int32.not_lt.mp c75⟩]
                rw [e3]
                exact ih (k + 1) (by omega) (by omega)
  refine x_loc [0, 1, 2, 3, 4] rfl ?_
  rw [ex10, Nat.zero_add]
  exact loop14 6 0 (by omega) (by have := hs.1; omega)
