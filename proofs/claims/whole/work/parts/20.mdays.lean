theorem dg_val {tx : Nat → Int32} {ln pl : Nat} (h : 0 ≤ dg tx ln pl) : ∃ a, a ≤ 9 ∧ dg tx ln pl = nI a := by
  unfold dg at h ⊢
  by_cases h1 : inB (sg tx ln pl) 48 57 = 0
  · rw [if_pos h1] at h; exact absurd h (by decide)
  · rw [if_neg h1]
    obtain ⟨h2, h3⟩ := inB_f h1
    rw [show (48 : Int32).toInt = 48 from rfl] at h2
    rw [show (57 : Int32).toInt = 57 from rfl] at h3
    have h4 := i32_sub (x := sg tx ln pl) (y := 48) (by omega) (by omega) (by decide) (by decide)
    rw [show (48 : Int32).toInt = 48 from rfl] at h4
    exact ⟨(sg tx ln pl - 48).toInt.toNat, by omega, i32_nat (by omega)⟩
theorem numIn_val {tx : Nat → Int32} {ln pl e : Nat} {lo hi : Int32} {H : Nat} (hH : hi = nI H) (hb : H < 1000) (h9 : 9 ≤ H) (hlo : 0 < lo) (h : nEnd tx ln pl lo hi = (true, e)) : ∃ v, 1 ≤ v ∧ v ≤ H ∧ numIn tx ln pl e = nI v := by
  unfold nEnd at h
  split at h
  · cases h
  · rename_i h0
    obtain ⟨a, ha, ea⟩ := dg_val (Int32.not_lt.mp h0)
    split at h
    · cases h
    · rename_i h1
      have ha1 : 1 ≤ a := by
        rcases Nat.eq_zero_or_pos a with z | z
        · exact absurd ⟨by rw [ea, z]; rfl, hlo⟩ h1
        · exact z
      split at h
      · rename_i h2
        cases h
        obtain ⟨b, hb9, eb⟩ := dg_val h2.2.1
        have e3 : (10 : Int32) * nI a + nI b = nI (10 * a + b) := by
          rw [show (10 : Int32) = nI 10 from rfl, pk_mul, nI_add]
        refine ⟨10 * a + b, by omega, ?_, ?_⟩
        · have h4 := h2.2.2
          rw [ea, eb, e3, hH] at h4
          exact (nI_leI (by omega) (by omega)).mp h4
        · unfold numIn
          rw [if_neg (by omega), ea, eb, e3]
      · cases h
        refine ⟨a, ha1, by omega, ?_⟩
        unfold numIn
        rw [if_pos rfl, ea]
theorem dEnd_w {tx : Nat → Int32} {ln pl e : Nat} (h : dEnd tx ln pl = (true, e)) : ∃ e1, wEnd tx ln pl = (true, e1) ∧ (if sg tx ln e1 = 42 then nEnd tx ln (e1 + 1) 1 20 = (true, e) else e1 = e) := by
  obtain ⟨b1, e1, hw⟩ : ∃ b1 e1, wEnd tx ln pl = (b1, e1) := ⟨_, _, rfl⟩
  unfold dEnd at h
  rw [hw] at h
  cases b1 with
  | false => cases h
  | true =>
    refine ⟨e1, hw, ?_⟩
    dsimp only at h
    by_cases h1 : sg tx ln e1 = 42
    · rw [if_pos h1] at h ⊢; exact h
    · rw [if_neg h1] at h ⊢; cases h; rfl
theorem dMany_val {tx : Nat → Int32} {ln pl e : Nat} (h : dEnd tx ln pl = (true, e)) : ∃ m, 1 ≤ m ∧ m ≤ 20 ∧ dMany tx ln pl = nI m := by
  obtain ⟨e1, hw, h2⟩ := dEnd_w h
  unfold dMany
  rw [hw, h]
  dsimp only
  by_cases h1 : sg tx ln e1 = 42
  · rw [if_pos h1] at h2 ⊢
    exact numIn_val rfl (by omega) (by omega) (by decide) h2
  · rw [if_neg h1]
    exact ⟨1, by omega, by omega, rfl⟩
def mN (tx : Nat → Int32) (ln pl : Nat) : Nat := (dMany tx ln pl).toNatClampNeg
theorem mN_eq {tx : Nat → Int32} {ln pl e : Nat} (h : dEnd tx ln pl = (true, e)) : dMany tx ln pl = nI (mN tx ln pl) ∧ 1 ≤ mN tx ln pl ∧ mN tx ln pl ≤ 20 := by
  obtain ⟨m, h1, h2, h3⟩ := dMany_val h
  have : mN tx ln pl = m := by unfold mN; rw [h3, nI_clamp (by omega)]
  rw [this]
  exact ⟨h3, h1, h2⟩
def rRep (f : Nat → Int32) (v : Int32) : Nat → Nat → Int32
  | 0 => f
  | k + 1 => rMeas (rRep f v k) v (dN (rRep f v k)) (rN (rRep f v k))
def rRepM (f m : Nat → Int32) (v : Int32) : Nat → Nat → Int32
  | 0 => m
  | k + 1 => rMis (rRep f v k) (rRepM f m v k) v (dN (rRep f v k))
theorem RV_rep {f : Nat → Int32} {B : Nat} (v : Int32) : ∀ k, B + k < 2 ^ 31 → RV f B → RV (rRep f v k) (B + k)
  | 0 => fun _ h => h
  | k + 1 => fun hB h => RV_meas (by omega) (RV_rep v k (by omega) h) v
set_option maxHeartbeats 4000000 in
set_option maxRecDepth 100000 in
theorem m_X6_days {w : WT} (hI : xI w) (l : Launch) (G : GS) (pl e2 B : Nat) (s f m : Nat → Int32) (ln : Nat) (hln : ln ≤ 60) (hl : G 239 6 = nI ln) (hp : pl ≤ 60) (hd : dEnd (G 243) ln pl = (true, e2)) (hV : RV f B) (hB : B + 20 < 2 ^ 31) : Mi w l yX6_days cX6_days 8 (some .int) ⟨6, 0, 0, 138⟩ [.ref (w.2.2 239), .int (nI pl)] (GM G 0 s f m) (fun v9 G' => v9 = dMany (G 243) ln pl ∧ G' = GM G 0 s (rRep f (dWarm (G 243) ln pl) (mN (G 243) ln pl)) (rRepM f m (dWarm (G 243) ln pl) (mN (G 243) ln pl))) := by
  refine mk_i (L0 := [(0, .ref (w.2.2 239)), (1, .int (nI pl))]) hI (by decide +kernel) rfl (Nat.le_of_ble_eq_true rfl) (fun _ _ _ => rfl) (fun K hc hret => ?_)
  obtain ⟨e1, hw, he1⟩ := dEnd_w hd
  have hmn := mN_eq hd
  have hwb := wEnd_b _ _ _ hw
  have hdb := dEnd_b _ _ _ hd
  refine x_aload_n (pc := 0) hc dX6_days_0 0 rfl ?_
  refine x_iload_n (pc := 1) hc dX6_days_1 1 rfl ?_
  refine x_callVi (pc := 2) hc cl_X6_106 cfR kcX6 [.int (nI pl)] (m_X6_warmthEnd hI (kl K) (GM G 0 s f m) pl ln hln hl (by omega)) rfl rfl (by simp [Value.category]) rfl rfl ⟨by decide, by decide⟩ dX6_days_2 (fun r2 Gc2 q2 => ?_)
  obtain ⟨er2, eGc2⟩ := q2
  rw [eGc2]
  subst er2
  refine x_as (enc (wEnd (G 243) ln pl)) rfl ?_
  rw [hw]
  refine x_as (nI e1) rfl ?_
  refine x_istore_n (pc := 5) (L' := [(2, .int (nI e1)), (0, .ref (w.2.2 239)), (1, .int (nI pl))]) hc dX6_days_5 (by decide) rfl ?_
  refine x_aload_n (pc := 6) hc dX6_days_6 1 rfl ?_
  refine x_iload_n (pc := 7) hc dX6_days_7 2 rfl ?_
  refine x_callVi (pc := 8) hc cl_X6_97 cfR kcX6 [.int (nI pl)] (m_X6_sign hI (kl K) (GM G 0 s f m) pl ln hln hl (by omega)) rfl rfl (by simp [Value.category]) rfl rfl ⟨by decide, by decide⟩ dX6_days_8 (fun r8 Gc8 q8 => ?_)
  obtain ⟨er8, eGc8⟩ := q8
  rw [eGc8]
  subst er8
  refine x_as (sg (G 243) ln pl) rfl ?_
  refine x_bipush (v := 45) (pc := 11) hc dX6_days_11 (by decide) ?_
  refine x_icmp_ne (pc := 13) hc dX6_days_13 20 (by decide) (fun c13 => ?_) (fun c13 => ?_)
  · refine x_iconst (v := 0) (pc := 20) hc dX6_days_20 (by decide) ?_
    refine x_istore_n (pc := 21) (L' := [(3, .int 0), (2, .int (nI e1)), (0, .ref (w.2.2 239)), (1, .int (nI pl))]) hc dX6_days_21 (by decide) rfl ?_
    refine x_iload_n (pc := 22) hc dX6_days_22 0 rfl ?_
    refine x_if_eq (pc := 23) hc dX6_days_23 38 (by decide) (fun c23 => ?_) (fun c23 => ?_)
    · refine x_aload_n (pc := 38) hc dX6_days_38 2 rfl ?_
      refine x_iload_n (pc := 39) hc dX6_days_39 3 rfl ?_
      refine x_iload_n (pc := 40) hc dX6_days_40 1 rfl ?_
      refine x_callVi (pc := 41) hc cl_X6_112 cfR kcX6 [.int (nI pl), .int (nI e1)] (m_X6_numberIn hI (kl K) (GM G 0 s f m) pl e1 ln hln hl (by omega) (by omega)) rfl rfl (by simp [Value.category]) rfl rfl ⟨by decide, by decide⟩ dX6_days_41 (fun r41 Gc41 q41 => ?_)
      obtain ⟨er41, eGc41⟩ := q41
      rw [eGc41]
      subst er41
      refine x_as (numIn (G 243) ln pl e1) rfl ?_
      refine x_as (dWarm (G 243) ln pl) (by unfold dWarm; rw [if_neg c13, hw]) ?_
      refine x_nm (fun x44 ex44 => ?_)
      refine x_istore (pc := 44) (L' := [(4, .int x44), (3, .int 0), (2, .int (nI e1)), (0, .ref (w.2.2 239)), (1, .int (nI pl))]) hc dX6_days_44 (by decide) rfl ?_
      refine x_aload_n (pc := 46) hc dX6_days_46 3 rfl ?_
      refine x_iload_n (pc := 47) hc dX6_days_47 2 rfl ?_
      refine x_callVi (pc := 48) hc cl_X6_97 cfR kcX6 [.int (nI e1)] (m_X6_sign hI (kl K) (GM G 0 s f m) e1 ln hln hl (by omega)) rfl rfl (by simp [Value.category]) rfl rfl ⟨by decide, by decide⟩ dX6_days_48 (fun r48 Gc48 q48 => ?_)
      obtain ⟨er48, eGc48⟩ := q48
      rw [eGc48]
      subst er48
      refine x_as (sg (G 243) ln e1) rfl ?_
      refine x_bipush (v := 42) (pc := 51) hc dX6_days_51 (by decide) ?_
      refine x_icmp_ne (pc := 53) hc dX6_days_53 71 (by decide) (fun c53 => ?_) (fun c53 => ?_)
      · refine x_iconst (v := 1) (pc := 71) hc dX6_days_71 (by decide) ?_
        refine x_as (nI (mN (G 243) ln pl)) (by rw [← hmn.1]; unfold dMany; rw [hw]; dsimp only; rw [if_neg c53]) ?_
        refine x_istore (pc := 72) (L' := [(5, .int (nI (mN (G 243) ln pl))), (4, .int x44), (3, .int 0), (2, .int (nI e1)), (0, .ref (w.2.2 239)), (1, .int (nI pl))]) hc dX6_days_72 (by decide) rfl ?_
        refine x_iconst (v := 0) (pc := 74) hc dX6_days_74 (by decide) ?_
        refine x_istore (pc := 75) (L' := [(6, .int 0), (5, .int (nI (mN (G 243) ln pl))), (4, .int x44), (3, .int 0), (2, .int (nI e1)), (0, .ref (w.2.2 239)), (1, .int (nI pl))]) hc dX6_days_75 (by decide) rfl ?_
        have loop77 : ∀ (n1 : Nat) (k : Nat), k ≤ (mN (G 243) ln pl) → (mN (G 243) ln pl) < k + n1 → XX w K 8 (GM G 0 s (rRep f (dWarm (G 243) ln pl) k) (rRepM f m (dWarm (G 243) ln pl) k)) 77 [(6, .int (nI k)), (5, .int (nI (mN (G 243) ln pl))), (4, .int (dWarm (G 243) ln pl)), (0, .ref (w.2.2 239)), (1, .int (nI pl))] [] := by
          intro n1
          induction n1 with
          | zero => intro k hk hf; omega
          | succ n1 ih =>
            intro k hk hf
            have hk9 := RV_rep (dWarm (G 243) ln pl) k (by omega) hV
            refine x_iload (pc := 77) hc dX6_days_77 0 rfl ?_
            refine x_iload (pc := 79) hc dX6_days_79 1 rfl ?_
            refine x_icmp_ge (pc := 81) hc dX6_days_81 99 (by decide) (fun c81 => ?_) (fun c81 => ?_)
            · have c81 : mN (G 243) ln pl ≤ k := (nI_leI (a := mN (G 243) ln pl) (b := k) (by omega) (by omega)).mp c81
              refine x_iload (pc := 99) hc dX6_days_99 1 rfl ?_
              exact hret _ _ _ _ dX6_days_101 ⟨hmn.1.symm, (by rw [show k = (mN (G 243) ln pl) by omega])⟩
            · have c81 : ¬ mN (G 243) ln pl ≤ k := fun h9 => c81 ((nI_leI (a := mN (G 243) ln pl) (b := k) (by omega) (by omega)).mpr h9)
              refine x_aload_n (pc := 84) hc dX6_days_84 3 rfl ?_
              refine x_iconst (v := 0) (pc := 85) hc dX6_days_85 (by decide) ?_
              refine x_iload (pc := 86) hc dX6_days_86 2 rfl ?_
              refine x_callVi (pc := 88) hc cl_X6_82 cfR kcX6 [.int 0, .int (dWarm (G 243) ln pl)] (m_X6_measures hI (kl K) G (dWarm (G 243) ln pl) (dN (rRep f (dWarm (G 243) ln pl) k)) (cN (rRep f (dWarm (G 243) ln pl) k)) (rN (rRep f (dWarm (G 243) ln pl) k)) 0 s (rRep f (dWarm (G 243) ln pl) k) (rRepM f m (dWarm (G 243) ln pl) k) (by omega) hk9.1.1 hk9.1.2 hk9.2.2.2.2.1 ⟨hk9.2.2.1.1, Or.inl ⟨rfl, hk9.2.2.1.2⟩⟩) rfl rfl (by simp [Value.category]) rfl rfl ⟨by decide, by decide⟩ dX6_days_88 (fun r88 Gc88 q88 => ?_)
              obtain ⟨ev9, eg9⟩ := q88
              rw [eg9]
              refine x_istore (pc := 91) (L' := [(7, .int r88), (6, .int (nI k)), (5, .int (nI (mN (G 243) ln pl))), (4, .int (dWarm (G 243) ln pl)), (0, .ref (w.2.2 239)), (1, .int (nI pl))]) hc dX6_days_91 (by decide) rfl ?_
              refine x_iinc (pc := 93) (L' := [(6, .int (nI (k + 1))), (7, .int r88), (5, .int (nI (mN (G 243) ln pl))), (4, .int (dWarm (G 243) ln pl)), (0, .ref (w.2.2 239)), (1, .int (nI pl))]) hc dX6_days_93 1 rfl (nI (k + 1)) (nI_1 _) (by decide) rfl ?_
              refine x_goto (pc := 96) hc dX6_days_96 77 (by decide) ?_
              refine x_loc [0, 2, 3, 4, 5] rfl ?_
              exact ih (k + 1) (by omega) (by omega)
        refine x_loc [0, 1, 2, 5, 6] rfl ?_
        rw [ex44]
        exact loop77 21 0 (by omega) (by omega)
      · refine x_aload_n (pc := 56) hc dX6_days_56 3 rfl ?_
        refine x_iload_n (pc := 57) hc dX6_days_57 2 rfl ?_
        refine x_iconst (v := 1) (pc := 58) hc dX6_days_58 (by decide) ?_
        refine x_iadd (pc := 59) hc dX6_days_59 ?_
        refine x_as (nI (e1 + 1)) (nI_add _ _) ?_
        refine x_aload_n (pc := 60) hc dX6_days_60 3 rfl ?_
        refine x_iload_n (pc := 61) hc dX6_days_61 4 rfl ?_
        refine x_callVi (pc := 62) hc cl_X6_109 cfR kcX6 [.int (nI pl)] (m_X6_dayEnd hI (kl K) (GM G 0 s f m) pl ln hln hl (by omega)) rfl rfl (by simp [Value.category]) rfl rfl ⟨by decide, by decide⟩ dX6_days_62 (fun r62 Gc62 q62 => ?_)
        obtain ⟨er62, eGc62⟩ := q62
        rw [eGc62]
        subst er62
        refine x_as (enc (dEnd (G 243) ln pl)) rfl ?_
        rw [hd]
        refine x_as (nI e2) rfl ?_
        refine x_callVi (pc := 65) hc cl_X6_112 cfR kcX6 [.int (nI (e1 + 1)), .int (nI e2)] (m_X6_numberIn hI (kl K) (GM G 0 s f m) (e1 + 1) e2 ln hln hl (by omega) (by omega)) rfl rfl (by simp [Value.category]) rfl rfl ⟨by decide, by decide⟩ dX6_days_65 (fun r65 Gc65 q65 => ?_)
        obtain ⟨er65, eGc65⟩ := q65
        rw [eGc65]
        subst er65
        refine x_as (numIn (G 243) ln (e1 + 1) e2) rfl ?_
        refine x_goto (pc := 68) hc dX6_days_68 72 (by decide) ?_
        refine x_as (nI (mN (G 243) ln pl)) (by rw [← hmn.1]; unfold dMany; rw [hw]; dsimp only; rw [if_pos c53, hd]) ?_
        refine x_istore (pc := 72) (L' := [(5, .int (nI (mN (G 243) ln pl))), (4, .int x44), (3, .int 0), (2, .int (nI e1)), (0, .ref (w.2.2 239)), (1, .int (nI pl))]) hc dX6_days_72 (by decide) rfl ?_
        refine x_iconst (v := 0) (pc := 74) hc dX6_days_74 (by decide) ?_
        refine x_istore (pc := 75) (L' := [(6, .int 0), (5, .int (nI (mN (G 243) ln pl))), (4, .int x44), (3, .int 0), (2, .int (nI e1)), (0, .ref (w.2.2 239)), (1, .int (nI pl))]) hc dX6_days_75 (by decide) rfl ?_
        have loop77 : ∀ (n1 : Nat) (k : Nat), k ≤ (mN (G 243) ln pl) → (mN (G 243) ln pl) < k + n1 → XX w K 8 (GM G 0 s (rRep f (dWarm (G 243) ln pl) k) (rRepM f m (dWarm (G 243) ln pl) k)) 77 [(6, .int (nI k)), (5, .int (nI (mN (G 243) ln pl))), (4, .int (dWarm (G 243) ln pl)), (0, .ref (w.2.2 239)), (1, .int (nI pl))] [] := by
          intro n1
          induction n1 with
          | zero => intro k hk hf; omega
          | succ n1 ih =>
            intro k hk hf
            have hk9 := RV_rep (dWarm (G 243) ln pl) k (by omega) hV
            refine x_iload (pc := 77) hc dX6_days_77 0 rfl ?_
            refine x_iload (pc := 79) hc dX6_days_79 1 rfl ?_
            refine x_icmp_ge (pc := 81) hc dX6_days_81 99 (by decide) (fun c81_1 => ?_) (fun c81_1 => ?_)
            · have c81_1 : mN (G 243) ln pl ≤ k := (nI_leI (a := mN (G 243) ln pl) (b := k) (by omega) (by omega)).mp c81_1
              refine x_iload (pc := 99) hc dX6_days_99 1 rfl ?_
              exact hret _ _ _ _ dX6_days_101 ⟨hmn.1.symm, (by rw [show k = (mN (G 243) ln pl) by omega])⟩
            · have c81_1 : ¬ mN (G 243) ln pl ≤ k := fun h9 => c81_1 ((nI_leI (a := mN (G 243) ln pl) (b := k) (by omega) (by omega)).mpr h9)
              refine x_aload_n (pc := 84) hc dX6_days_84 3 rfl ?_
              refine x_iconst (v := 0) (pc := 85) hc dX6_days_85 (by decide) ?_
              refine x_iload (pc := 86) hc dX6_days_86 2 rfl ?_
              refine x_callVi (pc := 88) hc cl_X6_82 cfR kcX6 [.int 0, .int (dWarm (G 243) ln pl)] (m_X6_measures hI (kl K) G (dWarm (G 243) ln pl) (dN (rRep f (dWarm (G 243) ln pl) k)) (cN (rRep f (dWarm (G 243) ln pl) k)) (rN (rRep f (dWarm (G 243) ln pl) k)) 0 s (rRep f (dWarm (G 243) ln pl) k) (rRepM f m (dWarm (G 243) ln pl) k) (by omega) hk9.1.1 hk9.1.2 hk9.2.2.2.2.1 ⟨hk9.2.2.1.1, Or.inl ⟨rfl, hk9.2.2.1.2⟩⟩) rfl rfl (by simp [Value.category]) rfl rfl ⟨by decide, by decide⟩ dX6_days_88 (fun r88_1 Gc88_1 q88_1 => ?_)
              obtain ⟨ev9, eg9⟩ := q88_1
              rw [eg9]
              refine x_istore (pc := 91) (L' := [(7, .int r88_1), (6, .int (nI k)), (5, .int (nI (mN (G 243) ln pl))), (4, .int (dWarm (G 243) ln pl)), (0, .ref (w.2.2 239)), (1, .int (nI pl))]) hc dX6_days_91 (by decide) rfl ?_
              refine x_iinc (pc := 93) (L' := [(6, .int (nI (k + 1))), (7, .int r88_1), (5, .int (nI (mN (G 243) ln pl))), (4, .int (dWarm (G 243) ln pl)), (0, .ref (w.2.2 239)), (1, .int (nI pl))]) hc dX6_days_93 1 rfl (nI (k + 1)) (nI_1 _) (by decide) rfl ?_
              refine x_goto (pc := 96) hc dX6_days_96 77 (by decide) ?_
              refine x_loc [0, 2, 3, 4, 5] rfl ?_
              exact ih (k + 1) (by omega) (by omega)
        refine x_loc [0, 1, 2, 5, 6] rfl ?_
        rw [ex44]
        exact loop77 21 0 (by omega) (by omega)
    · exact absurd (by decide) c23
  · refine x_iconst (v := 1) (pc := 16) hc dX6_days_16 (by decide) ?_
    refine x_goto (pc := 17) hc dX6_days_17 21 (by decide) ?_
    refine x_istore_n (pc := 21) (L' := [(3, .int 1), (2, .int (nI e1)), (0, .ref (w.2.2 239)), (1, .int (nI pl))]) hc dX6_days_21 (by decide) rfl ?_
    refine x_iload_n (pc := 22) hc dX6_days_22 0 rfl ?_
    refine x_if_eq (pc := 23) hc dX6_days_23 38 (by decide) (fun c23_1 => ?_) (fun c23_1 => ?_)
    · exact absurd c23_1 (by decide)
    · refine x_aload_n (pc := 26) hc dX6_days_26 2 rfl ?_
      refine x_iload_n (pc := 27) hc dX6_days_27 3 rfl ?_
      refine x_iconst (v := 1) (pc := 28) hc dX6_days_28 (by decide) ?_
      refine x_iadd (pc := 29) hc dX6_days_29 ?_
      refine x_as (nI (pl + 1)) (nI_add _ _) ?_
      refine x_iload_n (pc := 30) hc dX6_days_30 1 rfl ?_
      refine x_callVi (pc := 31) hc cl_X6_112 cfR kcX6 [.int (nI (pl + 1)), .int (nI e1)] (m_X6_numberIn hI (kl K) (GM G 0 s f m) (pl + 1) e1 ln hln hl (by omega) (by omega)) rfl rfl (by simp [Value.category]) rfl rfl ⟨by decide, by decide⟩ dX6_days_31 (fun r31 Gc31 q31 => ?_)
      obtain ⟨er31, eGc31⟩ := q31
      rw [eGc31]
      subst er31
      refine x_as (numIn (G 243) ln (pl + 1) e1) rfl ?_
      refine x_ineg (pc := 34) hc dX6_days_34 ?_
      refine x_goto (pc := 35) hc dX6_days_35 44 (by decide) ?_
      refine x_as (dWarm (G 243) ln pl) (by unfold dWarm; rw [if_pos c13, hw]) ?_
      refine x_nm (fun x44_1 ex44_1 => ?_)
      refine x_istore (pc := 44) (L' := [(4, .int x44_1), (3, .int 1), (2, .int (nI e1)), (0, .ref (w.2.2 239)), (1, .int (nI pl))]) hc dX6_days_44 (by decide) rfl ?_
      refine x_aload_n (pc := 46) hc dX6_days_46 3 rfl ?_
      refine x_iload_n (pc := 47) hc dX6_days_47 2 rfl ?_
      refine x_callVi (pc := 48) hc cl_X6_97 cfR kcX6 [.int (nI e1)] (m_X6_sign hI (kl K) (GM G 0 s f m) e1 ln hln hl (by omega)) rfl rfl (by simp [Value.category]) rfl rfl ⟨by decide, by decide⟩ dX6_days_48 (fun r48_1 Gc48_1 q48_1 => ?_)
      obtain ⟨er48_1, eGc48_1⟩ := q48_1
      rw [eGc48_1]
      subst er48_1
      refine x_as (sg (G 243) ln e1) rfl ?_
      refine x_bipush (v := 42) (pc := 51) hc dX6_days_51 (by decide) ?_
      refine x_icmp_ne (pc := 53) hc dX6_days_53 71 (by decide) (fun c53_1 => ?_) (fun c53_1 => ?_)
      · refine x_iconst (v := 1) (pc := 71) hc dX6_days_71 (by decide) ?_
        refine x_as (nI (mN (G 243) ln pl)) (by rw [← hmn.1]; unfold dMany; rw [hw]; dsimp only; rw [if_neg c53_1]) ?_
        refine x_istore (pc := 72) (L' := [(5, .int (nI (mN (G 243) ln pl))), (4, .int x44_1), (3, .int 1), (2, .int (nI e1)), (0, .ref (w.2.2 239)), (1, .int (nI pl))]) hc dX6_days_72 (by decide) rfl ?_
        refine x_iconst (v := 0) (pc := 74) hc dX6_days_74 (by decide) ?_
        refine x_istore (pc := 75) (L' := [(6, .int 0), (5, .int (nI (mN (G 243) ln pl))), (4, .int x44_1), (3, .int 1), (2, .int (nI e1)), (0, .ref (w.2.2 239)), (1, .int (nI pl))]) hc dX6_days_75 (by decide) rfl ?_
        have loop77 : ∀ (n1 : Nat) (k : Nat), k ≤ (mN (G 243) ln pl) → (mN (G 243) ln pl) < k + n1 → XX w K 8 (GM G 0 s (rRep f (dWarm (G 243) ln pl) k) (rRepM f m (dWarm (G 243) ln pl) k)) 77 [(6, .int (nI k)), (5, .int (nI (mN (G 243) ln pl))), (4, .int (dWarm (G 243) ln pl)), (0, .ref (w.2.2 239)), (1, .int (nI pl))] [] := by
          intro n1
          induction n1 with
          | zero => intro k hk hf; omega
          | succ n1 ih =>
            intro k hk hf
            have hk9 := RV_rep (dWarm (G 243) ln pl) k (by omega) hV
            refine x_iload (pc := 77) hc dX6_days_77 0 rfl ?_
            refine x_iload (pc := 79) hc dX6_days_79 1 rfl ?_
            refine x_icmp_ge (pc := 81) hc dX6_days_81 99 (by decide) (fun c81_2 => ?_) (fun c81_2 => ?_)
            · have c81_2 : mN (G 243) ln pl ≤ k := (nI_leI (a := mN (G 243) ln pl) (b := k) (by omega) (by omega)).mp c81_2
              refine x_iload (pc := 99) hc dX6_days_99 1 rfl ?_
              exact hret _ _ _ _ dX6_days_101 ⟨hmn.1.symm, (by rw [show k = (mN (G 243) ln pl) by omega])⟩
            · have c81_2 : ¬ mN (G 243) ln pl ≤ k := fun h9 => c81_2 ((nI_leI (a := mN (G 243) ln pl) (b := k) (by omega) (by omega)).mpr h9)
              refine x_aload_n (pc := 84) hc dX6_days_84 3 rfl ?_
              refine x_iconst (v := 0) (pc := 85) hc dX6_days_85 (by decide) ?_
              refine x_iload (pc := 86) hc dX6_days_86 2 rfl ?_
              refine x_callVi (pc := 88) hc cl_X6_82 cfR kcX6 [.int 0, .int (dWarm (G 243) ln pl)] (m_X6_measures hI (kl K) G (dWarm (G 243) ln pl) (dN (rRep f (dWarm (G 243) ln pl) k)) (cN (rRep f (dWarm (G 243) ln pl) k)) (rN (rRep f (dWarm (G 243) ln pl) k)) 0 s (rRep f (dWarm (G 243) ln pl) k) (rRepM f m (dWarm (G 243) ln pl) k) (by omega) hk9.1.1 hk9.1.2 hk9.2.2.2.2.1 ⟨hk9.2.2.1.1, Or.inl ⟨rfl, hk9.2.2.1.2⟩⟩) rfl rfl (by simp [Value.category]) rfl rfl ⟨by decide, by decide⟩ dX6_days_88 (fun r88_2 Gc88_2 q88_2 => ?_)
              obtain ⟨ev9, eg9⟩ := q88_2
              rw [eg9]
              refine x_istore (pc := 91) (L' := [(7, .int r88_2), (6, .int (nI k)), (5, .int (nI (mN (G 243) ln pl))), (4, .int (dWarm (G 243) ln pl)), (0, .ref (w.2.2 239)), (1, .int (nI pl))]) hc dX6_days_91 (by decide) rfl ?_
              refine x_iinc (pc := 93) (L' := [(6, .int (nI (k + 1))), (7, .int r88_2), (5, .int (nI (mN (G 243) ln pl))), (4, .int (dWarm (G 243) ln pl)), (0, .ref (w.2.2 239)), (1, .int (nI pl))]) hc dX6_days_93 1 rfl (nI (k + 1)) (nI_1 _) (by decide) rfl ?_
              refine x_goto (pc := 96) hc dX6_days_96 77 (by decide) ?_
              refine x_loc [0, 2, 3, 4, 5] rfl ?_
              exact ih (k + 1) (by omega) (by omega)
        refine x_loc [0, 1, 2, 5, 6] rfl ?_
        rw [ex44_1]
        exact loop77 21 0 (by omega) (by omega)
      · refine x_aload_n (pc := 56) hc dX6_days_56 3 rfl ?_
        refine x_iload_n (pc := 57) hc dX6_days_57 2 rfl ?_
        refine x_iconst (v := 1) (pc := 58) hc dX6_days_58 (by decide) ?_
        refine x_iadd (pc := 59) hc dX6_days_59 ?_
        refine x_as (nI (e1 + 1)) (nI_add _ _) ?_
        refine x_aload_n (pc := 60) hc dX6_days_60 3 rfl ?_
        refine x_iload_n (pc := 61) hc dX6_days_61 4 rfl ?_
        refine x_callVi (pc := 62) hc cl_X6_109 cfR kcX6 [.int (nI pl)] (m_X6_dayEnd hI (kl K) (GM G 0 s f m) pl ln hln hl (by omega)) rfl rfl (by simp [Value.category]) rfl rfl ⟨by decide, by decide⟩ dX6_days_62 (fun r62_1 Gc62_1 q62_1 => ?_)
        obtain ⟨er62_1, eGc62_1⟩ := q62_1
        rw [eGc62_1]
        subst er62_1
        refine x_as (enc (dEnd (G 243) ln pl)) rfl ?_
        rw [hd]
        refine x_as (nI e2) rfl ?_
        refine x_callVi (pc := 65) hc cl_X6_112 cfR kcX6 [.int (nI (e1 + 1)), .int (nI e2)] (m_X6_numberIn hI (kl K) (GM G 0 s f m) (e1 + 1) e2 ln hln hl (by omega) (by omega)) rfl rfl (by simp [Value.category]) rfl rfl ⟨by decide, by decide⟩ dX6_days_65 (fun r65_1 Gc65_1 q65_1 => ?_)
        obtain ⟨er65_1, eGc65_1⟩ := q65_1
        rw [eGc65_1]
        subst er65_1
        refine x_as (numIn (G 243) ln (e1 + 1) e2) rfl ?_
        refine x_goto (pc := 68) hc dX6_days_68 72 (by decide) ?_
        refine x_as (nI (mN (G 243) ln pl)) (by rw [← hmn.1]; unfold dMany; rw [hw]; dsimp only; rw [if_pos c53_1, hd]) ?_
        refine x_istore (pc := 72) (L' := [(5, .int (nI (mN (G 243) ln pl))), (4, .int x44_1), (3, .int 1), (2, .int (nI e1)), (0, .ref (w.2.2 239)), (1, .int (nI pl))]) hc dX6_days_72 (by decide) rfl ?_
        refine x_iconst (v := 0) (pc := 74) hc dX6_days_74 (by decide) ?_
        refine x_istore (pc := 75) (L' := [(6, .int 0), (5, .int (nI (mN (G 243) ln pl))), (4, .int x44_1), (3, .int 1), (2, .int (nI e1)), (0, .ref (w.2.2 239)), (1, .int (nI pl))]) hc dX6_days_75 (by decide) rfl ?_
        have loop77 : ∀ (n1 : Nat) (k : Nat), k ≤ (mN (G 243) ln pl) → (mN (G 243) ln pl) < k + n1 → XX w K 8 (GM G 0 s (rRep f (dWarm (G 243) ln pl) k) (rRepM f m (dWarm (G 243) ln pl) k)) 77 [(6, .int (nI k)), (5, .int (nI (mN (G 243) ln pl))), (4, .int (dWarm (G 243) ln pl)), (0, .ref (w.2.2 239)), (1, .int (nI pl))] [] := by
          intro n1
          induction n1 with
          | zero => intro k hk hf; omega
          | succ n1 ih =>
            intro k hk hf
            have hk9 := RV_rep (dWarm (G 243) ln pl) k (by omega) hV
            refine x_iload (pc := 77) hc dX6_days_77 0 rfl ?_
            refine x_iload (pc := 79) hc dX6_days_79 1 rfl ?_
            refine x_icmp_ge (pc := 81) hc dX6_days_81 99 (by decide) (fun c81_3 => ?_) (fun c81_3 => ?_)
            · have c81_3 : mN (G 243) ln pl ≤ k := (nI_leI (a := mN (G 243) ln pl) (b := k) (by omega) (by omega)).mp c81_3
              refine x_iload (pc := 99) hc dX6_days_99 1 rfl ?_
              exact hret _ _ _ _ dX6_days_101 ⟨hmn.1.symm, (by rw [show k = (mN (G 243) ln pl) by omega])⟩
            · have c81_3 : ¬ mN (G 243) ln pl ≤ k := fun h9 => c81_3 ((nI_leI (a := mN (G 243) ln pl) (b := k) (by omega) (by omega)).mpr h9)
              refine x_aload_n (pc := 84) hc dX6_days_84 3 rfl ?_
              refine x_iconst (v := 0) (pc := 85) hc dX6_days_85 (by decide) ?_
              refine x_iload (pc := 86) hc dX6_days_86 2 rfl ?_
              refine x_callVi (pc := 88) hc cl_X6_82 cfR kcX6 [.int 0, .int (dWarm (G 243) ln pl)] (m_X6_measures hI (kl K) G (dWarm (G 243) ln pl) (dN (rRep f (dWarm (G 243) ln pl) k)) (cN (rRep f (dWarm (G 243) ln pl) k)) (rN (rRep f (dWarm (G 243) ln pl) k)) 0 s (rRep f (dWarm (G 243) ln pl) k) (rRepM f m (dWarm (G 243) ln pl) k) (by omega) hk9.1.1 hk9.1.2 hk9.2.2.2.2.1 ⟨hk9.2.2.1.1, Or.inl ⟨rfl, hk9.2.2.1.2⟩⟩) rfl rfl (by simp [Value.category]) rfl rfl ⟨by decide, by decide⟩ dX6_days_88 (fun r88_3 Gc88_3 q88_3 => ?_)
              obtain ⟨ev9, eg9⟩ := q88_3
              rw [eg9]
              refine x_istore (pc := 91) (L' := [(7, .int r88_3), (6, .int (nI k)), (5, .int (nI (mN (G 243) ln pl))), (4, .int (dWarm (G 243) ln pl)), (0, .ref (w.2.2 239)), (1, .int (nI pl))]) hc dX6_days_91 (by decide) rfl ?_
              refine x_iinc (pc := 93) (L' := [(6, .int (nI (k + 1))), (7, .int r88_3), (5, .int (nI (mN (G 243) ln pl))), (4, .int (dWarm (G 243) ln pl)), (0, .ref (w.2.2 239)), (1, .int (nI pl))]) hc dX6_days_93 1 rfl (nI (k + 1)) (nI_1 _) (by decide) rfl ?_
              refine x_goto (pc := 96) hc dX6_days_96 77 (by decide) ?_
              refine x_loc [0, 2, 3, 4, 5] rfl ?_
              exact ih (k + 1) (by omega) (by omega)
        refine x_loc [0, 1, 2, 5, 6] rfl ?_
        rw [ex44_1]
        exact loop77 21 0 (by omega) (by omega)
