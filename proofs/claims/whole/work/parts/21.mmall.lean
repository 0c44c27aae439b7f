theorem nI_m5 {n : Nat} (h : n < 2 ^ 31) : nI n ≠ -5 := by
  intro e
  have := congrArg Int32.toInt e
  rw [nI_toInt h, show (-5 : Int32).toInt = -5 from rfl] at this
  omega
theorem fF_step {tx : Nat → Int32} {ln j pl : Nat} (hp : pl ≤ 60) (hln : ln ≤ 60) (hj : 1 ≤ j) (h : fFault tx ln j pl = -5) : ∃ e, dEnd tx ln pl = (true, e) ∧ (e = ln ∨ (e < ln ∧ fFault tx ln (j - 1) (e + 1) = -5)) := by
  obtain ⟨j, rfl⟩ : ∃ q, j = q + 1 := ⟨j - 1, by omega⟩
  obtain ⟨b, e, hd⟩ : ∃ b e, dEnd tx ln pl = (b, e) := ⟨_, _, rfl⟩
  have hb := dEnd_b _ _ _ hd
  unfold fFault at h
  rw [hd] at h
  cases b with
  | false => exact absurd h (nI_m5 (by omega))
  | true =>
    refine ⟨e, hd, ?_⟩
    dsimp only at h
    by_cases h1 : e = ln
    · exact Or.inl h1
    · rw [if_neg h1] at h
      by_cases h2 : sg tx ln e = 59
      · rw [if_pos h2] at h
        exact Or.inr ⟨sg_in h2 (by decide), h⟩
      · rw [if_neg h2] at h
        exact absurd h (nI_m5 (by omega))
def aAll (tx : Nat → Int32) (ln : Nat) : Nat → Nat → (Nat → Int32) → Int32 → Int32 × (Nat → Int32)
  | 0, _, f, n => (n, f)
  | k + 1, pl, f, n => if pl < ln then aAll tx ln k ((dEnd tx ln pl).2 + 1) (rRep f (dWarm tx ln pl) (mN tx ln pl)) (n + dMany tx ln pl) else (n, f)
def qAll (A : AT) : Int32 := if qFault A = -5 then (aAll (aT A) (aL A) 61 0 (aF A) 0).1 else -100 - qFault A
def tAll (A : AT) : AT := if qFault A = -5 then aPut (aRem A) (aAll (aT A) (aL A) 61 0 (aF A) 0).2 else A
set_option maxHeartbeats 4000000 in
set_option maxRecDepth 100000 in
theorem all_tail {w : WT} (hI : xI w) {K : KT} (G : GS) (s f0 m0 : Nat → Int32) (B : Nat) (ln : Nat) (hln : ln ≤ 60) (hl : G 239 6 = nI ln) (hF0 : fFault (G 243) ln 60 0 = -5) (hV0 : RV f0 (B + 10 * 0)) (hB : B + 2000 < 2 ^ 31) (hc : CX w K cX6_measureAll 4 yX6_measureAll.cls ⟨7, 0, 0, 165⟩) (hret : ∀ (pc : Nat) (G' : GS) (L : List (Nat × Value)) (v9 : Int32), decode cX6_measureAll pc = .ok (.ireturn, 1) → (fun v9 G' => v9 = (aAll (G 243) ln 61 0 f0 0).1 ∧ ∃ m, G' = GM G 0 s (aAll (G 243) ln 61 0 f0 0).2 m) v9 G' → XX w K 4 G' pc L [.int v9]) : XX w K 4 (GM G 0 s f0 m0) 20 [(0, .ref (w.2.2 239))] [] := by
  refine x_iconst (v := 0) (pc := 20) hc dX6_measureAll_20 (by decide) ?_
  refine x_istore_n (pc := 21) (L' := [(2, .int 0), (0, .ref (w.2.2 239))]) hc dX6_measureAll_21 (by decide) rfl ?_
  refine x_iconst (v := 0) (pc := 22) hc dX6_measureAll_22 (by decide) ?_
  refine x_istore_n (pc := 23) (L' := [(3, .int 0), (2, .int 0), (0, .ref (w.2.2 239))]) hc dX6_measureAll_23 (by decide) rfl ?_
  have loop24 : ∀ (n1 : Nat) (k pl j : Nat) (f m : Nat → Int32) (x : Int32), 2 * k ≤ pl → pl ≤ ln + 1 → 2 * (60 - j) ≤ pl ∧ j ≤ 60 → (pl ≤ ln → fFault (G 243) ln j pl = -5) → aAll (G 243) ln 61 0 f0 0 = aAll (G 243) ln (61 - k) pl f x → RV f (B + 10 * pl) → ln + 1 < pl + n1 → XX w K 4 (GM G 0 s f m) 24 [(3, .int (nI pl)), (2, .int x), (0, .ref (w.2.2 239))] [] := by
    intro n1
    induction n1 with
    | zero => intro k pl j f m x hk hp hj hF hA hV hf; omega
    | succ n1 ih =>
      intro k pl j f m x hk hp hj hF hA hV hf
      refine x_iload_n (pc := 24) hc dX6_measureAll_24 0 rfl ?_
      refine x_aload_n (pc := 25) hc dX6_measureAll_25 2 rfl ?_
      refine x_get (pc := 26) hc cfR kcX6 6 (by decide) fl_X6_94 rfl dX6_measureAll_26 ?_
      refine x_as (G 239 6) rfl ?_
      refine x_as (nI ln) hl ?_
      refine x_icmp_ge (pc := 29) hc dX6_measureAll_29 51 (by decide) (fun c29 => ?_) (fun c29 => ?_)
      · have c29 : ln ≤ pl := (nI_leI (a := ln) (b := pl) (by omega) (by omega)).mp c29
        refine x_iload_n (pc := 51) hc dX6_measureAll_51 1 rfl ?_
        exact hret _ _ _ _ dX6_measureAll_52 (by
          rw [hA, show 61 - k = (60 - k) + 1 by omega]
          unfold aAll
          rw [if_neg (by omega)]
          exact ⟨rfl, _, rfl⟩)
      · have c29 : ¬ ln ≤ pl := fun h9 => c29 ((nI_leI (a := ln) (b := pl) (by omega) (by omega)).mpr h9)
        obtain ⟨e, hd, he⟩ := fF_step (by omega) hln (by omega) (hF (by omega))
        have hdb := dEnd_b _ _ _ hd
        have hdb2 := hdb.2.2 rfl
        have hmn := mN_eq hd
        refine x_iload_n (pc := 32) hc dX6_measureAll_32 1 rfl ?_
        refine x_aload_n (pc := 33) hc dX6_measureAll_33 2 rfl ?_
        refine x_iload_n (pc := 34) hc dX6_measureAll_34 0 rfl ?_
        refine x_callVi (pc := 35) hc cl_X6_119 cfR kcX6 [.int (nI pl)] (m_X6_days hI (kl K) G pl e (B + 10 * pl) s f m ln hln hl (by omega) hd hV (by omega)) rfl rfl (by simp [Value.category]) rfl rfl ⟨by decide, by decide⟩ dX6_measureAll_35 (fun r35 Gc35 q35 => ?_)
        obtain ⟨ev9, eg9⟩ := q35
        subst ev9
        rw [eg9]
        refine x_iadd (pc := 38) hc dX6_measureAll_38 ?_
        refine x_nm (fun x39 ex39 => ?_)
        refine x_istore_n (pc := 39) (L' := [(2, .int x39), (3, .int (nI pl)), (0, .ref (w.2.2 239))]) hc dX6_measureAll_39 (by decide) rfl ?_
        refine x_aload_n (pc := 40) hc dX6_measureAll_40 2 rfl ?_
        refine x_iload_n (pc := 41) hc dX6_measureAll_41 1 rfl ?_
        refine x_callVi (pc := 42) hc cl_X6_109 cfR kcX6 [.int (nI pl)] (m_X6_dayEnd hI (kl K) (GM G 0 s (rRep f (dWarm (G 243) ln pl) (mN (G 243) ln pl)) (rRepM f m (dWarm (G 243) ln pl) (mN (G 243) ln pl))) pl ln hln hl (by omega)) rfl rfl (by simp [Value.category]) rfl rfl ⟨by decide, by decide⟩ dX6_measureAll_42 (fun r42 Gc42 q42 => ?_)
        obtain ⟨er42, eGc42⟩ := q42
        rw [eGc42]
        subst er42
        refine x_as (enc (dEnd (G 243) ln pl)) rfl ?_
        rw [hd]
        refine x_as (nI e) rfl ?_
        refine x_iconst (v := 1) (pc := 45) hc dX6_measureAll_45 (by decide) ?_
        refine x_iadd (pc := 46) hc dX6_measureAll_46 ?_
        refine x_as (nI (e + 1)) (nI_add _ _) ?_
        refine x_istore_n (pc := 47) (L' := [(3, .int (nI (e + 1))), (2, .int x39), (0, .ref (w.2.2 239))]) hc dX6_measureAll_47 (by decide) rfl ?_
        refine x_goto (pc := 48) hc dX6_measureAll_48 24 (by decide) ?_
        refine x_loc [0, 1, 2] rfl ?_
        refine ih (k + 1) (e + 1) (j - 1) _ _ x39 (by omega) (by omega) (by omega) (fun h9 => ?_) ?_ ?_ (by omega)
        · rcases he with h | ⟨_, h⟩
          · omega
          · exact h
        · rw [hA, show 61 - k = (61 - (k + 1)) + 1 by omega]
          conv => lhs; unfold aAll
          rw [if_pos (by omega), hd, ex39]
        · exact RV_mono (by omega) (RV_rep _ _ (by omega) hV)
  refine x_loc [0, 1, 2] rfl ?_
  exact loop24 62 0 0 60 f0 m0 0 (by omega) (by omega) (by omega) (fun _ => hF0) rfl hV0 (by omega)
set_option maxHeartbeats 4000000 in
set_option maxRecDepth 100000 in
theorem M_measureAll {w : WT} (hI : xI w) (l : Launch) (G : GS) (B : Nat) (hR : MR G) (hV : AV (aOf G) B) (hB : B + 2000 < 2 ^ 31) : Mi w l yX6_measureAll cX6_measureAll 4 (some .int) ⟨7, 0, 0, 165⟩ [.ref (w.2.2 239)] G (fun v9 G' => v9 = qAll (aOf G) ∧ PMq G G' (tAll (aOf G))) := by
  refine mk_i (L0 := [(0, .ref (w.2.2 239))]) hI (by decide +kernel) rfl (Nat.le_of_ble_eq_true rfl) (fun _ _ _ => rfl) (fun K hc hret => ?_)
  have hn : aN (aOf G) ≤ 4 := hV.1
  have h300 : G 240 300 = nI (dN (G 240)) := hV.2.1.1.2
  have hdN : dN (G 240) < 20 := hV.2.1.1.1
  have h303a : G 240 303 = nI (rN (G 240)) := hV.2.1.2.2.1.2
  have hrN : rN (G 240) ≤ 9 := hV.2.1.2.2.1.1
  have hsn : rSn (G 240) (cN (G 240)) := hV.2.1.2.2.2.2.1
  have hcN := hsn.1
  refine x_aload_n (pc := 0) hc dX6_measureAll_0 0 rfl ?_
  refine x_callVi (pc := 1) hc cl_X6_115 cfR kcX6 [] (m_X6_fault hI (kl K) G (aL (aOf G)) hV.2.2.2.2.2 hR.2) rfl rfl (by simp [Value.category]) rfl rfl ⟨by decide, by decide⟩ dX6_measureAll_1 (fun r1 Gc1 q1 => ?_)
  obtain ⟨er1, eGc1⟩ := q1
  rw [eGc1]
  subst er1
  refine x_nm (fun x4 ex4 => ?_)
  refine x_istore_n (pc := 4) (L' := [(1, .int x4), (0, .ref (w.2.2 239))]) hc dX6_measureAll_4 (by decide) rfl ?_
  refine x_iload_n (pc := 5) hc dX6_measureAll_5 0 rfl ?_
  refine x_bipush (v := (-5)) (pc := 6) hc dX6_measureAll_6 (by decide) ?_
  refine x_icmp_eq (pc := 8) hc dX6_measureAll_8 16 (by decide) (fun c8 => ?_) (fun c8 => ?_)
  · refine x_aload_n (pc := 16) hc dX6_measureAll_16 1 rfl ?_
    refine x_callVv (pc := 17) hc cl_X6_79 cfR kcX6 [] (m_X6_remembers hI (kl K) G (aN (aOf G)) hn hR.1) rfl rfl (by simp [Value.category]) rfl rfl ⟨by decide, by decide⟩ dX6_measureAll_17 (fun Gc17 q17 => ?_)
    rw [q17]
    refine x_G (rem_gm G (aN (aOf G))) ?_
    have c8q : qFault (aOf G) = -5 := ex4.symm.trans c8
    refine x_loc [1] rfl ?_
    have e243 : remG G (aN (aOf G)) 243 = G 243 := remG_q _ _ _ (by omega) (by omega)
    exact all_tail hI (remG G (aN (aOf G))) (G 240) (G 240) (G 244) B (aL (aOf G)) hV.2.2.2.2.2 (by rw [remG_239 _ _ _ (by omega)]; exact hR.2) (by rw [e243]; exact c8q) hV.2.1 hB hc (fun pc G' L v9 hd hp => by
      rw [e243] at hp
      obtain ⟨h1, m9, h2⟩ := hp
      refine hret pc G' L v9 hd ⟨?_, ?_⟩
      · unfold qAll; rw [if_pos c8q]; exact h1
      · unfold tAll; rw [if_pos c8q, h2]; exact PMq_gm hR hn)
  · refine x_bipush (v := (-100)) (pc := 11) hc dX6_measureAll_11 (by decide) ?_
    refine x_iload_n (pc := 13) hc dX6_measureAll_13 0 rfl ?_
    refine x_isub (pc := 14) hc dX6_measureAll_14 ?_
    exact hret _ _ _ _ dX6_measureAll_15 ⟨(by have c8q : ¬ qFault (aOf G) = -5 := fun z => c8 (ex4.trans z); unfold qAll; rw [if_neg c8q]; exact congrArg (fun z => -100 - z) ex4), (by have c8q : ¬ qFault (aOf G) = -5 := fun z => c8 (ex4.trans z); unfold tAll; rw [if_neg c8q]; exact PMq_same hR (fun _ _ => rfl))⟩
