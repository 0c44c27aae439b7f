/-! THE DAYS OF THIS YEAR -/
theorem tells_eq {A : AT} {B i fe : Nat} (hV : AV A B) (hf : fe < 20) (e : aF A (308 + 4 * i) = nI fe) : (if nI (dN (aF A)) ≤ nI fe then (0 : Int32) else if aF A (308 + 4 * i + 1) < aF A (40 + fe) then 0 else 1) = b01 (rTells (aF A) i) := by
  have hd := hV.2.1.1.1
  have e3 := hV.2.1.1.2
  have h1 : (aF A (308 + 4 * i) < aF A 300) ↔ fe < dN (aF A) := by rw [e, e3]; exact nI_ltI (by omega) (by omega)
  by_cases h : dN (aF A) ≤ fe
  · rw [if_pos (nI_le h (by omega)), b01_neg (fun z => by have := h1.mp z.1; omega)]
  · rw [if_neg (nI_ge (by omega) (by omega))]
    by_cases h2 : aF A (308 + 4 * i + 1) < aF A (40 + fe)
    · rw [if_pos h2, b01_neg (fun z => by
        have h3 := z.2
        rw [rFe_eq e (by omega)] at h3
        rw [Int32.lt_iff_toInt_lt] at h2
        rw [Int32.le_iff_toInt_le] at h3
        omega)]
    · rw [if_neg h2, b01_pos ⟨h1.mpr (by omega), by
        rw [rFe_eq e (by omega)]
        rw [Int32.lt_iff_toInt_lt] at h2
        rw [Int32.le_iff_toInt_le]
        omega⟩]
theorem b01_01 (p : Prop) [Decidable p] : (if b01 p = 0 then (0 : Int32) else 1) = b01 p := by
  unfold b01
  split <;> rfl
theorem b01_gt (a b : Int32) : (if b < a then (0 : Int32) else 1) = b01 (a ≤ b) := by
  by_cases h : b < a
  · rw [if_pos h, b01_neg (by rw [Int32.lt_iff_toInt_lt] at h; rw [Int32.le_iff_toInt_le]; omega)]
  · rw [if_neg h, b01_pos (by rw [Int32.lt_iff_toInt_lt] at h; rw [Int32.le_iff_toInt_le]; omega)]
theorem add_eq {A : AT} {i fe k : Nat} (e : aF A (308 + 4 * i) = nI fe) : (if b01 (rTells (aF A) i) = 0 then (0 : Int32) else if nI k ≤ nI fe then 0 else if nI fe + aF A (308 + 4 * i + 3) < nI k then 0 else aF A (308 + 4 * i + 2)) = rAdd (aF A) k i := by
  unfold rAdd
  by_cases h : rTells (aF A) i
  · rw [if_neg (by rw [b01_pos h]; decide)]
    by_cases h2 : nI k ≤ nI fe
    · rw [if_pos h2, if_neg (fun z => by
        have h3 := z.2.1
        rw [e, Int32.lt_iff_toInt_lt] at h3
        rw [Int32.le_iff_toInt_le] at h2
        omega)]
    · rw [if_neg h2]
      by_cases h4 : nI fe + aF A (308 + 4 * i + 3) < nI k
      · rw [if_pos h4, if_neg (fun z => by
          have h3 := z.2.2
          rw [e, Int32.le_iff_toInt_le] at h3
          rw [Int32.lt_iff_toInt_lt] at h4
          omega)]
      · rw [if_neg h4, if_pos ⟨h, by
          rw [e, Int32.lt_iff_toInt_lt]
          rw [Int32.le_iff_toInt_le] at h2
          omega, by
          rw [e, Int32.le_iff_toInt_le]
          rw [Int32.lt_iff_toInt_lt] at h4
          omega⟩]
  · rw [if_pos (b01_neg h), if_neg (fun z => h z.1)]
theorem rng_t {v : Int32} (h : inR v) : (v + 1000).toInt = v.toInt + 1000 := by
  have e : (1000 : Int32).toInt = 1000 := rfl
  rw [i32_add (by have := h.1; omega) (by have := h.2; omega) (by rw [e]; omega) (by rw [e]; omega), e]
theorem rng_lo {v : Int32} (h : inR v) : ¬ v + 1000 < 960 := by
  rw [Int32.lt_iff_toInt_lt, rng_t h]
  have e : (960 : Int32).toInt = 960 := rfl
  have := h.1
  omega
theorem rng_hi {v : Int32} (h : inR v) : ¬ 1040 < v + 1000 := by
  rw [Int32.lt_iff_toInt_lt, rng_t h]
  have e : (1040 : Int32).toInt = 1040 := rfl
  have := h.2
  omega
theorem i32_asb (a b c : Int32) : a + b - c = a - c + b := by
  rw [Int32.sub_eq_add_neg, Int32.sub_eq_add_neg, Int32.add_assoc, Int32.add_assoc, Int32.add_comm b]
theorem mis_eq {A : AT} {B k : Nat} (hV : AV A B) (h : k < dN (aF A)) : nowM (aF A) k + 1000 = aF A (40 + k) + 1000 - rToldOf (aF A) k := by
  rw [told_m hV h, i32_asb]
  unfold nowM
  rw [if_pos h]
theorem told_eq {A : AT} {B k i : Nat} (hV : AV A B) (hk : k < 20) (h : ¬ k < dN (aF A)) (hi : i = cN (aF A)) : rToldOf (aF A) k = bnd (rSum (aF A) k i) := by
  rw [told_n hV hk h, hi]
  rfl
theorem sum_m {A : AT} {B k : Nat} (hV : AV A B) (h : k < dN (aF A)) : sSum (nowM (aF A)) k + szI (aF A (40 + k) - rToldOf (aF A) k) = sSum (nowM (aF A)) (k + 1) := by
  rw [told_m hV h]
  show _ = sSum (nowM (aF A)) k + szI (nowM (aF A) k)
  unfold nowM
  rw [if_pos h]
theorem sum_n {A : AT} {k : Nat} (h : ¬ k < dN (aF A)) : sSum (nowM (aF A)) k + 0 = sSum (nowM (aF A)) (k + 1) := by
  show _ = sSum (nowM (aF A)) k + szI (nowM (aF A) k)
  have e : nowM (aF A) k = 0 := if_neg h
  rw [e]
  rfl
set_option maxHeartbeats 4000000 in
set_option maxRecDepth 100000 in
theorem l_areDays {w : WT} (hI : xI w) (l : Launch) (A : AT) (D : Nat → Int32) (B : Nat) (hG : LG A B) (hB : B + 1 < 2 ^ 30) : LMi w l yL_areDays cL_areDays 9 (some .boolean) ⟨4, 0, 0, 97⟩ [.ref (w.2.2 0)] A D (fun r A' D' => r = 1 ∧ A' = A ∧ D' = D) := by
  refine mk_l (L0 := [(0, .ref (w.2.2 0))]) hI (by decide +kernel) rfl (Nat.le_of_ble_eq_true rfl) (fun v A9 D9 h => by rw [h.1]; rfl) (fun K hc hret => ?_)
  have hV := hG.1.1
  have hZ := hG.1.2
  obtain ⟨hd, e300⟩ := hV.2.1.1
  obtain ⟨hyB, e301, e302⟩ := hV.2.1.2.1
  obtain ⟨hr9, e303⟩ := hV.2.1.2.2.1
  obtain ⟨hc5, e307, hfe⟩ := hV.2.1.2.2.2.2.1
  have hk4 := kN4 (aF A)
  refine l_aload_n (pc := 0) hc dL_areDays_0 0 rfl ?_
  refine l_iconst (v := 1) (pc := 1) hc dL_areDays_1 (by decide) ?_
  refine l_q (pc := 2) hc cl_L_8 rfl [.int 1] (fun G hG9 => C_count hI (kl K) G 1 A B hG9 hV hZ hB) rfl rfl (by simp [Value.category]) rfl rfl ⟨by decide, by decide⟩ dL_areDays_2 ?_
  refine l_as (nI (dN (aF A))) ((qc_1 A).trans e300) ?_
  refine l_istore_n (pc := 5) (L' := [(1, .int (nI (dN (aF A)))), (0, .ref (w.2.2 0))]) hc dL_areDays_5 (by decide) rfl ?_
  refine l_iconst (v := 0) (pc := 6) hc dL_areDays_6 (by decide) ?_
  refine l_istore_n (pc := 7) (L' := [(2, .int 0), (1, .int (nI (dN (aF A)))), (0, .ref (w.2.2 0))]) hc dL_areDays_7 (by decide) rfl ?_
  refine l_iconst (v := 0) (pc := 8) hc dL_areDays_8 (by decide) ?_
  refine l_istore_n (pc := 9) (L' := [(3, .int 0), (2, .int 0), (1, .int (nI (dN (aF A)))), (0, .ref (w.2.2 0))]) hc dL_areDays_9 (by decide) rfl ?_
  have loop10 : ∀ (n10 : Nat) (k : Nat), k ≤ 20 → 21 ≤ k + n10 → LX w K 9 A D 10 [(3, .int (nI k)), (2, .int (sSum (nowM (aF A)) k)), (1, .int (nI (dN (aF A)))), (0, .ref (w.2.2 0))] [] := by
    intro n10
    induction n10 with
    | zero => intro k hk hn; omega
    | succ n10 ih10 =>
      intro k hk hn
      refine l_iload_n (pc := 10) hc dL_areDays_10 0 rfl ?_
      refine l_bipush (v := 20) (pc := 11) hc dL_areDays_11 (by decide) ?_
      refine l_icmp_ge (pc := 13) hc dL_areDays_13 343 (by decide) (fun c13 => ?_) (fun c13 => ?_)
      · have oc13 := c13
        have c13 : 20 ≤ k := (nI_leI (a := 20) (b := k) (by omega) (by omega)).mp c13
        refine l_aload_n (pc := 343) hc dL_areDays_343 3 rfl ?_
        refine l_bipush (v := 7) (pc := 344) hc dL_areDays_344 (by decide) ?_
        refine l_q (pc := 346) hc cl_L_8 rfl [.int 7] (fun G hG9 => C_count hI (kl K) G 7 A B hG9 hV hZ hB) rfl rfl (by simp [Value.category]) rfl rfl ⟨by decide, by decide⟩ dL_areDays_346 ?_
        refine l_as (sSum (nowM (aF A)) 20) (qc_7 A) ?_
        refine l_iload_n (pc := 349) hc dL_areDays_349 1 rfl ?_
        refine l_icmp_ne (pc := 350) hc dL_areDays_350 393 (by decide) (fun c350 => ?_) (fun c350 => ?_)
        · exact absurd (by rw [show k = 20 by omega]) c350
        · refine l_iload_n (pc := 353) hc dL_areDays_353 2 rfl ?_
          refine l_if_lt (pc := 354) hc dL_areDays_354 393 (by decide) (fun c354 => ?_) (fun c354 => ?_)
          · exact absurd c354 (nI_pos (by omega))
          · have oc354 := c354
            have c354 : ¬ dN (aF A) < 0 := fun h9 => c354 ((nI_ltI (a := dN (aF A)) (b := 0) (by omega) (by omega)).mpr h9)
            refine l_iload_n (pc := 357) hc dL_areDays_357 2 rfl ?_
            refine l_bipush (v := 20) (pc := 358) hc dL_areDays_358 (by decide) ?_
            refine l_icmp_ge (pc := 360) hc dL_areDays_360 393 (by decide) (fun c360 => ?_) (fun c360 => ?_)
            · exact absurd ((nI_leI (a := 20) (by omega) (by omega)).mp c360) (by omega)
            · have oc360 := c360
              have c360 : ¬ 20 ≤ dN (aF A) := fun h9 => c360 ((nI_leI (a := 20) (b := dN (aF A)) (by omega) (by omega)).mpr h9)
              refine l_aload_n (pc := 363) hc dL_areDays_363 3 rfl ?_
              refine l_iconst (v := 2) (pc := 364) hc dL_areDays_364 (by decide) ?_
              refine l_q (pc := 365) hc cl_L_8 rfl [.int 2] (fun G hG9 => C_count hI (kl K) G 2 A B hG9 hV hZ hB) rfl rfl (by simp [Value.category]) rfl rfl ⟨by decide, by decide⟩ dL_areDays_365 ?_
              refine l_as (nI (kN (aF A))) ((qc_2 A).trans e302) ?_
              refine l_aload_n (pc := 368) hc dL_areDays_368 3 rfl ?_
              refine l_iconst (v := 0) (pc := 369) hc dL_areDays_369 (by decide) ?_
              refine l_q (pc := 370) hc cl_L_8 rfl [.int 0] (fun G hG9 => C_count hI (kl K) G 0 A B hG9 hV hZ hB) rfl rfl (by simp [Value.category]) rfl rfl ⟨by decide, by decide⟩ dL_areDays_370 ?_
              refine l_as (nI (yN (aF A))) ((qc_0 A).trans e301) ?_
              refine l_iconst (v := 4) (pc := 373) hc dL_areDays_373 (by decide) ?_
              refine l_icmp_ge (pc := 374) hc dL_areDays_374 385 (by decide) (fun c374 => ?_) (fun c374 => ?_)
              · have oc374 := c374
                have c374 : 4 ≤ yN (aF A) := (nI_leI (a := 4) (b := yN (aF A)) (by omega) (by omega)).mp c374
                refine l_iconst (v := 4) (pc := 385) hc dL_areDays_385 (by decide) ?_
                refine l_icmp_ne (pc := 386) hc dL_areDays_386 393 (by decide) (fun c386 => ?_) (fun c386 => ?_)
                · exact absurd (congrArg nI (show kN (aF A) = 4 by unfold kN; omega)) c386
                · have oc386 := c386
                  have c386 : kN (aF A) = 4 := (nI_eq (a := kN (aF A)) (b := 4) (by omega) (by omega)).mp c386
                  refine l_iconst (v := 1) (pc := 389) hc dL_areDays_389 (by decide) ?_
                  refine l_goto (pc := 390) hc dL_areDays_390 394 (by decide) ?_
                  exact hret _ _ _ _ _ dL_areDays_394 ⟨rfl, rfl, rfl⟩
              · have oc374 := c374
                have c374 : ¬ 4 ≤ yN (aF A) := fun h9 => c374 ((nI_leI (a := 4) (b := yN (aF A)) (by omega) (by omega)).mpr h9)
                refine l_aload_n (pc := 377) hc dL_areDays_377 3 rfl ?_
                refine l_iconst (v := 0) (pc := 378) hc dL_areDays_378 (by decide) ?_
                refine l_q (pc := 379) hc cl_L_8 rfl [.int 0] (fun G hG9 => C_count hI (kl K) G 0 A B hG9 hV hZ hB) rfl rfl (by simp [Value.category]) rfl rfl ⟨by decide, by decide⟩ dL_areDays_379 ?_
                refine l_as (nI (yN (aF A))) ((qc_0 A).trans e301) ?_
                refine l_goto (pc := 382) hc dL_areDays_382 386 (by decide) ?_
                refine l_icmp_ne (pc := 386) hc dL_areDays_386 393 (by decide) (fun c386_1 => ?_) (fun c386_1 => ?_)
                · exact absurd (congrArg nI (show kN (aF A) = yN (aF A) by unfold kN; omega)) c386_1
                · have oc386_1 := c386_1
                  have c386_1 : kN (aF A) = yN (aF A) := (nI_eq (a := kN (aF A)) (b := yN (aF A)) (by omega) (by omega)).mp c386_1
                  refine l_iconst (v := 1) (pc := 389) hc dL_areDays_389 (by decide) ?_
                  refine l_goto (pc := 390) hc dL_areDays_390 394 (by decide) ?_
                  exact hret _ _ _ _ _ dL_areDays_394 ⟨rfl, rfl, rfl⟩
      · have oc13 := c13
        have c13 : ¬ 20 ≤ k := fun h9 => c13 ((nI_leI (a := 20) (b := k) (by omega) (by omega)).mpr h9)
        refine l_aload_n (pc := 16) hc dL_areDays_16 3 rfl ?_
        refine l_iload_n (pc := 17) hc dL_areDays_17 0 rfl ?_
        refine l_iconst (v := 0) (pc := 18) hc dL_areDays_18 (by decide) ?_
        refine l_q (pc := 19) hc cl_L_14 rfl [.int (nI k), .int 0] (fun G hG9 => C_dayOf hI (kl K) G (nI k) 0 A B hG9 hV hZ hB) rfl rfl (by simp [Value.category]) rfl rfl ⟨by decide, by decide⟩ dL_areDays_19 ?_
        refine l_as (aF A k + 1000) (qd_0 A (by omega)) ?_
        refine l_sipush (v := 1000) (pc := 22) hc dL_areDays_22 (by decide) ?_
        refine l_isub (pc := 25) hc dL_areDays_25 ?_
        refine l_as (aF A k) (i32_ac _ _) ?_
        refine l_istore (pc := 26) (L' := [(4, .int (aF A k)), (3, .int (nI k)), (2, .int (sSum (nowM (aF A)) k)), (1, .int (nI (dN (aF A)))), (0, .ref (w.2.2 0))]) hc dL_areDays_26 (by decide) rfl ?_
        refine l_iconst (v := 0) (pc := 28) hc dL_areDays_28 (by decide) ?_
        refine l_istore (pc := 29) (L' := [(5, .int 0), (4, .int (aF A k)), (3, .int (nI k)), (2, .int (sSum (nowM (aF A)) k)), (1, .int (nI (dN (aF A)))), (0, .ref (w.2.2 0))]) hc dL_areDays_29 (by decide) rfl ?_
        have loop31 : ∀ (n31 : Nat) (i : Nat), i ≤ cN (aF A) → cN (aF A) + 1 ≤ i + n31 → LX w K 9 A D 31 [(5, .int (nI i)), (4, .int (rSum (aF A) k i)), (3, .int (nI k)), (2, .int (sSum (nowM (aF A)) k)), (1, .int (nI (dN (aF A)))), (0, .ref (w.2.2 0))] [] := by
          intro n31
          induction n31 with
          | zero => intro i hi hm; omega
          | succ n31 ih31 =>
            intro i hi hm
            refine l_iload (pc := 31) hc dL_areDays_31 0 rfl ?_
            refine l_aload_n (pc := 33) hc dL_areDays_33 5 rfl ?_
            refine l_iconst (v := 3) (pc := 34) hc dL_areDays_34 (by decide) ?_
            refine l_q (pc := 35) hc cl_L_8 rfl [.int 3] (fun G hG9 => C_count hI (kl K) G 3 A B hG9 hV hZ hB) rfl rfl (by simp [Value.category]) rfl rfl ⟨by decide, by decide⟩ dL_areDays_35 ?_
            refine l_as (nI (cN (aF A))) ((qc_3 A).trans e307) ?_
            refine l_icmp_ge (pc := 38) hc dL_areDays_38 167 (by decide) (fun c38 => ?_) (fun c38 => ?_)
            · have oc38 := c38
              have c38 : cN (aF A) ≤ i := (nI_leI (a := cN (aF A)) (b := i) (by omega) (by omega)).mp c38
              refine l_iload_n (pc := 167) hc dL_areDays_167 2 rfl ?_
              refine l_iload_n (pc := 168) hc dL_areDays_168 4 rfl ?_
              refine l_icmp_ge (pc := 169) hc dL_areDays_169 176 (by decide) (fun c169 => ?_) (fun c169 => ?_)
              · have oc169 := c169
                have c169 : dN (aF A) ≤ k := (nI_leI (a := dN (aF A)) (b := k) (by omega) (by omega)).mp c169
                refine l_iconst (v := 0) (pc := 176) hc dL_areDays_176 (by decide) ?_
                refine l_istore (pc := 177) (L' := [(5, .int 0), (4, .int (rSum (aF A) k i)), (3, .int (nI k)), (2, .int (sSum (nowM (aF A)) k)), (1, .int (nI (dN (aF A)))), (0, .ref (w.2.2 0))]) hc dL_areDays_177 (by decide) rfl ?_
                refine l_aload_n (pc := 179) hc dL_areDays_179 5 rfl ?_
                refine l_iload_n (pc := 180) hc dL_areDays_180 2 rfl ?_
                refine l_iconst (v := 1) (pc := 181) hc dL_areDays_181 (by decide) ?_
                refine l_q (pc := 182) hc cl_L_14 rfl [.int (nI k), .int 1] (fun G hG9 => C_dayOf hI (kl K) G (nI k) 1 A B hG9 hV hZ hB) rfl rfl (by simp [Value.category]) rfl rfl ⟨by decide, by decide⟩ dL_areDays_182 ?_
                refine l_as (rToldOf (aF A) k + 1000) (qd_1 A (by omega)) ?_
                refine l_sipush (v := 1000) (pc := 185) hc dL_areDays_185 (by decide) ?_
                refine l_isub (pc := 188) hc dL_areDays_188 ?_
                refine l_as (rToldOf (aF A) k) (i32_ac _ _) ?_
                refine l_istore (pc := 189) (L' := [(6, .int (rToldOf (aF A) k)), (5, .int 0), (4, .int (rSum (aF A) k i)), (3, .int (nI k)), (2, .int (sSum (nowM (aF A)) k)), (1, .int (nI (dN (aF A)))), (0, .ref (w.2.2 0))]) hc dL_areDays_189 (by decide) rfl ?_
                refine l_aload_n (pc := 191) hc dL_areDays_191 6 rfl ?_
                refine l_iload_n (pc := 192) hc dL_areDays_192 3 rfl ?_
                refine l_iconst (v := 2) (pc := 193) hc dL_areDays_193 (by decide) ?_
                refine l_q (pc := 194) hc cl_L_14 rfl [.int (nI k), .int 2] (fun G hG9 => C_dayOf hI (kl K) G (nI k) 2 A B hG9 hV hZ hB) rfl rfl (by simp [Value.category]) rfl rfl ⟨by decide, by decide⟩ dL_areDays_194 ?_
                refine l_as (-5) (qd_2n hV (by omega) (by omega)) ?_
                refine l_istore (pc := 197) (L' := [(7, .int (-5)), (6, .int (rToldOf (aF A) k)), (5, .int 0), (4, .int (rSum (aF A) k i)), (3, .int (nI k)), (2, .int (sSum (nowM (aF A)) k)), (1, .int (nI (dN (aF A)))), (0, .ref (w.2.2 0))]) hc dL_areDays_197 (by decide) rfl ?_
                refine l_iload (pc := 199) hc dL_areDays_199 2 rfl ?_
                refine l_if_eq (pc := 201) hc dL_areDays_201 242 (by decide) (fun c201 => ?_) (fun c201 => ?_)
                · refine l_iload (pc := 242) hc dL_areDays_242 0 rfl ?_
                  refine l_bipush (v := (-5)) (pc := 244) hc dL_areDays_244 (by decide) ?_
                  refine l_icmp_ne (pc := 246) hc dL_areDays_246 274 (by decide) (fun c246 => ?_) (fun c246 => ?_)
                  · exact absurd c246 (by decide)
                  · refine l_aload_n (pc := 249) hc dL_areDays_249 7 rfl ?_
                    refine l_iload_n (pc := 250) hc dL_areDays_250 4 rfl ?_
                    refine l_iconst (v := 3) (pc := 251) hc dL_areDays_251 (by decide) ?_
                    refine l_q (pc := 252) hc cl_L_14 rfl [.int (nI k), .int 3] (fun G hG9 => C_dayOf hI (kl K) G (nI k) 3 A B hG9 hV hZ hB) rfl rfl (by simp [Value.category]) rfl rfl ⟨by decide, by decide⟩ dL_areDays_252 ?_
                    refine l_as (-5) (qd_3n hV (by omega) (by omega)) ?_
                    refine l_bipush (v := (-5)) (pc := 255) hc dL_areDays_255 (by decide) ?_
                    refine l_icmp_ne (pc := 257) hc dL_areDays_257 274 (by decide) (fun c257 => ?_) (fun c257 => ?_)
                    · exact absurd c257 (by decide)
                    · refine l_iload (pc := 260) hc dL_areDays_260 1 rfl ?_
                      refine l_iload (pc := 262) hc dL_areDays_262 3 rfl ?_
                      refine l_s (pc := 264) hc cl_L_21 [.int (rSum (aF A) k i)] (l_bounded hI (kl K) A D (rSum (aF A) k i)) rfl rfl (by simp [Value.category]) rfl rfl ⟨by decide, by decide⟩ dL_areDays_264 (fun r264 Aa264 Da264 q264 => ?_)
                      obtain ⟨er264, eAa264, eDa264⟩ := q264
                      rw [eAa264, eDa264]
                      subst er264
                      refine l_icmp_ne (pc := 267) hc dL_areDays_267 274 (by decide) (fun c267 => ?_) (fun c267 => ?_)
                      · exact absurd (told_eq hV (by omega) (by omega) (by omega)) c267
                      · refine l_iconst (v := 1) (pc := 270) hc dL_areDays_270 (by decide) ?_
                        refine l_goto (pc := 271) hc dL_areDays_271 275 (by decide) ?_
                        refine l_istore (pc := 275) (L' := [(8, .int 1), (7, .int (-5)), (6, .int (rToldOf (aF A) k)), (5, .int 0), (4, .int (rSum (aF A) k i)), (3, .int (nI k)), (2, .int (sSum (nowM (aF A)) k)), (1, .int (nI (dN (aF A)))), (0, .ref (w.2.2 0))]) hc dL_areDays_275 (by decide) rfl ?_
                        refine l_iload (pc := 277) hc dL_areDays_277 0 rfl ?_
                        refine l_if_eq (pc := 279) hc dL_areDays_279 311 (by decide) (fun c279 => ?_) (fun c279 => ?_)
                        · exact absurd c279 (by decide)
                        · refine l_aload_n (pc := 282) hc dL_areDays_282 8 rfl ?_
                          refine l_iload_n (pc := 283) hc dL_areDays_283 5 rfl ?_
                          refine l_iconst (v := 4) (pc := 284) hc dL_areDays_284 (by decide) ?_
                          refine l_q (pc := 285) hc cl_L_14 rfl [.int (nI k), .int 4] (fun G hG9 => C_dayOf hI (kl K) G (nI k) 4 A B hG9 hV hZ hB) rfl rfl (by simp [Value.category]) rfl rfl ⟨by decide, by decide⟩ dL_areDays_285 ?_
                          refine l_as (b01 (rToldOf (aF A) k ≤ aF A 305)) (qd_4 A (by omega)) ?_
                          refine l_iload (pc := 288) hc dL_areDays_288 2 rfl ?_
                          refine l_aload_n (pc := 290) hc dL_areDays_290 8 rfl ?_
                          refine l_bipush (v := 14) (pc := 291) hc dL_areDays_291 (by decide) ?_
                          refine l_q (pc := 293) hc cl_L_8 rfl [.int 14] (fun G hG9 => C_count hI (kl K) G 14 A B hG9 hV hZ hB) rfl rfl (by simp [Value.category]) rfl rfl ⟨by decide, by decide⟩ dL_areDays_293 ?_
                          refine l_as (aF A 305 + 1000) (qc_14 A) ?_
                          refine l_sipush (v := 1000) (pc := 296) hc dL_areDays_296 (by decide) ?_
                          refine l_isub (pc := 299) hc dL_areDays_299 ?_
                          refine l_as (aF A 305) (i32_ac _ _) ?_
                          have j308 : ∀ v308 : Int32, v308 = (if (aF A 305) < (rToldOf (aF A) k) then 0 else 1) → LX w K 9 A D 308 [(8, .int 1), (7, .int (-5)), (6, .int (rToldOf (aF A) k)), (5, .int 0), (4, .int (rSum (aF A) k i)), (3, .int (nI k)), (2, .int (sSum (nowM (aF A)) k)), (1, .int (nI (dN (aF A)))), (0, .ref (w.2.2 0))] [.int v308, .int (b01 (rToldOf (aF A) k ≤ aF A 305))] := by
                            intro v308 hv308
                            refine l_as (b01 (rToldOf (aF A) k ≤ aF A 305)) (hv308.trans (b01_gt _ _)) ?_
                            refine l_icmp_eq (pc := 308) hc dL_areDays_308 313 (by decide) (fun c308 => ?_) (fun c308 => ?_)
                            · refine l_iload_n (pc := 313) hc dL_areDays_313 6 rfl ?_
                              refine l_iload (pc := 314) hc dL_areDays_314 3 rfl ?_
                              refine l_if_eq (pc := 316) hc dL_areDays_316 334 (by decide) (fun c316 => ?_) (fun c316 => ?_)
                              · refine l_iconst (v := 0) (pc := 334) hc dL_areDays_334 (by decide) ?_
                                refine l_iadd (pc := 335) hc dL_areDays_335 ?_
                                refine l_as (sSum (nowM (aF A)) (k + 1)) (sum_n (by omega)) ?_
                                refine l_istore_n (pc := 336) (L' := [(2, .int (sSum (nowM (aF A)) (k + 1))), (8, .int 1), (7, .int (-5)), (6, .int (rToldOf (aF A) k)), (5, .int 0), (4, .int (rSum (aF A) k i)), (3, .int (nI k)), (1, .int (nI (dN (aF A)))), (0, .ref (w.2.2 0))]) hc dL_areDays_336 (by decide) rfl ?_
                                refine l_iinc (pc := 337) (L' := [(3, .int (nI (k + 1))), (2, .int (sSum (nowM (aF A)) (k + 1))), (8, .int 1), (7, .int (-5)), (6, .int (rToldOf (aF A) k)), (5, .int 0), (4, .int (rSum (aF A) k i)), (1, .int (nI (dN (aF A)))), (0, .ref (w.2.2 0))]) hc dL_areDays_337 6 rfl (nI (k + 1)) (nI_1 _) (by decide) rfl ?_
                                refine l_goto (pc := 340) hc dL_areDays_340 10 (by decide) ?_
                                refine l_loc [0, 1, 7, 8] rfl ?_
                                exact ih10 (k + 1) (by omega) (by omega)
                              · exact absurd (by decide) c316
                            · exact absurd rfl c308
                          refine l_icmp_gt (pc := 300) hc dL_areDays_300 307 (by decide) (fun c300 => ?_) (fun c300 => ?_)
                          · refine l_iconst (v := 0) (pc := 307) hc dL_areDays_307 (by decide) ?_
                            exact j308 _ (by rw [if_pos c300])
                          · refine l_iconst (v := 1) (pc := 303) hc dL_areDays_303 (by decide) ?_
                            refine l_goto (pc := 304) hc dL_areDays_304 308 (by decide) ?_
                            exact j308 _ (by rw [if_neg c300])
                · exact absurd (by decide) c201
              · have oc169 := c169
                have c169 : ¬ dN (aF A) ≤ k := fun h9 => c169 ((nI_leI (a := dN (aF A)) (b := k) (by omega) (by omega)).mpr h9)
                refine l_iconst (v := 1) (pc := 172) hc dL_areDays_172 (by decide) ?_
                refine l_goto (pc := 173) hc dL_areDays_173 177 (by decide) ?_
                refine l_istore (pc := 177) (L' := [(5, .int 1), (4, .int (rSum (aF A) k i)), (3, .int (nI k)), (2, .int (sSum (nowM (aF A)) k)), (1, .int (nI (dN (aF A)))), (0, .ref (w.2.2 0))]) hc dL_areDays_177 (by decide) rfl ?_
                refine l_aload_n (pc := 179) hc dL_areDays_179 5 rfl ?_
                refine l_iload_n (pc := 180) hc dL_areDays_180 2 rfl ?_
                refine l_iconst (v := 1) (pc := 181) hc dL_areDays_181 (by decide) ?_
                refine l_q (pc := 182) hc cl_L_14 rfl [.int (nI k), .int 1] (fun G hG9 => C_dayOf hI (kl K) G (nI k) 1 A B hG9 hV hZ hB) rfl rfl (by simp [Value.category]) rfl rfl ⟨by decide, by decide⟩ dL_areDays_182 ?_
                refine l_as (rToldOf (aF A) k + 1000) (qd_1 A (by omega)) ?_
                refine l_sipush (v := 1000) (pc := 185) hc dL_areDays_185 (by decide) ?_
                refine l_isub (pc := 188) hc dL_areDays_188 ?_
                refine l_as (rToldOf (aF A) k) (i32_ac _ _) ?_
                refine l_istore (pc := 189) (L' := [(6, .int (rToldOf (aF A) k)), (5, .int 1), (4, .int (rSum (aF A) k i)), (3, .int (nI k)), (2, .int (sSum (nowM (aF A)) k)), (1, .int (nI (dN (aF A)))), (0, .ref (w.2.2 0))]) hc dL_areDays_189 (by decide) rfl ?_
                refine l_aload_n (pc := 191) hc dL_areDays_191 6 rfl ?_
                refine l_iload_n (pc := 192) hc dL_areDays_192 3 rfl ?_
                refine l_iconst (v := 2) (pc := 193) hc dL_areDays_193 (by decide) ?_
                refine l_q (pc := 194) hc cl_L_14 rfl [.int (nI k), .int 2] (fun G hG9 => C_dayOf hI (kl K) G (nI k) 2 A B hG9 hV hZ hB) rfl rfl (by simp [Value.category]) rfl rfl ⟨by decide, by decide⟩ dL_areDays_194 ?_
                refine l_as (aF A (40 + k) + 1000) (qd_2m hV (by omega) (by omega)) ?_
                refine l_istore (pc := 197) (L' := [(7, .int (aF A (40 + k) + 1000)), (6, .int (rToldOf (aF A) k)), (5, .int 1), (4, .int (rSum (aF A) k i)), (3, .int (nI k)), (2, .int (sSum (nowM (aF A)) k)), (1, .int (nI (dN (aF A)))), (0, .ref (w.2.2 0))]) hc dL_areDays_197 (by decide) rfl ?_
                refine l_iload (pc := 199) hc dL_areDays_199 2 rfl ?_
                refine l_if_eq (pc := 201) hc dL_areDays_201 242 (by decide) (fun c201_1 => ?_) (fun c201_1 => ?_)
                · exact absurd c201_1 (by decide)
                · refine l_iload (pc := 204) hc dL_areDays_204 0 rfl ?_
                  refine l_sipush (v := 960) (pc := 206) hc dL_areDays_206 (by decide) ?_
                  refine l_icmp_lt (pc := 209) hc dL_areDays_209 238 (by decide) (fun c209 => ?_) (fun c209 => ?_)
                  · exact absurd c209 (rng_lo (hG.2.1 k (by omega)).1)
                  · refine l_iload (pc := 212) hc dL_areDays_212 0 rfl ?_
                    refine l_sipush (v := 1040) (pc := 214) hc dL_areDays_214 (by decide) ?_
                    refine l_icmp_gt (pc := 217) hc dL_areDays_217 238 (by decide) (fun c217 => ?_) (fun c217 => ?_)
                    · exact absurd c217 (rng_hi (hG.2.1 k (by omega)).1)
                    · refine l_aload_n (pc := 220) hc dL_areDays_220 7 rfl ?_
                      refine l_iload_n (pc := 221) hc dL_areDays_221 4 rfl ?_
                      refine l_iconst (v := 3) (pc := 222) hc dL_areDays_222 (by decide) ?_
                      refine l_q (pc := 223) hc cl_L_14 rfl [.int (nI k), .int 3] (fun G hG9 => C_dayOf hI (kl K) G (nI k) 3 A B hG9 hV hZ hB) rfl rfl (by simp [Value.category]) rfl rfl ⟨by decide, by decide⟩ dL_areDays_223 ?_
                      refine l_as (nowM (aF A) k + 1000) (qd_3m hV (by omega) (by omega)) ?_
                      refine l_iload (pc := 226) hc dL_areDays_226 0 rfl ?_
                      refine l_iload (pc := 228) hc dL_areDays_228 1 rfl ?_
                      refine l_isub (pc := 230) hc dL_areDays_230 ?_
                      refine l_icmp_ne (pc := 231) hc dL_areDays_231 238 (by decide) (fun c231 => ?_) (fun c231 => ?_)
                      · exact absurd (mis_eq hV (by omega)) c231
                      · refine l_iconst (v := 1) (pc := 234) hc dL_areDays_234 (by decide) ?_
                        refine l_goto (pc := 235) hc dL_areDays_235 275 (by decide) ?_
                        refine l_istore (pc := 275) (L' := [(8, .int 1), (7, .int (aF A (40 + k) + 1000)), (6, .int (rToldOf (aF A) k)), (5, .int 1), (4, .int (rSum (aF A) k i)), (3, .int (nI k)), (2, .int (sSum (nowM (aF A)) k)), (1, .int (nI (dN (aF A)))), (0, .ref (w.2.2 0))]) hc dL_areDays_275 (by decide) rfl ?_
                        refine l_iload (pc := 277) hc dL_areDays_277 0 rfl ?_
                        refine l_if_eq (pc := 279) hc dL_areDays_279 311 (by decide) (fun c279_1 => ?_) (fun c279_1 => ?_)
                        · exact absurd c279_1 (by decide)
                        · refine l_aload_n (pc := 282) hc dL_areDays_282 8 rfl ?_
                          refine l_iload_n (pc := 283) hc dL_areDays_283 5 rfl ?_
                          refine l_iconst (v := 4) (pc := 284) hc dL_areDays_284 (by decide) ?_
                          refine l_q (pc := 285) hc cl_L_14 rfl [.int (nI k), .int 4] (fun G hG9 => C_dayOf hI (kl K) G (nI k) 4 A B hG9 hV hZ hB) rfl rfl (by simp [Value.category]) rfl rfl ⟨by decide, by decide⟩ dL_areDays_285 ?_
                          refine l_as (b01 (rToldOf (aF A) k ≤ aF A 305)) (qd_4 A (by omega)) ?_
                          refine l_iload (pc := 288) hc dL_areDays_288 2 rfl ?_
                          refine l_aload_n (pc := 290) hc dL_areDays_290 8 rfl ?_
                          refine l_bipush (v := 14) (pc := 291) hc dL_areDays_291 (by decide) ?_
                          refine l_q (pc := 293) hc cl_L_8 rfl [.int 14] (fun G hG9 => C_count hI (kl K) G 14 A B hG9 hV hZ hB) rfl rfl (by simp [Value.category]) rfl rfl ⟨by decide, by decide⟩ dL_areDays_293 ?_
                          refine l_as (aF A 305 + 1000) (qc_14 A) ?_
                          refine l_sipush (v := 1000) (pc := 296) hc dL_areDays_296 (by decide) ?_
                          refine l_isub (pc := 299) hc dL_areDays_299 ?_
                          refine l_as (aF A 305) (i32_ac _ _) ?_
                          have j308_1 : ∀ v308_1 : Int32, v308_1 = (if (aF A 305) < (rToldOf (aF A) k) then 0 else 1) → LX w K 9 A D 308 [(8, .int 1), (7, .int (aF A (40 + k) + 1000)), (6, .int (rToldOf (aF A) k)), (5, .int 1), (4, .int (rSum (aF A) k i)), (3, .int (nI k)), (2, .int (sSum (nowM (aF A)) k)), (1, .int (nI (dN (aF A)))), (0, .ref (w.2.2 0))] [.int v308_1, .int (b01 (rToldOf (aF A) k ≤ aF A 305))] := by
                            intro v308_1 hv308_1
                            refine l_as (b01 (rToldOf (aF A) k ≤ aF A 305)) (hv308_1.trans (b01_gt _ _)) ?_
                            refine l_icmp_eq (pc := 308) hc dL_areDays_308 313 (by decide) (fun c308_1 => ?_) (fun c308_1 => ?_)
                            · refine l_iload_n (pc := 313) hc dL_areDays_313 6 rfl ?_
                              refine l_iload (pc := 314) hc dL_areDays_314 3 rfl ?_
                              refine l_if_eq (pc := 316) hc dL_areDays_316 334 (by decide) (fun c316_1 => ?_) (fun c316_1 => ?_)
                              · exact absurd c316_1 (by decide)
                              · refine l_iload (pc := 319) hc dL_areDays_319 1 rfl ?_
                                refine l_sipush (v := 1000) (pc := 321) hc dL_areDays_321 (by decide) ?_
                                refine l_isub (pc := 324) hc dL_areDays_324 ?_
                                refine l_as (aF A (40 + k)) (i32_ac _ _) ?_
                                refine l_iload (pc := 325) hc dL_areDays_325 2 rfl ?_
                                refine l_isub (pc := 327) hc dL_areDays_327 ?_
                                refine l_s (pc := 328) hc cl_L_26 [.int ((aF A (40 + k)) - (rToldOf (aF A) k))] (l_size hI (kl K) A D ((aF A (40 + k)) - (rToldOf (aF A) k))) rfl rfl (by simp [Value.category]) rfl rfl ⟨by decide, by decide⟩ dL_areDays_328 (fun r328 Aa328 Da328 q328 => ?_)
                                obtain ⟨er328, eAa328, eDa328⟩ := q328
                                rw [eAa328, eDa328]
                                subst er328
                                refine l_goto (pc := 331) hc dL_areDays_331 335 (by decide) ?_
                                refine l_iadd (pc := 335) hc dL_areDays_335 ?_
                                refine l_as (sSum (nowM (aF A)) (k + 1)) (sum_m hV (by omega)) ?_
                                refine l_istore_n (pc := 336) (L' := [(2, .int (sSum (nowM (aF A)) (k + 1))), (8, .int 1), (7, .int (aF A (40 + k) + 1000)), (6, .int (rToldOf (aF A) k)), (5, .int 1), (4, .int (rSum (aF A) k i)), (3, .int (nI k)), (1, .int (nI (dN (aF A)))), (0, .ref (w.2.2 0))]) hc dL_areDays_336 (by decide) rfl ?_
                                refine l_iinc (pc := 337) (L' := [(3, .int (nI (k + 1))), (2, .int (sSum (nowM (aF A)) (k + 1))), (8, .int 1), (7, .int (aF A (40 + k) + 1000)), (6, .int (rToldOf (aF A) k)), (5, .int 1), (4, .int (rSum (aF A) k i)), (1, .int (nI (dN (aF A)))), (0, .ref (w.2.2 0))]) hc dL_areDays_337 6 rfl (nI (k + 1)) (nI_1 _) (by decide) rfl ?_
                                refine l_goto (pc := 340) hc dL_areDays_340 10 (by decide) ?_
                                refine l_loc [0, 1, 7, 8] rfl ?_
                                exact ih10 (k + 1) (by omega) (by omega)
                            · exact absurd rfl c308_1
                          refine l_icmp_gt (pc := 300) hc dL_areDays_300 307 (by decide) (fun c300_1 => ?_) (fun c300_1 => ?_)
                          · refine l_iconst (v := 0) (pc := 307) hc dL_areDays_307 (by decide) ?_
                            exact j308_1 _ (by rw [if_pos c300_1])
                          · refine l_iconst (v := 1) (pc := 303) hc dL_areDays_303 (by decide) ?_
                            refine l_goto (pc := 304) hc dL_areDays_304 308 (by decide) ?_
                            exact j308_1 _ (by rw [if_neg c300_1])
            · have oc38 := c38
              have c38 : ¬ cN (aF A) ≤ i := fun h9 => c38 ((nI_leI (a := cN (aF A)) (b := i) (by omega) (by omega)).mpr h9)
              refine l_iload (pc := 41) hc dL_areDays_41 0 rfl ?_
              refine l_iconst (v := 5) (pc := 43) hc dL_areDays_43 (by decide) ?_
              refine l_icmp_ge (pc := 44) hc dL_areDays_44 167 (by decide) (fun c44 => ?_) (fun c44 => ?_)
              · exact absurd ((nI_leI (a := 5) (b := i) (by omega) (by omega)).mp c44) (by omega)
              · have oc44 := c44
                have c44 : ¬ 5 ≤ i := fun h9 => c44 ((nI_leI (a := 5) (b := i) (by omega) (by omega)).mpr h9)
                obtain ⟨fe, hfe20, efe⟩ := hfe i (by omega)
                refine l_aload_n (pc := 47) hc dL_areDays_47 5 rfl ?_
                refine l_iload (pc := 48) hc dL_areDays_48 0 rfl ?_
                refine l_iconst (v := 0) (pc := 50) hc dL_areDays_50 (by decide) ?_
                refine l_q (pc := 51) hc cl_L_18 rfl [.int (nI i), .int 0] (fun G hG9 => C_saintOf hI (kl K) G (nI i) 0 A B hG9 hV hZ hB) rfl rfl (by simp [Value.category]) rfl rfl ⟨by decide, by decide⟩ dL_areDays_51 ?_
                refine l_as (aF A (308 + 4 * i)) (qs_0 A (by omega) (by omega)) ?_
                refine l_as (nI fe) efe ?_
                refine l_istore (pc := 54) (L' := [(6, .int (nI fe)), (5, .int (nI i)), (4, .int (rSum (aF A) k i)), (3, .int (nI k)), (2, .int (sSum (nowM (aF A)) k)), (1, .int (nI (dN (aF A)))), (0, .ref (w.2.2 0))]) hc dL_areDays_54 (by decide) rfl ?_
                refine l_iload (pc := 56) hc dL_areDays_56 0 rfl ?_
                refine l_iload_n (pc := 58) hc dL_areDays_58 5 rfl ?_
                have j92 : ∀ v92 : Int32, v92 = (if (nI (dN (aF A))) ≤ (nI fe) then 0 else (if (aF A (308 + 4 * i + 1)) < (aF A (40 + fe)) then 0 else 1)) → LX w K 9 A D 92 [(6, .int (nI fe)), (5, .int (nI i)), (4, .int (rSum (aF A) k i)), (3, .int (nI k)), (2, .int (sSum (nowM (aF A)) k)), (1, .int (nI (dN (aF A)))), (0, .ref (w.2.2 0))] [.int v92] := by
                  intro v92 hv92
                  refine l_as (b01 (rTells (aF A) i)) (hv92.trans (tells_eq hV hfe20 efe)) ?_
                  refine l_istore (pc := 92) (L' := [(7, .int (b01 (rTells (aF A) i))), (6, .int (nI fe)), (5, .int (nI i)), (4, .int (rSum (aF A) k i)), (3, .int (nI k)), (2, .int (sSum (nowM (aF A)) k)), (1, .int (nI (dN (aF A)))), (0, .ref (w.2.2 0))]) hc dL_areDays_92 (by decide) rfl ?_
                  refine l_aload_n (pc := 94) hc dL_areDays_94 7 rfl ?_
                  refine l_iload (pc := 95) hc dL_areDays_95 2 rfl ?_
                  refine l_iconst (v := 4) (pc := 97) hc dL_areDays_97 (by decide) ?_
                  refine l_q (pc := 98) hc cl_L_18 rfl [.int (nI i), .int 4] (fun G hG9 => C_saintOf hI (kl K) G (nI i) 4 A B hG9 hV hZ hB) rfl rfl (by simp [Value.category]) rfl rfl ⟨by decide, by decide⟩ dL_areDays_98 ?_
                  refine l_as (b01 (rTells (aF A) i)) (qs_4 A (by omega) (by omega)) ?_
                  refine l_iload (pc := 101) hc dL_areDays_101 0 rfl ?_
                  have j111 : ∀ v111 : Int32, v111 = (if (b01 (rTells (aF A) i)) = 0 then 0 else 1) → LX w K 9 A D 111 [(7, .int (b01 (rTells (aF A) i))), (6, .int (nI fe)), (5, .int (nI i)), (4, .int (rSum (aF A) k i)), (3, .int (nI k)), (2, .int (sSum (nowM (aF A)) k)), (1, .int (nI (dN (aF A)))), (0, .ref (w.2.2 0))] [.int v111, .int (b01 (rTells (aF A) i))] := by
                    intro v111 hv111
                    refine l_as (b01 (rTells (aF A) i)) (hv111.trans (b01_01 _)) ?_
                    refine l_icmp_eq (pc := 111) hc dL_areDays_111 116 (by decide) (fun c111 => ?_) (fun c111 => ?_)
                    · refine l_iload (pc := 116) hc dL_areDays_116 3 rfl ?_
                      refine l_iload (pc := 118) hc dL_areDays_118 0 rfl ?_
                      have j158 : ∀ v158 : Int32, v158 = (if (b01 (rTells (aF A) i)) = 0 then 0 else (if (nI k) ≤ (nI fe) then 0 else (if ((nI fe) + (aF A (308 + 4 * i + 3))) < (nI k) then 0 else (aF A (308 + 4 * i + 2))))) → LX w K 9 A D 158 [(7, .int (b01 (rTells (aF A) i))), (6, .int (nI fe)), (5, .int (nI i)), (4, .int (rSum (aF A) k i)), (3, .int (nI k)), (2, .int (sSum (nowM (aF A)) k)), (1, .int (nI (dN (aF A)))), (0, .ref (w.2.2 0))] [.int v158, .int (rSum (aF A) k i)] := by
                        intro v158 hv158
                        refine l_as (rAdd (aF A) k i) (hv158.trans (add_eq efe)) ?_
                        refine l_iadd (pc := 158) hc dL_areDays_158 ?_
                        refine l_istore (pc := 159) (L' := [(4, .int ((rSum (aF A) k i) + (rAdd (aF A) k i))), (7, .int (b01 (rTells (aF A) i))), (6, .int (nI fe)), (5, .int (nI i)), (3, .int (nI k)), (2, .int (sSum (nowM (aF A)) k)), (1, .int (nI (dN (aF A)))), (0, .ref (w.2.2 0))]) hc dL_areDays_159 (by decide) rfl ?_
                        refine l_iinc (pc := 161) (L' := [(5, .int (nI (i + 1))), (4, .int ((rSum (aF A) k i) + (rAdd (aF A) k i))), (7, .int (b01 (rTells (aF A) i))), (6, .int (nI fe)), (3, .int (nI k)), (2, .int (sSum (nowM (aF A)) k)), (1, .int (nI (dN (aF A)))), (0, .ref (w.2.2 0))]) hc dL_areDays_161 3 rfl (nI (i + 1)) (nI_1 _) (by decide) rfl ?_
                        refine l_goto (pc := 164) hc dL_areDays_164 31 (by decide) ?_
                        refine l_loc [0, 1, 4, 5, 6, 7] rfl ?_
                        exact ih31 (i + 1) (by omega) (by omega)
                      refine l_if_eq (pc := 120) hc dL_areDays_120 157 (by decide) (fun c120 => ?_) (fun c120 => ?_)
                      · refine l_iconst (v := 0) (pc := 157) hc dL_areDays_157 (by decide) ?_
                        exact j158 _ (by rw [if_pos c120])
                      · refine l_iload_n (pc := 123) hc dL_areDays_123 4 rfl ?_
                        refine l_iload (pc := 124) hc dL_areDays_124 1 rfl ?_
                        refine l_icmp_le (pc := 126) hc dL_areDays_126 157 (by decide) (fun c126 => ?_) (fun c126 => ?_)
                        · have oc126 := c126
                          have c126 : k ≤ fe := (nI_leI (a := k) (b := fe) (by omega) (by omega)).mp c126
                          refine l_iconst (v := 0) (pc := 157) hc dL_areDays_157 (by decide) ?_
                          exact j158 _ (by rw [if_neg c120, if_pos oc126])
                        · have oc126 := c126
                          have c126 : ¬ k ≤ fe := fun h9 => c126 ((nI_leI (a := k) (b := fe) (by omega) (by omega)).mpr h9)
                          refine l_iload_n (pc := 129) hc dL_areDays_129 4 rfl ?_
                          refine l_iload (pc := 130) hc dL_areDays_130 1 rfl ?_
                          refine l_aload_n (pc := 132) hc dL_areDays_132 7 rfl ?_
                          refine l_iload (pc := 133) hc dL_areDays_133 2 rfl ?_
                          refine l_iconst (v := 3) (pc := 135) hc dL_areDays_135 (by decide) ?_
                          refine l_q (pc := 136) hc cl_L_18 rfl [.int (nI i), .int 3] (fun G hG9 => C_saintOf hI (kl K) G (nI i) 3 A B hG9 hV hZ hB) rfl rfl (by simp [Value.category]) rfl rfl ⟨by decide, by decide⟩ dL_areDays_136 ?_
                          refine l_as (aF A (308 + 4 * i + 3)) (qs_3 A (by omega) (by omega)) ?_
                          refine l_iadd (pc := 139) hc dL_areDays_139 ?_
                          refine l_icmp_gt (pc := 140) hc dL_areDays_140 157 (by decide) (fun c140 => ?_) (fun c140 => ?_)
                          · refine l_iconst (v := 0) (pc := 157) hc dL_areDays_157 (by decide) ?_
                            exact j158 _ (by rw [if_neg c120, if_neg oc126, if_pos c140])
                          · refine l_aload_n (pc := 143) hc dL_areDays_143 7 rfl ?_
                            refine l_iload (pc := 144) hc dL_areDays_144 2 rfl ?_
                            refine l_iconst (v := 2) (pc := 146) hc dL_areDays_146 (by decide) ?_
                            refine l_q (pc := 147) hc cl_L_18 rfl [.int (nI i), .int 2] (fun G hG9 => C_saintOf hI (kl K) G (nI i) 2 A B hG9 hV hZ hB) rfl rfl (by simp [Value.category]) rfl rfl ⟨by decide, by decide⟩ dL_areDays_147 ?_
                            refine l_as (aF A (308 + 4 * i + 2) + 1000) (qs_2 A (by omega) (by omega)) ?_
                            refine l_sipush (v := 1000) (pc := 150) hc dL_areDays_150 (by decide) ?_
                            refine l_isub (pc := 153) hc dL_areDays_153 ?_
                            refine l_as (aF A (308 + 4 * i + 2)) (i32_ac _ _) ?_
                            refine l_goto (pc := 154) hc dL_areDays_154 158 (by decide) ?_
                            exact j158 _ (by rw [if_neg c120, if_neg oc126, if_neg c140])
                    · exact absurd rfl c111
                  refine l_if_eq (pc := 103) hc dL_areDays_103 110 (by decide) (fun c103 => ?_) (fun c103 => ?_)
                  · refine l_iconst (v := 0) (pc := 110) hc dL_areDays_110 (by decide) ?_
                    exact j111 _ (by rw [if_pos c103])
                  · refine l_iconst (v := 1) (pc := 106) hc dL_areDays_106 (by decide) ?_
                    refine l_goto (pc := 107) hc dL_areDays_107 111 (by decide) ?_
                    exact j111 _ (by rw [if_neg c103])
                refine l_icmp_ge (pc := 59) hc dL_areDays_59 91 (by decide) (fun c59 => ?_) (fun c59 => ?_)
                · have oc59 := c59
                  have c59 : dN (aF A) ≤ fe := (nI_leI (a := dN (aF A)) (b := fe) (by omega) (by omega)).mp c59
                  refine l_iconst (v := 0) (pc := 91) hc dL_areDays_91 (by decide) ?_
                  exact j92 _ (by rw [if_pos oc59])
                · have oc59 := c59
                  have c59 : ¬ dN (aF A) ≤ fe := fun h9 => c59 ((nI_leI (a := dN (aF A)) (b := fe) (by omega) (by omega)).mpr h9)
                  refine l_aload_n (pc := 62) hc dL_areDays_62 6 rfl ?_
                  refine l_iload (pc := 63) hc dL_areDays_63 0 rfl ?_
                  refine l_iconst (v := 2) (pc := 65) hc dL_areDays_65 (by decide) ?_
                  refine l_q (pc := 66) hc cl_L_14 rfl [.int (nI fe), .int 2] (fun G hG9 => C_dayOf hI (kl K) G (nI fe) 2 A B hG9 hV hZ hB) rfl rfl (by simp [Value.category]) rfl rfl ⟨by decide, by decide⟩ dL_areDays_66 ?_
                  refine l_as (aF A (40 + fe) + 1000) (qd_2m hV (by omega) (by omega)) ?_
                  refine l_sipush (v := 1000) (pc := 69) hc dL_areDays_69 (by decide) ?_
                  refine l_isub (pc := 72) hc dL_areDays_72 ?_
                  refine l_as (aF A (40 + fe)) (i32_ac _ _) ?_
                  refine l_aload_n (pc := 73) hc dL_areDays_73 6 rfl ?_
                  refine l_iload (pc := 74) hc dL_areDays_74 1 rfl ?_
                  refine l_iconst (v := 1) (pc := 76) hc dL_areDays_76 (by decide) ?_
                  refine l_q (pc := 77) hc cl_L_18 rfl [.int (nI i), .int 1] (fun G hG9 => C_saintOf hI (kl K) G (nI i) 1 A B hG9 hV hZ hB) rfl rfl (by simp [Value.category]) rfl rfl ⟨by decide, by decide⟩ dL_areDays_77 ?_
                  refine l_as (aF A (308 + 4 * i + 1) + 1000) (qs_1 A (by omega) (by omega)) ?_
                  refine l_sipush (v := 1000) (pc := 80) hc dL_areDays_80 (by decide) ?_
                  refine l_isub (pc := 83) hc dL_areDays_83 ?_
                  refine l_as (aF A (308 + 4 * i + 1)) (i32_ac _ _) ?_
                  refine l_icmp_gt (pc := 84) hc dL_areDays_84 91 (by decide) (fun c84 => ?_) (fun c84 => ?_)
                  · refine l_iconst (v := 0) (pc := 91) hc dL_areDays_91 (by decide) ?_
                    exact j92 _ (by rw [if_neg oc59, if_pos c84])
                  · refine l_iconst (v := 1) (pc := 87) hc dL_areDays_87 (by decide) ?_
                    refine l_goto (pc := 88) hc dL_areDays_88 92 (by decide) ?_
                    exact j92 _ (by rw [if_neg oc59, if_neg c84])
        refine l_loc [0, 1, 2, 3, 4, 5] rfl ?_
        exact loop31 (cN (aF A) + 1) 0 (by omega) (by omega)
  refine l_loc [0, 1, 2, 3] rfl ?_
  exact loop10 21 0 (by omega) (by omega)
