/-! A DAY THAT IS MEASURED, AS THE LAW LOOKS AT IT -/
abbrev zV (v : Int32) : Int32 := b01 (v ≤ 0)
abbrev tV (f : Nat → Int32) : Int32 := rT f (dN f)
/-- a reader's purse behind the day -/
def pay0 (f : Nat → Int32) (v : Int32) (k : Nat) : Int32 := f (328 + 5 * k + 0) + f (328 + 5 * k + 1) + wiN (f (328 + 5 * k + 1)) (f (328 + 5 * k + 2)) (zV v) (tV f) (f 306)
def won (f : Nat → Int32) (v : Int32) (k : Nat) : Int32 := f (328 + 5 * k + 3) + hit (f (328 + 5 * k + 1)) (f (328 + 5 * k + 2)) (zV v)
def lost (f : Nat → Int32) (v : Int32) (k : Nat) : Int32 := f (328 + 5 * k + 4) + hitn (f (328 + 5 * k + 1)) (f (328 + 5 * k + 2)) (zV v)
def dueT (f : Nat → Int32) (i : Nat) : Int32 := if i ≤ dN f then (if i = dN f then rTold f (dN f) else f (20 + i)) else 0
def dueB (f : Nat → Int32) (v : Int32) (i : Nat) : Int32 := (if dN f = 19 then bnd (f i + mean (lastM f v) i (rN f) * f 304 / 100) else f i) + 1000
def DW (f : Nat → Int32) (v : Int32) (D : Nat → Int32) (n : Nat) : Prop := ∀ i, i < n → D i = pay0 f v i ∧ D (4 + i) = won f v i ∧ D (8 + i) = lost f v i
def DU (f : Nat → Int32) (v : Int32) (D : Nat → Int32) (n : Nat) : Prop := DW f v D 4 ∧ ∀ i, i < n → D (12 + i) = dueT f i ∧ D (32 + i) = dueB f v i
theorem DW_up {f : Nat → Int32} {v : Int32} {D : Nat → Int32} {k : Nat} (h : DW f v D k) (hk : k < 4) : DW f v (upd (upd (upd D k (pay0 f v k)) (4 + k) (won f v k)) (8 + k) (lost f v k)) (k + 1) := by
  intro i hi
  by_cases e : i = k
  · subst e
    refine ⟨?_, ?_, upd_s _ _ _⟩
    · rw [upd_n _ _ (by omega), upd_n _ _ (by omega), upd_s]
    · rw [upd_n _ _ (by omega), upd_s]
  · obtain ⟨h1, h2, h3⟩ := h i (by omega)
    refine ⟨?_, ?_, ?_⟩
    · rw [upd_n _ _ (by omega), upd_n _ _ (by omega), upd_n _ _ (by omega)]; exact h1
    · rw [upd_n _ _ (by omega), upd_n _ _ (by omega), upd_n _ _ (by omega)]; exact h2
    · rw [upd_n _ _ (by omega), upd_n _ _ (by omega), upd_n _ _ (by omega)]; exact h3
theorem DU_0 {f : Nat → Int32} {v : Int32} {D : Nat → Int32} {k : Nat} (h : DW f v D k) (hk : k = 4) : DU f v D 0 := by
  subst hk
  exact ⟨h, fun i hi => absurd hi (by omega)⟩
theorem DU_up {f : Nat → Int32} {v : Int32} {D : Nat → Int32} {k : Nat} (h : DU f v D k) (hk : k < 20) : DU f v (upd (upd D (12 + k) (dueT f k)) (32 + k) (dueB f v k)) (k + 1) := by
  refine ⟨fun i hi => ?_, fun i hi => ?_⟩
  · obtain ⟨h1, h2, h3⟩ := h.1 i hi
    refine ⟨?_, ?_, ?_⟩
    · rw [upd_n _ _ (by omega), upd_n _ _ (by omega)]; exact h1
    · rw [upd_n _ _ (by omega), upd_n _ _ (by omega)]; exact h2
    · rw [upd_n _ _ (by omega), upd_n _ _ (by omega)]; exact h3
  · by_cases e : i = k
    · subst e
      exact ⟨by rw [upd_n _ _ (by omega), upd_s], upd_s _ _ _⟩
    · obtain ⟨h1, h2⟩ := h.2 i (by omega)
      exact ⟨by rw [upd_n _ _ (by omega), upd_n _ _ (by omega)]; exact h1, by rw [upd_n _ _ (by omega), upd_n _ _ (by omega)]; exact h2⟩
section DL
variable {A : AT} {B : Nat}
theorem frost_d (hV : AV A B) : b01 (rToldOf (aF A) (dN (aF A)) ≤ aF A 305) = rT (aF A) (dN (aF A)) := by
  rw [told_n hV hV.2.1.1.1 (by omega)]
  rfl
theorem on_01 {x : Int32} (h : x = 0 ∨ x = 1) : (if x = 1 then (1 : Int32) else 0) = x := by
  rcases h with h | h
  · rw [h]; rfl
  · rw [h]; rfl
theorem nI_le0 {x : Nat} (hx : x ≤ 1000) : (nI x ≤ 0) ↔ x = 0 := by
  have h := nI_leI (a := x) (b := 0) (by omega) (by omega)
  exact h.trans (by omega)
theorem win_eq {n on z t o : Int32} {x : Nat} (hx : x ≤ 1000) (hn : n = nI x) : (if n = 0 then (0 : Int32) else if b01 (on = z) = 0 then -n else if t = on then n else n * o) = wiN n on z t o := by
  by_cases h0 : n = 0
  · rw [if_pos h0, h0, wiN_0]
  · rw [if_neg h0]
    unfold wiN
    by_cases h : on = z
    · rw [if_neg (by rw [b01_pos h]; decide), if_pos h.symm]
    · rw [if_pos (b01_neg h), if_neg (fun q => h q.symm)]
theorem pay_eq {p n on z t o : Int32} {x : Nat} (hx : x ≤ 1000) (hn : n = nI x) : p + (if b01 (on = z) = 0 then (0 : Int32) else if n ≤ 0 then 0 else n + wiN n on z t o) = p + n + wiN n on z t o := by
  by_cases h : on = z
  · rw [if_neg (by rw [b01_pos h]; decide)]
    by_cases h2 : n ≤ 0
    · have h0 : n = 0 := by
        rw [hn] at h2 ⊢
        rw [(nI_le0 hx).mp h2]
        rfl
      rw [if_pos h2, h0, wiN_0, Int32.add_zero, Int32.add_zero]
    · rw [if_neg h2, Int32.add_assoc]
  · rw [if_pos (b01_neg h)]
    unfold wiN
    rw [if_neg (fun q => h q.symm), Int32.add_assoc, Int32.add_right_neg]
theorem hit_eq {n on z : Int32} : (if b01 (on = z) = 0 then (0 : Int32) else if n ≤ 0 then 0 else 1) = hit n on z := by
  unfold hit
  by_cases h : on = z
  · rw [if_neg (by rw [b01_pos h]; decide)]
    by_cases h2 : n ≤ 0
    · rw [if_pos h2, if_neg (fun q => by have h3 := q.2; rw [Int32.lt_iff_toInt_lt] at h3; rw [Int32.le_iff_toInt_le] at h2; omega)]
    · rw [if_neg h2, if_pos ⟨h, by rw [Int32.lt_iff_toInt_lt]; rw [Int32.le_iff_toInt_le] at h2; omega⟩]
  · rw [if_pos (b01_neg h), if_neg (fun q => h q.1)]
theorem hitn_eq {n on z : Int32} : (if b01 (on = z) = 0 then (if n ≤ 0 then (0 : Int32) else 1) else 0) = hitn n on z := by
  unfold hitn
  by_cases h : on = z
  · rw [if_neg (by rw [b01_pos h]; decide), if_neg (fun q => q.1 h)]
  · rw [if_pos (b01_neg h)]
    by_cases h2 : n ≤ 0
    · rw [if_pos h2, if_neg (fun q => by have h3 := q.2; rw [Int32.lt_iff_toInt_lt] at h3; rw [Int32.le_iff_toInt_le] at h2; omega)]
    · rw [if_neg h2, if_pos ⟨h, by rw [Int32.lt_iff_toInt_lt]; rw [Int32.le_iff_toInt_le] at h2; omega⟩]
theorem qif_eq {v : Int32} {k : Nat} (hB : B < 2 ^ 31) (hV : AV A B) (hv : inR v) (hk : k < 4) : qIf A (nI k) v = pay0 (aF A) v k := by
  unfold qIf
  rw [if_neg (inB_nI (n := 3) rfl (by omega) (by omega)), if_neg (inR_in hv), nI_clamp (by omega)]
  exact qIf_eq hB hV.2.1 hk
theorem dueT_eq {k : Nat} (hV : AV A B) (hk : k < 20) : (if nI k ≤ nI (dN (aF A)) then (if nI k = nI (dN (aF A)) then rTold (aF A) (dN (aF A)) else rToldOf (aF A) k) else (0 : Int32)) = dueT (aF A) k := by
  have hd := hV.2.1.1.1
  unfold dueT
  by_cases h : k ≤ dN (aF A)
  · rw [if_pos (nI_le h (by omega)), if_pos h]
    by_cases h2 : k = dN (aF A)
    · rw [if_pos (congrArg nI h2), if_pos h2]
    · rw [if_neg (fun z => h2 ((nI_eq (by omega) (by omega)).mp z)), if_neg h2, told_m hV (by omega)]
  · rw [if_neg (nI_ge (by omega) (by omega)), if_neg h]
theorem dueB_eq {v : Int32} {k : Nat} (hV : AV A B) : (if nI (dN (aF A)) = 19 then bnd (aF A k + mean (lastM (aF A) v) k (rN (aF A)) * aF A 304 / 100) + 1000 else aF A k + 1000) = dueB (aF A) v k := by
  have hd := hV.2.1.1.1
  unfold dueB
  have l : (nI (dN (aF A)) = 19) ↔ dN (aF A) = 19 := nI_eq (a := dN (aF A)) (b := 19) (by omega) (by omega)
  by_cases h : dN (aF A) = 19
  · rw [if_pos (l.mpr h), if_pos h]
  · rw [if_neg (fun z => h (l.mp z)), if_neg h]
theorem gB {v : Int32} {k : Nat} (hV : AV A B) (hk : k < 20) : rMeas (aF A) v (dN (aF A)) (rN (aF A)) k + 1000 = dueB (aF A) v k := by
  unfold dueB
  by_cases h : dN (aF A) = 19
  · rw [rG_end hV.2.1 h hk, if_pos h]
  · rw [rG_base hV.2.1 h hk, if_neg h]
theorem gT {v : Int32} {k : Nat} (hV : AV A B) (h : ¬ dN (aF A) = 19) (hk : k ≤ dN (aF A)) : rToldOf (rMeas (aF A) v (dN (aF A)) (rN (aF A))) k = dueT (aF A) k := by
  rw [rG_told hV.2.1 h hk]
  unfold dueT
  rw [if_pos hk]
theorem gP {v : Int32} {k : Nat} (hV : AV A B) (h : dN (aF A) = 19) (hk : k < 20) : rMeas (aF A) v (dN (aF A)) (rN (aF A)) (60 + k) - rMeas (aF A) v (dN (aF A)) (rN (aF A)) (80 + k) = dueT (aF A) k := by
  rw [rG_past hV.2.1 h hk]
  unfold dueT
  rw [if_pos (show k ≤ dN (aF A) by omega)]
theorem kN_end {v : Int32} (hV : AV A B) (hB : B + 1 < 2 ^ 31) (h : dN (aF A) = 19) : 0 < kN (rMeas (aF A) v (dN (aF A)) (rN (aF A))) := by
  unfold rMeas kN
  rw [if_pos (by omega), yN_end hV.2.1 hB]
  omega
theorem gC {v : Int32} {k : Nat} (hV : AV A B) (hk : k = 4) : rMeas (aF A) v (dN (aF A)) (rN (aF A)) 351 + 100000 = aF A 351 + 100000 - wS (aF A) (zV v) (tV (aF A)) k := by
  subst hk
  rw [rG_351 hV.2.1, i32_asb]
theorem rT_01 (f : Nat → Int32) (d : Nat) : rT f d = 0 ∨ rT f d = 1 := b01_le _
theorem gH {v : Int32} (hV : AV A B) : rMeas (aF A) v (dN (aF A)) (rN (aF A)) 348 = aF A 348 + (if zV v = 0 then 0 else if tV (aF A) = 1 then 1 else 0) ∧ rMeas (aF A) v (dN (aF A)) (rN (aF A)) 349 = aF A 349 + (if zV v = 0 then 0 else if tV (aF A) = 0 then 1 else 0) ∧ rMeas (aF A) v (dN (aF A)) (rN (aF A)) 350 = aF A 350 + (if zV v = 0 then (if tV (aF A) = 1 then 1 else 0) else 0) := by
  obtain ⟨h1, h2, h3⟩ := rG_hits (v := v) hV.2.1
  rw [h1, h2, h3]
  show (_ + (if zV v = 0 then 0 else if tV (aF A) = 0 then 0 else 1) = _) ∧ (_ + (if zV v = 0 then 0 else if tV (aF A) = 0 then 1 else 0) = _) ∧ (_ + (if zV v = 0 then (if tV (aF A) = 0 then 0 else 1) else 0) = _)
  rcases rT_01 (aF A) (dN (aF A)) with e | e
  · rw [show tV (aF A) = 0 from e]
    exact ⟨rfl, rfl, rfl⟩
  · rw [show tV (aF A) = 1 from e]
    exact ⟨rfl, rfl, rfl⟩
theorem gY1 {v : Int32} (hV : AV A B) (h : dN (aF A) = 19) : rMeas (aF A) v (dN (aF A)) (rN (aF A)) 301 = nI (yN (aF A) + 1) := by
  rw [rG_301 hV.2.1, if_pos h, hV.2.1.2.1.2.1]
  exact nI_1 _
theorem gY0 {v : Int32} (hV : AV A B) (h : ¬ dN (aF A) = 19) : rMeas (aF A) v (dN (aF A)) (rN (aF A)) 301 = nI (yN (aF A)) := by
  rw [rG_301 hV.2.1, if_neg h]
  exact hV.2.1.2.1.2.1
theorem gD1 {v : Int32} (hV : AV A B) (h : dN (aF A) = 19) : rMeas (aF A) v (dN (aF A)) (rN (aF A)) 300 = 0 := by
  rw [rG_300 hV.2.1, if_pos h]
theorem gD0 {v : Int32} (hV : AV A B) (h : ¬ dN (aF A) = 19) : rMeas (aF A) v (dN (aF A)) (rN (aF A)) 300 = nI (dN (aF A) + 1) := by
  rw [rG_300 hV.2.1, if_neg h]
end DL
set_option maxHeartbeats 4000000 in
set_option maxRecDepth 100000 in
theorem l_isDay {w : WT} (hI : xI w) (l : Launch) (A : AT) (D : Nat → Int32) (B : Nat) (v : Int32) (hv : inR v) (hG : LG A B) (hB9 : B + 8000 < 2 ^ 30) : LMi w l yL_isDay cL_isDay 18 (some .boolean) ⟨7, 0, 0, 162⟩ [.ref (w.2.2 0), .int v, .ref (w.2.2 239)] A D (fun r A' D' => r = 1 ∧ A' = tMeasure A v) := by
  refine mk_l (L0 := [(0, .ref (w.2.2 0)), (1, .int v), (2, .ref (w.2.2 239))]) hI (by decide +kernel) rfl (Nat.le_of_ble_eq_true rfl) (fun v A9 D9 h => by rw [h.1]; rfl) (fun K hc hret => ?_)
  have hV := hG.1.1
  have hZ := hG.1.2
  obtain ⟨hd, e300⟩ := hV.2.1.1
  obtain ⟨hyB, e301, e302⟩ := hV.2.1.2.1
  obtain ⟨hr9, e303⟩ := hV.2.1.2.2.1
  obtain ⟨hc5, e307, hfe⟩ := hV.2.1.2.2.2.2.1
  have hk4 := kN4 (aF A)
  have hB : B + 1 < 2 ^ 30 := by omega
  have hB2 : B + 7000 + 1 < 2 ^ 30 := by omega
  refine l_aload_n (pc := 0) hc dL_isDay_0 0 rfl ?_
  refine l_iconst (v := 1) (pc := 1) hc dL_isDay_1 (by decide) ?_
  refine l_q (pc := 2) hc cl_L_8 rfl [.int 1] (fun G hG9 => C_count hI (kl K) G 1 A B hG9 hV hZ hB) rfl rfl (by simp [Value.category]) rfl rfl ⟨by decide, by decide⟩ dL_isDay_2 ?_
  refine l_as (nI (dN (aF A))) ((qc_1 A).trans e300) ?_
  refine l_istore_n (pc := 5) (L' := [(3, .int (nI (dN (aF A)))), (0, .ref (w.2.2 0)), (1, .int v), (2, .ref (w.2.2 239))]) hc dL_isDay_5 (by decide) rfl ?_
  refine l_aload_n (pc := 6) hc dL_isDay_6 1 rfl ?_
  refine l_iload_n (pc := 7) hc dL_isDay_7 0 rfl ?_
  refine l_iconst (v := 1) (pc := 8) hc dL_isDay_8 (by decide) ?_
  refine l_q (pc := 9) hc cl_L_14 rfl [.int (nI (dN (aF A))), .int 1] (fun G hG9 => C_dayOf hI (kl K) G (nI (dN (aF A))) 1 A B hG9 hV hZ hB) rfl rfl (by simp [Value.category]) rfl rfl ⟨by decide, by decide⟩ dL_isDay_9 ?_
  refine l_as (rToldOf (aF A) (dN (aF A)) + 1000) (qd_1 A (d := dN (aF A)) (by omega)) ?_
  refine l_sipush (v := 1000) (pc := 12) hc dL_isDay_12 (by decide) ?_
  refine l_isub (pc := 15) hc dL_isDay_15 ?_
  refine l_as (rToldOf (aF A) (dN (aF A))) (i32_ac _ _) ?_
  refine l_as (rTold (aF A) (dN (aF A))) (told_n hV hd (by omega)) ?_
  refine l_istore (pc := 16) (L' := [(4, .int (rTold (aF A) (dN (aF A)))), (3, .int (nI (dN (aF A)))), (0, .ref (w.2.2 0)), (1, .int v), (2, .ref (w.2.2 239))]) hc dL_isDay_16 (by decide) rfl ?_
  refine l_aload_n (pc := 18) hc dL_isDay_18 2 rfl ?_
  refine l_iload_n (pc := 19) hc dL_isDay_19 1 rfl ?_
  refine l_iconst (v := 4) (pc := 20) hc dL_isDay_20 (by decide) ?_
  refine l_q (pc := 21) hc cl_L_14 rfl [.int (nI (dN (aF A))), .int 4] (fun G hG9 => C_dayOf hI (kl K) G (nI (dN (aF A))) 4 A B hG9 hV hZ hB) rfl rfl (by simp [Value.category]) rfl rfl ⟨by decide, by decide⟩ dL_isDay_21 ?_
  refine l_as (b01 (rToldOf (aF A) (dN (aF A)) ≤ aF A 305)) (qd_4 A (d := dN (aF A)) (by omega)) ?_
  refine l_as (rT (aF A) (dN (aF A))) (frost_d hV) ?_
  refine l_istore (pc := 24) (L' := [(5, .int (rT (aF A) (dN (aF A)))), (4, .int (rTold (aF A) (dN (aF A)))), (3, .int (nI (dN (aF A)))), (0, .ref (w.2.2 0)), (1, .int v), (2, .ref (w.2.2 239))]) hc dL_isDay_24 (by decide) rfl ?_
  refine l_iload_n (pc := 26) hc dL_isDay_26 4 rfl ?_
  have j35 : ∀ v35 : Int32, v35 = (if 0 < v then 0 else 1) → LX w K 18 A D 35 [(5, .int (rT (aF A) (dN (aF A)))), (4, .int (rTold (aF A) (dN (aF A)))), (3, .int (nI (dN (aF A)))), (0, .ref (w.2.2 0)), (1, .int v), (2, .ref (w.2.2 239))] [.int v35] := by
    intro v35 hv35
    refine l_as (b01 (v ≤ 0)) (hv35.trans (b01_gt _ _)) ?_
    refine l_istore (pc := 35) (L' := [(6, .int (b01 (v ≤ 0))), (5, .int (rT (aF A) (dN (aF A)))), (4, .int (rTold (aF A) (dN (aF A)))), (3, .int (nI (dN (aF A)))), (0, .ref (w.2.2 0)), (1, .int v), (2, .ref (w.2.2 239))]) hc dL_isDay_35 (by decide) rfl ?_
    refine l_aload_n (pc := 37) hc dL_isDay_37 4 rfl ?_
    refine l_bipush (v := 15) (pc := 38) hc dL_isDay_38 (by decide) ?_
    refine l_q (pc := 40) hc cl_L_8 rfl [.int 15] (fun G hG9 => C_count hI (kl K) G 15 A B hG9 hV hZ hB) rfl rfl (by simp [Value.category]) rfl rfl ⟨by decide, by decide⟩ dL_isDay_40 ?_
    refine l_as (aF A 306 + 1000) (qc_15 A) ?_
    refine l_sipush (v := 1000) (pc := 43) hc dL_isDay_43 (by decide) ?_
    refine l_isub (pc := 46) hc dL_isDay_46 ?_
    refine l_as (aF A 306) (i32_ac _ _) ?_
    refine l_istore (pc := 47) (L' := [(7, .int (aF A 306)), (6, .int (b01 (v ≤ 0))), (5, .int (rT (aF A) (dN (aF A)))), (4, .int (rTold (aF A) (dN (aF A)))), (3, .int (nI (dN (aF A)))), (0, .ref (w.2.2 0)), (1, .int v), (2, .ref (w.2.2 239))]) hc dL_isDay_47 (by decide) rfl ?_
    refine l_aload_n (pc := 49) hc dL_isDay_49 5 rfl ?_
    refine l_bipush (v := 9) (pc := 50) hc dL_isDay_50 (by decide) ?_
    refine l_q (pc := 52) hc cl_L_8 rfl [.int 9] (fun G hG9 => C_count hI (kl K) G 9 A B hG9 hV hZ hB) rfl rfl (by simp [Value.category]) rfl rfl ⟨by decide, by decide⟩ dL_isDay_52 ?_
    refine l_as (aF A 351 + 100000) (qc_9 A) ?_
    refine l_istore (pc := 55) (L' := [(8, .int (aF A 351 + 100000)), (7, .int (aF A 306)), (6, .int (b01 (v ≤ 0))), (5, .int (rT (aF A) (dN (aF A)))), (4, .int (rTold (aF A) (dN (aF A)))), (3, .int (nI (dN (aF A)))), (0, .ref (w.2.2 0)), (1, .int v), (2, .ref (w.2.2 239))]) hc dL_isDay_55 (by decide) rfl ?_
    refine l_aload_n (pc := 57) hc dL_isDay_57 6 rfl ?_
    refine l_iconst (v := 0) (pc := 58) hc dL_isDay_58 (by decide) ?_
    refine l_q (pc := 59) hc cl_L_8 rfl [.int 0] (fun G hG9 => C_count hI (kl K) G 0 A B hG9 hV hZ hB) rfl rfl (by simp [Value.category]) rfl rfl ⟨by decide, by decide⟩ dL_isDay_59 ?_
    refine l_as (nI (yN (aF A))) ((qc_0 A).trans e301) ?_
    refine l_istore (pc := 62) (L' := [(9, .int (nI (yN (aF A)))), (8, .int (aF A 351 + 100000)), (7, .int (aF A 306)), (6, .int (b01 (v ≤ 0))), (5, .int (rT (aF A) (dN (aF A)))), (4, .int (rTold (aF A) (dN (aF A)))), (3, .int (nI (dN (aF A)))), (0, .ref (w.2.2 0)), (1, .int v), (2, .ref (w.2.2 239))]) hc dL_isDay_62 (by decide) rfl ?_
    refine l_aload_n (pc := 64) hc dL_isDay_64 7 rfl ?_
    refine l_iconst (v := 4) (pc := 65) hc dL_isDay_65 (by decide) ?_
    refine l_q (pc := 66) hc cl_L_8 rfl [.int 4] (fun G hG9 => C_count hI (kl K) G 4 A B hG9 hV hZ hB) rfl rfl (by simp [Value.category]) rfl rfl ⟨by decide, by decide⟩ dL_isDay_66 ?_
    refine l_as (aF A 348) (qc_4 A) ?_
    refine l_istore (pc := 69) (L' := [(10, .int (aF A 348)), (9, .int (nI (yN (aF A)))), (8, .int (aF A 351 + 100000)), (7, .int (aF A 306)), (6, .int (b01 (v ≤ 0))), (5, .int (rT (aF A) (dN (aF A)))), (4, .int (rTold (aF A) (dN (aF A)))), (3, .int (nI (dN (aF A)))), (0, .ref (w.2.2 0)), (1, .int v), (2, .ref (w.2.2 239))]) hc dL_isDay_69 (by decide) rfl ?_
    refine l_aload_n (pc := 71) hc dL_isDay_71 8 rfl ?_
    refine l_iconst (v := 5) (pc := 72) hc dL_isDay_72 (by decide) ?_
    refine l_q (pc := 73) hc cl_L_8 rfl [.int 5] (fun G hG9 => C_count hI (kl K) G 5 A B hG9 hV hZ hB) rfl rfl (by simp [Value.category]) rfl rfl ⟨by decide, by decide⟩ dL_isDay_73 ?_
    refine l_as (aF A 349) (qc_5 A) ?_
    refine l_istore (pc := 76) (L' := [(11, .int (aF A 349)), (10, .int (aF A 348)), (9, .int (nI (yN (aF A)))), (8, .int (aF A 351 + 100000)), (7, .int (aF A 306)), (6, .int (b01 (v ≤ 0))), (5, .int (rT (aF A) (dN (aF A)))), (4, .int (rTold (aF A) (dN (aF A)))), (3, .int (nI (dN (aF A)))), (0, .ref (w.2.2 0)), (1, .int v), (2, .ref (w.2.2 239))]) hc dL_isDay_76 (by decide) rfl ?_
    refine l_aload_n (pc := 78) hc dL_isDay_78 9 rfl ?_
    refine l_bipush (v := 6) (pc := 79) hc dL_isDay_79 (by decide) ?_
    refine l_q (pc := 81) hc cl_L_8 rfl [.int 6] (fun G hG9 => C_count hI (kl K) G 6 A B hG9 hV hZ hB) rfl rfl (by simp [Value.category]) rfl rfl ⟨by decide, by decide⟩ dL_isDay_81 ?_
    refine l_as (aF A 350) (qc_6 A) ?_
    refine l_istore (pc := 84) (L' := [(12, .int (aF A 350)), (11, .int (aF A 349)), (10, .int (aF A 348)), (9, .int (nI (yN (aF A)))), (8, .int (aF A 351 + 100000)), (7, .int (aF A 306)), (6, .int (b01 (v ≤ 0))), (5, .int (rT (aF A) (dN (aF A)))), (4, .int (rTold (aF A) (dN (aF A)))), (3, .int (nI (dN (aF A)))), (0, .ref (w.2.2 0)), (1, .int v), (2, .ref (w.2.2 239))]) hc dL_isDay_84 (by decide) rfl ?_
    refine l_iconst (v := 0) (pc := 86) hc dL_isDay_86 (by decide) ?_
    refine l_istore (pc := 87) (L' := [(13, .int 0), (12, .int (aF A 350)), (11, .int (aF A 349)), (10, .int (aF A 348)), (9, .int (nI (yN (aF A)))), (8, .int (aF A 351 + 100000)), (7, .int (aF A 306)), (6, .int (b01 (v ≤ 0))), (5, .int (rT (aF A) (dN (aF A)))), (4, .int (rTold (aF A) (dN (aF A)))), (3, .int (nI (dN (aF A)))), (0, .ref (w.2.2 0)), (1, .int v), (2, .ref (w.2.2 239))]) hc dL_isDay_87 (by decide) rfl ?_
    refine l_iconst (v := 0) (pc := 89) hc dL_isDay_89 (by decide) ?_
    refine l_istore (pc := 90) (L' := [(14, .int 0), (13, .int 0), (12, .int (aF A 350)), (11, .int (aF A 349)), (10, .int (aF A 348)), (9, .int (nI (yN (aF A)))), (8, .int (aF A 351 + 100000)), (7, .int (aF A 306)), (6, .int (b01 (v ≤ 0))), (5, .int (rT (aF A) (dN (aF A)))), (4, .int (rTold (aF A) (dN (aF A)))), (3, .int (nI (dN (aF A)))), (0, .ref (w.2.2 0)), (1, .int v), (2, .ref (w.2.2 239))]) hc dL_isDay_90 (by decide) rfl ?_
    have loop92 : ∀ (n92 : Nat) (k : Nat) (Dx : Nat → Int32), k ≤ 4 → 5 ≤ k + n92 → DW (aF A) v Dx k → LX w K 18 A Dx 92 [(14, .int (nI k)), (13, .int (wS (aF A) (b01 (v ≤ 0)) (rT (aF A) (dN (aF A))) k)), (12, .int (aF A 350)), (11, .int (aF A 349)), (10, .int (aF A 348)), (9, .int (nI (yN (aF A)))), (8, .int (aF A 351 + 100000)), (7, .int (aF A 306)), (6, .int (b01 (v ≤ 0))), (5, .int (rT (aF A) (dN (aF A)))), (4, .int (rTold (aF A) (dN (aF A)))), (3, .int (nI (dN (aF A)))), (2, .ref (w.2.2 239)), (1, .int v), (0, .ref (w.2.2 0))] [] := by
      intro n92
      induction n92 with
      | zero => intro k Dx hk hn hD; omega
      | succ n92 ih92 =>
        intro k Dx hk hn hD
        refine l_iload (pc := 92) hc dL_isDay_92 0 rfl ?_
        refine l_iconst (v := 4) (pc := 94) hc dL_isDay_94 (by decide) ?_
        refine l_icmp_ge (pc := 95) hc dL_isDay_95 298 (by decide) (fun c95 => ?_) (fun c95 => ?_)
        · have oc95 := c95
          have c95 : 4 ≤ k := (nI_leI (a := 4) (b := k) (by omega) (by omega)).mp c95
          refine l_iconst (v := 0) (pc := 298) hc dL_isDay_298 (by decide) ?_
          refine l_istore (pc := 299) (L' := [(14, .int 0), (13, .int (wS (aF A) (b01 (v ≤ 0)) (rT (aF A) (dN (aF A))) k)), (12, .int (aF A 350)), (11, .int (aF A 349)), (10, .int (aF A 348)), (9, .int (nI (yN (aF A)))), (8, .int (aF A 351 + 100000)), (7, .int (aF A 306)), (6, .int (b01 (v ≤ 0))), (5, .int (rT (aF A) (dN (aF A)))), (4, .int (rTold (aF A) (dN (aF A)))), (3, .int (nI (dN (aF A)))), (2, .ref (w.2.2 239)), (1, .int v), (0, .ref (w.2.2 0))]) hc dL_isDay_299 (by decide) rfl ?_
          have loop301 : ∀ (n301 : Nat) (k2 : Nat) (Dy : Nat → Int32), k2 ≤ 20 → 21 ≤ k2 + n301 → DU (aF A) v Dy k2 → LX w K 18 A Dy 301 [(14, .int (nI k2)), (13, .int (wS (aF A) (b01 (v ≤ 0)) (rT (aF A) (dN (aF A))) k)), (12, .int (aF A 350)), (11, .int (aF A 349)), (10, .int (aF A 348)), (9, .int (nI (yN (aF A)))), (8, .int (aF A 351 + 100000)), (7, .int (aF A 306)), (6, .int (b01 (v ≤ 0))), (5, .int (rT (aF A) (dN (aF A)))), (4, .int (rTold (aF A) (dN (aF A)))), (3, .int (nI (dN (aF A)))), (2, .ref (w.2.2 239)), (1, .int v), (0, .ref (w.2.2 0))] [] := by
            intro n301
            induction n301 with
            | zero => intro k2 Dy hk2 hn2 hU; omega
            | succ n301 ih301 =>
              intro k2 Dy hk2 hn2 hU
              refine l_iload (pc := 301) hc dL_isDay_301 0 rfl ?_
              refine l_bipush (v := 20) (pc := 303) hc dL_isDay_303 (by decide) ?_
              refine l_icmp_ge (pc := 305) hc dL_isDay_305 383 (by decide) (fun c305 => ?_) (fun c305 => ?_)
              · have oc305 := c305
                have c305 : 20 ≤ k2 := (nI_leI (a := 20) (b := k2) (by omega) (by omega)).mp c305
                refine l_aload_n (pc := 383) hc dL_isDay_383 14 rfl ?_
                refine l_iload_n (pc := 384) hc dL_isDay_384 13 rfl ?_
                refine l_q (pc := 385) (A' := (tMeasure A v)) hc cl_L_49 rfl [.int v] (fun G hG9 => C_measure hI (kl K) G v A B hG9 hV hZ hB) rfl rfl (by simp [Value.category]) rfl rfl ⟨by decide, by decide⟩ dL_isDay_385 ?_
                refine l_An (fun A2 eA2 => ?_)
                have hG2 : LG A2 (B + 7000) := by rw [eA2]; exact LG_measure (by omega) hG v
                have hV2 := hG2.1.1
                have hZ2 := hG2.1.2
                have eF : aF A2 = rMeas (aF A) v (dN (aF A)) (rN (aF A)) := by rw [eA2]; exact meas_f hv
                refine l_as (v - rTold (aF A) (dN (aF A)) + 1000) (meas_q hv) ?_
                refine l_iload_n (pc := 388) hc dL_isDay_388 13 rfl ?_
                refine l_iload (pc := 389) hc dL_isDay_389 10 rfl ?_
                refine l_isub (pc := 391) hc dL_isDay_391 ?_
                refine l_sipush (v := 1000) (pc := 392) hc dL_isDay_392 (by decide) ?_
                refine l_iadd (pc := 395) hc dL_isDay_395 ?_
                refine l_icmp_eq (pc := 396) hc dL_isDay_396 401 (by decide) (fun c396 => ?_) (fun c396 => ?_)
                · refine l_iconst (v := 0) (pc := 401) hc dL_isDay_401 (by decide) ?_
                  refine l_istore (pc := 402) (L' := [(14, .int 0), (13, .int (wS (aF A) (b01 (v ≤ 0)) (rT (aF A) (dN (aF A))) k)), (12, .int (aF A 350)), (11, .int (aF A 349)), (10, .int (aF A 348)), (9, .int (nI (yN (aF A)))), (8, .int (aF A 351 + 100000)), (7, .int (aF A 306)), (6, .int (b01 (v ≤ 0))), (5, .int (rT (aF A) (dN (aF A)))), (4, .int (rTold (aF A) (dN (aF A)))), (3, .int (nI (dN (aF A)))), (2, .ref (w.2.2 239)), (1, .int v), (0, .ref (w.2.2 0))]) hc dL_isDay_402 (by decide) rfl ?_
                  have loop404 : ∀ (n404 : Nat) (k3 : Nat), k3 ≤ 4 → 5 ≤ k3 + n404 → LX w K 18 A2 Dy 404 [(14, .int (nI k3)), (13, .int (wS (aF A) (b01 (v ≤ 0)) (rT (aF A) (dN (aF A))) k)), (12, .int (aF A 350)), (11, .int (aF A 349)), (10, .int (aF A 348)), (9, .int (nI (yN (aF A)))), (8, .int (aF A 351 + 100000)), (7, .int (aF A 306)), (6, .int (b01 (v ≤ 0))), (5, .int (rT (aF A) (dN (aF A)))), (4, .int (rTold (aF A) (dN (aF A)))), (3, .int (nI (dN (aF A)))), (2, .ref (w.2.2 239)), (1, .int v), (0, .ref (w.2.2 0))] [] := by
                    intro n404
                    induction n404 with
                    | zero => intro k3 hk3 hn3; omega
                    | succ n404 ih404 =>
                      intro k3 hk3 hn3
                      refine l_iload (pc := 404) hc dL_isDay_404 0 rfl ?_
                      refine l_iconst (v := 4) (pc := 406) hc dL_isDay_406 (by decide) ?_
                      refine l_icmp_ge (pc := 407) hc dL_isDay_407 475 (by decide) (fun c407 => ?_) (fun c407 => ?_)
                      · have oc407 := c407
                        have c407 : 4 ≤ k3 := (nI_leI (a := 4) (b := k3) (by omega) (by omega)).mp c407
                        refine l_iconst (v := 0) (pc := 475) hc dL_isDay_475 (by decide) ?_
                        refine l_istore (pc := 476) (L' := [(14, .int 0), (13, .int (wS (aF A) (b01 (v ≤ 0)) (rT (aF A) (dN (aF A))) k)), (12, .int (aF A 350)), (11, .int (aF A 349)), (10, .int (aF A 348)), (9, .int (nI (yN (aF A)))), (8, .int (aF A 351 + 100000)), (7, .int (aF A 306)), (6, .int (b01 (v ≤ 0))), (5, .int (rT (aF A) (dN (aF A)))), (4, .int (rTold (aF A) (dN (aF A)))), (3, .int (nI (dN (aF A)))), (2, .ref (w.2.2 239)), (1, .int v), (0, .ref (w.2.2 0))]) hc dL_isDay_476 (by decide) rfl ?_
                        have loop478 : ∀ (n478 : Nat) (k4 : Nat), k4 ≤ 20 → 21 ≤ k4 + n478 → LX w K 18 A2 Dy 478 [(14, .int (nI k4)), (13, .int (wS (aF A) (b01 (v ≤ 0)) (rT (aF A) (dN (aF A))) k)), (12, .int (aF A 350)), (11, .int (aF A 349)), (10, .int (aF A 348)), (9, .int (nI (yN (aF A)))), (8, .int (aF A 351 + 100000)), (7, .int (aF A 306)), (6, .int (b01 (v ≤ 0))), (5, .int (rT (aF A) (dN (aF A)))), (4, .int (rTold (aF A) (dN (aF A)))), (3, .int (nI (dN (aF A)))), (2, .ref (w.2.2 239)), (1, .int v), (0, .ref (w.2.2 0))] [] := by
                          intro n478
                          induction n478 with
                          | zero => intro k4 hk4b hn4; omega
                          | succ n478 ih478 =>
                            intro k4 hk4b hn4
                            refine l_iload (pc := 478) hc dL_isDay_478 0 rfl ?_
                            refine l_bipush (v := 20) (pc := 480) hc dL_isDay_480 (by decide) ?_
                            refine l_icmp_ge (pc := 482) hc dL_isDay_482 576 (by decide) (fun c482 => ?_) (fun c482 => ?_)
                            · have oc482 := c482
                              have c482 : 20 ≤ k4 := (nI_leI (a := 20) (b := k4) (by omega) (by omega)).mp c482
                              refine l_iload_n (pc := 576) hc dL_isDay_576 11 rfl ?_
                              refine l_bipush (v := 19) (pc := 577) hc dL_isDay_577 (by decide) ?_
                              refine l_icmp_ne (pc := 579) hc dL_isDay_579 586 (by decide) (fun c579 => ?_) (fun c579 => ?_)
                              · have oc579 := c579
                                have c579 : ¬ dN (aF A) = 19 := fun h9 => c579 ((nI_eq (a := dN (aF A)) (b := 19) (by omega) (by omega)).mpr h9)
                                refine l_iconst (v := 0) (pc := 586) hc dL_isDay_586 (by decide) ?_
                                refine l_istore (pc := 587) (L' := [(14, .int 0), (13, .int (wS (aF A) (b01 (v ≤ 0)) (rT (aF A) (dN (aF A))) k)), (12, .int (aF A 350)), (11, .int (aF A 349)), (10, .int (aF A 348)), (9, .int (nI (yN (aF A)))), (8, .int (aF A 351 + 100000)), (7, .int (aF A 306)), (6, .int (b01 (v ≤ 0))), (5, .int (rT (aF A) (dN (aF A)))), (4, .int (rTold (aF A) (dN (aF A)))), (3, .int (nI (dN (aF A)))), (2, .ref (w.2.2 239)), (1, .int v), (0, .ref (w.2.2 0))]) hc dL_isDay_587 (by decide) rfl ?_
                                refine l_aload_n (pc := 589) hc dL_isDay_589 14 rfl ?_
                                refine l_bipush (v := 9) (pc := 590) hc dL_isDay_590 (by decide) ?_
                                refine l_q (pc := 592) hc cl_L_8 rfl [.int 9] (fun G hG9 => C_count hI (kl K) G 9 A2 (B + 7000) hG9 hV2 hZ2 hB2) rfl rfl (by simp [Value.category]) rfl rfl ⟨by decide, by decide⟩ dL_isDay_592 ?_
                                refine l_as (aF A2 351 + 100000) (qc_9 A2) ?_
                                refine l_iload (pc := 595) hc dL_isDay_595 6 rfl ?_
                                refine l_iload (pc := 597) hc dL_isDay_597 1 rfl ?_
                                refine l_isub (pc := 599) hc dL_isDay_599 ?_
                                refine l_icmp_ne (pc := 600) hc dL_isDay_600 730 (by decide) (fun c600 => ?_) (fun c600 => ?_)
                                · exact absurd (by rw [eF]; exact gC hV (by omega)) c600
                                · refine l_aload_n (pc := 603) hc dL_isDay_603 14 rfl ?_
                                  refine l_iconst (v := 4) (pc := 604) hc dL_isDay_604 (by decide) ?_
                                  refine l_q (pc := 605) hc cl_L_8 rfl [.int 4] (fun G hG9 => C_count hI (kl K) G 4 A2 (B + 7000) hG9 hV2 hZ2 hB2) rfl rfl (by simp [Value.category]) rfl rfl ⟨by decide, by decide⟩ dL_isDay_605 ?_
                                  refine l_as (aF A2 348) (qc_4 A2) ?_
                                  refine l_iload (pc := 608) hc dL_isDay_608 4 rfl ?_
                                  refine l_iload (pc := 610) hc dL_isDay_610 8 rfl ?_
                                  have j626 : ∀ v626 : Int32, v626 = (if (b01 (v ≤ 0)) = 0 then 0 else (if (rT (aF A) (dN (aF A))) = 1 then 1 else 0)) → LX w K 18 A2 Dy 626 [(14, .int 0), (13, .int (wS (aF A) (b01 (v ≤ 0)) (rT (aF A) (dN (aF A))) k)), (12, .int (aF A 350)), (11, .int (aF A 349)), (10, .int (aF A 348)), (9, .int (nI (yN (aF A)))), (8, .int (aF A 351 + 100000)), (7, .int (aF A 306)), (6, .int (b01 (v ≤ 0))), (5, .int (rT (aF A) (dN (aF A)))), (4, .int (rTold (aF A) (dN (aF A)))), (3, .int (nI (dN (aF A)))), (2, .ref (w.2.2 239)), (1, .int v), (0, .ref (w.2.2 0))] [.int v626, .int (aF A 348), .int (aF A2 348)] := by
                                    intro v626 hv626
                                    refine l_as (if b01 (v ≤ 0) = 0 then 0 else (if rT (aF A) (dN (aF A)) = 1 then 1 else 0)) hv626 ?_
                                    refine l_iadd (pc := 626) hc dL_isDay_626 ?_
                                    refine l_icmp_ne (pc := 627) hc dL_isDay_627 730 (by decide) (fun c627 => ?_) (fun c627 => ?_)
                                    · exact absurd (by rw [eF]; exact (gH hV).1) c627
                                    · refine l_aload_n (pc := 630) hc dL_isDay_630 14 rfl ?_
                                      refine l_iconst (v := 5) (pc := 631) hc dL_isDay_631 (by decide) ?_
                                      refine l_q (pc := 632) hc cl_L_8 rfl [.int 5] (fun G hG9 => C_count hI (kl K) G 5 A2 (B + 7000) hG9 hV2 hZ2 hB2) rfl rfl (by simp [Value.category]) rfl rfl ⟨by decide, by decide⟩ dL_isDay_632 ?_
                                      refine l_as (aF A2 349) (qc_5 A2) ?_
                                      refine l_iload (pc := 635) hc dL_isDay_635 3 rfl ?_
                                      refine l_iload (pc := 637) hc dL_isDay_637 8 rfl ?_
                                      have j652 : ∀ v652 : Int32, v652 = (if (b01 (v ≤ 0)) = 0 then 0 else (if (rT (aF A) (dN (aF A))) = 0 then 1 else 0)) → LX w K 18 A2 Dy 652 [(14, .int 0), (13, .int (wS (aF A) (b01 (v ≤ 0)) (rT (aF A) (dN (aF A))) k)), (12, .int (aF A 350)), (11, .int (aF A 349)), (10, .int (aF A 348)), (9, .int (nI (yN (aF A)))), (8, .int (aF A 351 + 100000)), (7, .int (aF A 306)), (6, .int (b01 (v ≤ 0))), (5, .int (rT (aF A) (dN (aF A)))), (4, .int (rTold (aF A) (dN (aF A)))), (3, .int (nI (dN (aF A)))), (2, .ref (w.2.2 239)), (1, .int v), (0, .ref (w.2.2 0))] [.int v652, .int (aF A 349), .int (aF A2 349)] := by
                                        intro v652 hv652
                                        refine l_as (if b01 (v ≤ 0) = 0 then 0 else (if rT (aF A) (dN (aF A)) = 0 then 1 else 0)) hv652 ?_
                                        refine l_iadd (pc := 652) hc dL_isDay_652 ?_
                                        refine l_icmp_ne (pc := 653) hc dL_isDay_653 730 (by decide) (fun c653 => ?_) (fun c653 => ?_)
                                        · exact absurd (by rw [eF]; exact (gH hV).2.1) c653
                                        · refine l_aload_n (pc := 656) hc dL_isDay_656 14 rfl ?_
                                          refine l_bipush (v := 6) (pc := 657) hc dL_isDay_657 (by decide) ?_
                                          refine l_q (pc := 659) hc cl_L_8 rfl [.int 6] (fun G hG9 => C_count hI (kl K) G 6 A2 (B + 7000) hG9 hV2 hZ2 hB2) rfl rfl (by simp [Value.category]) rfl rfl ⟨by decide, by decide⟩ dL_isDay_659 ?_
                                          refine l_as (aF A2 350) (qc_6 A2) ?_
                                          refine l_iload (pc := 662) hc dL_isDay_662 2 rfl ?_
                                          refine l_iload (pc := 664) hc dL_isDay_664 8 rfl ?_
                                          have j680 : ∀ v680 : Int32, v680 = (if (b01 (v ≤ 0)) = 0 then (if (rT (aF A) (dN (aF A))) = 1 then 1 else 0) else 0) → LX w K 18 A2 Dy 680 [(14, .int 0), (13, .int (wS (aF A) (b01 (v ≤ 0)) (rT (aF A) (dN (aF A))) k)), (12, .int (aF A 350)), (11, .int (aF A 349)), (10, .int (aF A 348)), (9, .int (nI (yN (aF A)))), (8, .int (aF A 351 + 100000)), (7, .int (aF A 306)), (6, .int (b01 (v ≤ 0))), (5, .int (rT (aF A) (dN (aF A)))), (4, .int (rTold (aF A) (dN (aF A)))), (3, .int (nI (dN (aF A)))), (2, .ref (w.2.2 239)), (1, .int v), (0, .ref (w.2.2 0))] [.int v680, .int (aF A 350), .int (aF A2 350)] := by
                                            intro v680 hv680
                                            refine l_as (if b01 (v ≤ 0) = 0 then (if rT (aF A) (dN (aF A)) = 1 then 1 else 0) else 0) hv680 ?_
                                            refine l_iadd (pc := 680) hc dL_isDay_680 ?_
                                            refine l_icmp_ne (pc := 681) hc dL_isDay_681 730 (by decide) (fun c681 => ?_) (fun c681 => ?_)
                                            · exact absurd (by rw [eF]; exact (gH hV).2.2) c681
                                            · refine l_aload_n (pc := 684) hc dL_isDay_684 14 rfl ?_
                                              refine l_iconst (v := 0) (pc := 685) hc dL_isDay_685 (by decide) ?_
                                              refine l_q (pc := 686) hc cl_L_8 rfl [.int 0] (fun G hG9 => C_count hI (kl K) G 0 A2 (B + 7000) hG9 hV2 hZ2 hB2) rfl rfl (by simp [Value.category]) rfl rfl ⟨by decide, by decide⟩ dL_isDay_686 ?_
                                              refine l_as (aF A2 301) (qc_0 A2) ?_
                                              refine l_iload (pc := 689) hc dL_isDay_689 0 rfl ?_
                                              refine l_if_eq (pc := 691) hc dL_isDay_691 701 (by decide) (fun c691 => ?_) (fun c691 => ?_)
                                              · refine l_iload (pc := 701) hc dL_isDay_701 5 rfl ?_
                                                refine l_icmp_ne (pc := 703) hc dL_isDay_703 730 (by decide) (fun c703 => ?_) (fun c703 => ?_)
                                                · exact absurd (by rw [eF]; exact gY0 hV (by omega)) c703
                                                · refine l_aload_n (pc := 706) hc dL_isDay_706 14 rfl ?_
                                                  refine l_iconst (v := 1) (pc := 707) hc dL_isDay_707 (by decide) ?_
                                                  refine l_q (pc := 708) hc cl_L_8 rfl [.int 1] (fun G hG9 => C_count hI (kl K) G 1 A2 (B + 7000) hG9 hV2 hZ2 hB2) rfl rfl (by simp [Value.category]) rfl rfl ⟨by decide, by decide⟩ dL_isDay_708 ?_
                                                  refine l_as (aF A2 300) (qc_1 A2) ?_
                                                  refine l_iload (pc := 711) hc dL_isDay_711 0 rfl ?_
                                                  refine l_if_eq (pc := 713) hc dL_isDay_713 720 (by decide) (fun c713 => ?_) (fun c713 => ?_)
                                                  · refine l_iload_n (pc := 720) hc dL_isDay_720 11 rfl ?_
                                                    refine l_iconst (v := 1) (pc := 721) hc dL_isDay_721 (by decide) ?_
                                                    refine l_iadd (pc := 722) hc dL_isDay_722 ?_
                                                    refine l_as (nI (dN (aF A) + 1)) (nI_add _ _) ?_
                                                    refine l_icmp_ne (pc := 723) hc dL_isDay_723 730 (by decide) (fun c723 => ?_) (fun c723 => ?_)
                                                    · exact absurd (by rw [eF]; exact gD0 hV (by omega)) c723
                                                    · refine l_iconst (v := 1) (pc := 726) hc dL_isDay_726 (by decide) ?_
                                                      refine l_goto (pc := 727) hc dL_isDay_727 731 (by decide) ?_
                                                      exact hret _ _ _ _ _ dL_isDay_731 ⟨rfl, eA2⟩
                                                  · exact absurd (by decide) c713
                                              · exact absurd (by decide) c691
                                          refine l_if_ne (pc := 666) hc dL_isDay_666 679 (by decide) (fun c666 => ?_) (fun c666 => ?_)
                                          · refine l_iconst (v := 0) (pc := 679) hc dL_isDay_679 (by decide) ?_
                                            exact j680 _ (by rw [if_neg c666])
                                          · refine l_iload (pc := 669) hc dL_isDay_669 9 rfl ?_
                                            refine l_iconst (v := 1) (pc := 671) hc dL_isDay_671 (by decide) ?_
                                            refine l_icmp_ne (pc := 672) hc dL_isDay_672 679 (by decide) (fun c672 => ?_) (fun c672 => ?_)
                                            · refine l_iconst (v := 0) (pc := 679) hc dL_isDay_679 (by decide) ?_
                                              exact j680 _ (by rw [if_pos c666, if_neg c672])
                                            · refine l_iconst (v := 1) (pc := 675) hc dL_isDay_675 (by decide) ?_
                                              refine l_goto (pc := 676) hc dL_isDay_676 680 (by decide) ?_
                                              exact j680 _ (by rw [if_pos c666, if_pos c672])
                                      refine l_if_eq (pc := 639) hc dL_isDay_639 651 (by decide) (fun c639 => ?_) (fun c639 => ?_)
                                      · refine l_iconst (v := 0) (pc := 651) hc dL_isDay_651 (by decide) ?_
                                        exact j652 _ (by rw [if_pos c639])
                                      · refine l_iload (pc := 642) hc dL_isDay_642 9 rfl ?_
                                        refine l_if_ne (pc := 644) hc dL_isDay_644 651 (by decide) (fun c644 => ?_) (fun c644 => ?_)
                                        · refine l_iconst (v := 0) (pc := 651) hc dL_isDay_651 (by decide) ?_
                                          exact j652 _ (by rw [if_neg c639, if_neg c644])
                                        · refine l_iconst (v := 1) (pc := 647) hc dL_isDay_647 (by decide) ?_
                                          refine l_goto (pc := 648) hc dL_isDay_648 652 (by decide) ?_
                                          exact j652 _ (by rw [if_neg c639, if_pos c644])
                                  refine l_if_eq (pc := 612) hc dL_isDay_612 625 (by decide) (fun c612 => ?_) (fun c612 => ?_)
                                  · refine l_iconst (v := 0) (pc := 625) hc dL_isDay_625 (by decide) ?_
                                    exact j626 _ (by rw [if_pos c612])
                                  · refine l_iload (pc := 615) hc dL_isDay_615 9 rfl ?_
                                    refine l_iconst (v := 1) (pc := 617) hc dL_isDay_617 (by decide) ?_
                                    refine l_icmp_ne (pc := 618) hc dL_isDay_618 625 (by decide) (fun c618 => ?_) (fun c618 => ?_)
                                    · refine l_iconst (v := 0) (pc := 625) hc dL_isDay_625 (by decide) ?_
                                      exact j626 _ (by rw [if_neg c612, if_neg c618])
                                    · refine l_iconst (v := 1) (pc := 621) hc dL_isDay_621 (by decide) ?_
                                      refine l_goto (pc := 622) hc dL_isDay_622 626 (by decide) ?_
                                      exact j626 _ (by rw [if_neg c612, if_pos c618])
                              · have oc579 := c579
                                have c579 : dN (aF A) = 19 := (nI_eq (a := dN (aF A)) (b := 19) (by omega) (by omega)).mp c579
                                refine l_iconst (v := 1) (pc := 582) hc dL_isDay_582 (by decide) ?_
                                refine l_goto (pc := 583) hc dL_isDay_583 587 (by decide) ?_
                                refine l_istore (pc := 587) (L' := [(14, .int 1), (13, .int (wS (aF A) (b01 (v ≤ 0)) (rT (aF A) (dN (aF A))) k)), (12, .int (aF A 350)), (11, .int (aF A 349)), (10, .int (aF A 348)), (9, .int (nI (yN (aF A)))), (8, .int (aF A 351 + 100000)), (7, .int (aF A 306)), (6, .int (b01 (v ≤ 0))), (5, .int (rT (aF A) (dN (aF A)))), (4, .int (rTold (aF A) (dN (aF A)))), (3, .int (nI (dN (aF A)))), (2, .ref (w.2.2 239)), (1, .int v), (0, .ref (w.2.2 0))]) hc dL_isDay_587 (by decide) rfl ?_
                                refine l_aload_n (pc := 589) hc dL_isDay_589 14 rfl ?_
                                refine l_bipush (v := 9) (pc := 590) hc dL_isDay_590 (by decide) ?_
                                refine l_q (pc := 592) hc cl_L_8 rfl [.int 9] (fun G hG9 => C_count hI (kl K) G 9 A2 (B + 7000) hG9 hV2 hZ2 hB2) rfl rfl (by simp [Value.category]) rfl rfl ⟨by decide, by decide⟩ dL_isDay_592 ?_
                                refine l_as (aF A2 351 + 100000) (qc_9 A2) ?_
                                refine l_iload (pc := 595) hc dL_isDay_595 6 rfl ?_
                                refine l_iload (pc := 597) hc dL_isDay_597 1 rfl ?_
                                refine l_isub (pc := 599) hc dL_isDay_599 ?_
                                refine l_icmp_ne (pc := 600) hc dL_isDay_600 730 (by decide) (fun c600_1 => ?_) (fun c600_1 => ?_)
                                · exact absurd (by rw [eF]; exact gC hV (by omega)) c600_1
                                · refine l_aload_n (pc := 603) hc dL_isDay_603 14 rfl ?_
                                  refine l_iconst (v := 4) (pc := 604) hc dL_isDay_604 (by decide) ?_
                                  refine l_q (pc := 605) hc cl_L_8 rfl [.int 4] (fun G hG9 => C_count hI (kl K) G 4 A2 (B + 7000) hG9 hV2 hZ2 hB2) rfl rfl (by simp [Value.category]) rfl rfl ⟨by decide, by decide⟩ dL_isDay_605 ?_
                                  refine l_as (aF A2 348) (qc_4 A2) ?_
                                  refine l_iload (pc := 608) hc dL_isDay_608 4 rfl ?_
                                  refine l_iload (pc := 610) hc dL_isDay_610 8 rfl ?_
                                  have j626_1 : ∀ v626_1 : Int32, v626_1 = (if (b01 (v ≤ 0)) = 0 then 0 else (if (rT (aF A) (dN (aF A))) = 1 then 1 else 0)) → LX w K 18 A2 Dy 626 [(14, .int 1), (13, .int (wS (aF A) (b01 (v ≤ 0)) (rT (aF A) (dN (aF A))) k)), (12, .int (aF A 350)), (11, .int (aF A 349)), (10, .int (aF A 348)), (9, .int (nI (yN (aF A)))), (8, .int (aF A 351 + 100000)), (7, .int (aF A 306)), (6, .int (b01 (v ≤ 0))), (5, .int (rT (aF A) (dN (aF A)))), (4, .int (rTold (aF A) (dN (aF A)))), (3, .int (nI (dN (aF A)))), (2, .ref (w.2.2 239)), (1, .int v), (0, .ref (w.2.2 0))] [.int v626_1, .int (aF A 348), .int (aF A2 348)] := by
                                    intro v626_1 hv626_1
                                    refine l_as (if b01 (v ≤ 0) = 0 then 0 else (if rT (aF A) (dN (aF A)) = 1 then 1 else 0)) hv626_1 ?_
                                    refine l_iadd (pc := 626) hc dL_isDay_626 ?_
                                    refine l_icmp_ne (pc := 627) hc dL_isDay_627 730 (by decide) (fun c627_1 => ?_) (fun c627_1 => ?_)
                                    · exact absurd (by rw [eF]; exact (gH hV).1) c627_1
                                    · refine l_aload_n (pc := 630) hc dL_isDay_630 14 rfl ?_
                                      refine l_iconst (v := 5) (pc := 631) hc dL_isDay_631 (by decide) ?_
                                      refine l_q (pc := 632) hc cl_L_8 rfl [.int 5] (fun G hG9 => C_count hI (kl K) G 5 A2 (B + 7000) hG9 hV2 hZ2 hB2) rfl rfl (by simp [Value.category]) rfl rfl ⟨by decide, by decide⟩ dL_isDay_632 ?_
                                      refine l_as (aF A2 349) (qc_5 A2) ?_
                                      refine l_iload (pc := 635) hc dL_isDay_635 3 rfl ?_
                                      refine l_iload (pc := 637) hc dL_isDay_637 8 rfl ?_
                                      have j652_1 : ∀ v652_1 : Int32, v652_1 = (if (b01 (v ≤ 0)) = 0 then 0 else (if (rT (aF A) (dN (aF A))) = 0 then 1 else 0)) → LX w K 18 A2 Dy 652 [(14, .int 1), (13, .int (wS (aF A) (b01 (v ≤ 0)) (rT (aF A) (dN (aF A))) k)), (12, .int (aF A 350)), (11, .int (aF A 349)), (10, .int (aF A 348)), (9, .int (nI (yN (aF A)))), (8, .int (aF A 351 + 100000)), (7, .int (aF A 306)), (6, .int (b01 (v ≤ 0))), (5, .int (rT (aF A) (dN (aF A)))), (4, .int (rTold (aF A) (dN (aF A)))), (3, .int (nI (dN (aF A)))), (2, .ref (w.2.2 239)), (1, .int v), (0, .ref (w.2.2 0))] [.int v652_1, .int (aF A 349), .int (aF A2 349)] := by
                                        intro v652_1 hv652_1
                                        refine l_as (if b01 (v ≤ 0) = 0 then 0 else (if rT (aF A) (dN (aF A)) = 0 then 1 else 0)) hv652_1 ?_
                                        refine l_iadd (pc := 652) hc dL_isDay_652 ?_
                                        refine l_icmp_ne (pc := 653) hc dL_isDay_653 730 (by decide) (fun c653_1 => ?_) (fun c653_1 => ?_)
                                        · exact absurd (by rw [eF]; exact (gH hV).2.1) c653_1
                                        · refine l_aload_n (pc := 656) hc dL_isDay_656 14 rfl ?_
                                          refine l_bipush (v := 6) (pc := 657) hc dL_isDay_657 (by decide) ?_
                                          refine l_q (pc := 659) hc cl_L_8 rfl [.int 6] (fun G hG9 => C_count hI (kl K) G 6 A2 (B + 7000) hG9 hV2 hZ2 hB2) rfl rfl (by simp [Value.category]) rfl rfl ⟨by decide, by decide⟩ dL_isDay_659 ?_
                                          refine l_as (aF A2 350) (qc_6 A2) ?_
                                          refine l_iload (pc := 662) hc dL_isDay_662 2 rfl ?_
                                          refine l_iload (pc := 664) hc dL_isDay_664 8 rfl ?_
                                          have j680_1 : ∀ v680_1 : Int32, v680_1 = (if (b01 (v ≤ 0)) = 0 then (if (rT (aF A) (dN (aF A))) = 1 then 1 else 0) else 0) → LX w K 18 A2 Dy 680 [(14, .int 1), (13, .int (wS (aF A) (b01 (v ≤ 0)) (rT (aF A) (dN (aF A))) k)), (12, .int (aF A 350)), (11, .int (aF A 349)), (10, .int (aF A 348)), (9, .int (nI (yN (aF A)))), (8, .int (aF A 351 + 100000)), (7, .int (aF A 306)), (6, .int (b01 (v ≤ 0))), (5, .int (rT (aF A) (dN (aF A)))), (4, .int (rTold (aF A) (dN (aF A)))), (3, .int (nI (dN (aF A)))), (2, .ref (w.2.2 239)), (1, .int v), (0, .ref (w.2.2 0))] [.int v680_1, .int (aF A 350), .int (aF A2 350)] := by
                                            intro v680_1 hv680_1
                                            refine l_as (if b01 (v ≤ 0) = 0 then (if rT (aF A) (dN (aF A)) = 1 then 1 else 0) else 0) hv680_1 ?_
                                            refine l_iadd (pc := 680) hc dL_isDay_680 ?_
                                            refine l_icmp_ne (pc := 681) hc dL_isDay_681 730 (by decide) (fun c681_1 => ?_) (fun c681_1 => ?_)
                                            · exact absurd (by rw [eF]; exact (gH hV).2.2) c681_1
                                            · refine l_aload_n (pc := 684) hc dL_isDay_684 14 rfl ?_
                                              refine l_iconst (v := 0) (pc := 685) hc dL_isDay_685 (by decide) ?_
                                              refine l_q (pc := 686) hc cl_L_8 rfl [.int 0] (fun G hG9 => C_count hI (kl K) G 0 A2 (B + 7000) hG9 hV2 hZ2 hB2) rfl rfl (by simp [Value.category]) rfl rfl ⟨by decide, by decide⟩ dL_isDay_686 ?_
                                              refine l_as (aF A2 301) (qc_0 A2) ?_
                                              refine l_iload (pc := 689) hc dL_isDay_689 0 rfl ?_
                                              refine l_if_eq (pc := 691) hc dL_isDay_691 701 (by decide) (fun c691_1 => ?_) (fun c691_1 => ?_)
                                              · exact absurd c691_1 (by decide)
                                              · refine l_iload (pc := 694) hc dL_isDay_694 5 rfl ?_
                                                refine l_iconst (v := 1) (pc := 696) hc dL_isDay_696 (by decide) ?_
                                                refine l_iadd (pc := 697) hc dL_isDay_697 ?_
                                                refine l_as (nI (yN (aF A) + 1)) (nI_add _ _) ?_
                                                refine l_goto (pc := 698) hc dL_isDay_698 703 (by decide) ?_
                                                refine l_icmp_ne (pc := 703) hc dL_isDay_703 730 (by decide) (fun c703_1 => ?_) (fun c703_1 => ?_)
                                                · exact absurd (by rw [eF]; exact gY1 hV (by omega)) c703_1
                                                · refine l_aload_n (pc := 706) hc dL_isDay_706 14 rfl ?_
                                                  refine l_iconst (v := 1) (pc := 707) hc dL_isDay_707 (by decide) ?_
                                                  refine l_q (pc := 708) hc cl_L_8 rfl [.int 1] (fun G hG9 => C_count hI (kl K) G 1 A2 (B + 7000) hG9 hV2 hZ2 hB2) rfl rfl (by simp [Value.category]) rfl rfl ⟨by decide, by decide⟩ dL_isDay_708 ?_
                                                  refine l_as (aF A2 300) (qc_1 A2) ?_
                                                  refine l_iload (pc := 711) hc dL_isDay_711 0 rfl ?_
                                                  refine l_if_eq (pc := 713) hc dL_isDay_713 720 (by decide) (fun c713_1 => ?_) (fun c713_1 => ?_)
                                                  · exact absurd c713_1 (by decide)
                                                  · refine l_iconst (v := 0) (pc := 716) hc dL_isDay_716 (by decide) ?_
                                                    refine l_goto (pc := 717) hc dL_isDay_717 723 (by decide) ?_
                                                    refine l_icmp_ne (pc := 723) hc dL_isDay_723 730 (by decide) (fun c723_1 => ?_) (fun c723_1 => ?_)
                                                    · exact absurd (by rw [eF]; exact gD1 hV (by omega)) c723_1
                                                    · refine l_iconst (v := 1) (pc := 726) hc dL_isDay_726 (by decide) ?_
                                                      refine l_goto (pc := 727) hc dL_isDay_727 731 (by decide) ?_
                                                      exact hret _ _ _ _ _ dL_isDay_731 ⟨rfl, eA2⟩
                                          refine l_if_ne (pc := 666) hc dL_isDay_666 679 (by decide) (fun c666_1 => ?_) (fun c666_1 => ?_)
                                          · refine l_iconst (v := 0) (pc := 679) hc dL_isDay_679 (by decide) ?_
                                            exact j680_1 _ (by rw [if_neg c666_1])
                                          · refine l_iload (pc := 669) hc dL_isDay_669 9 rfl ?_
                                            refine l_iconst (v := 1) (pc := 671) hc dL_isDay_671 (by decide) ?_
                                            refine l_icmp_ne (pc := 672) hc dL_isDay_672 679 (by decide) (fun c672_1 => ?_) (fun c672_1 => ?_)
                                            · refine l_iconst (v := 0) (pc := 679) hc dL_isDay_679 (by decide) ?_
                                              exact j680_1 _ (by rw [if_pos c666_1, if_neg c672_1])
                                            · refine l_iconst (v := 1) (pc := 675) hc dL_isDay_675 (by decide) ?_
                                              refine l_goto (pc := 676) hc dL_isDay_676 680 (by decide) ?_
                                              exact j680_1 _ (by rw [if_pos c666_1, if_pos c672_1])
                                      refine l_if_eq (pc := 639) hc dL_isDay_639 651 (by decide) (fun c639_1 => ?_) (fun c639_1 => ?_)
                                      · refine l_iconst (v := 0) (pc := 651) hc dL_isDay_651 (by decide) ?_
                                        exact j652_1 _ (by rw [if_pos c639_1])
                                      · refine l_iload (pc := 642) hc dL_isDay_642 9 rfl ?_
                                        refine l_if_ne (pc := 644) hc dL_isDay_644 651 (by decide) (fun c644_1 => ?_) (fun c644_1 => ?_)
                                        · refine l_iconst (v := 0) (pc := 651) hc dL_isDay_651 (by decide) ?_
                                          exact j652_1 _ (by rw [if_neg c639_1, if_neg c644_1])
                                        · refine l_iconst (v := 1) (pc := 647) hc dL_isDay_647 (by decide) ?_
                                          refine l_goto (pc := 648) hc dL_isDay_648 652 (by decide) ?_
                                          exact j652_1 _ (by rw [if_neg c639_1, if_pos c644_1])
                                  refine l_if_eq (pc := 612) hc dL_isDay_612 625 (by decide) (fun c612_1 => ?_) (fun c612_1 => ?_)
                                  · refine l_iconst (v := 0) (pc := 625) hc dL_isDay_625 (by decide) ?_
                                    exact j626_1 _ (by rw [if_pos c612_1])
                                  · refine l_iload (pc := 615) hc dL_isDay_615 9 rfl ?_
                                    refine l_iconst (v := 1) (pc := 617) hc dL_isDay_617 (by decide) ?_
                                    refine l_icmp_ne (pc := 618) hc dL_isDay_618 625 (by decide) (fun c618_1 => ?_) (fun c618_1 => ?_)
                                    · refine l_iconst (v := 0) (pc := 625) hc dL_isDay_625 (by decide) ?_
                                      exact j626_1 _ (by rw [if_neg c612_1, if_neg c618_1])
                                    · refine l_iconst (v := 1) (pc := 621) hc dL_isDay_621 (by decide) ?_
                                      refine l_goto (pc := 622) hc dL_isDay_622 626 (by decide) ?_
                                      exact j626_1 _ (by rw [if_neg c612_1, if_pos c618_1])
                            · have oc482 := c482
                              have c482 : ¬ 20 ≤ k4 := fun h9 => c482 ((nI_leI (a := 20) (b := k4) (by omega) (by omega)).mpr h9)
                              refine l_aload_n (pc := 485) hc dL_isDay_485 14 rfl ?_
                              refine l_iload (pc := 486) hc dL_isDay_486 0 rfl ?_
                              refine l_iconst (v := 0) (pc := 488) hc dL_isDay_488 (by decide) ?_
                              refine l_q (pc := 489) hc cl_L_14 rfl [.int (nI k4), .int 0] (fun G hG9 => C_dayOf hI (kl K) G (nI k4) 0 A2 (B + 7000) hG9 hV2 hZ2 hB2) rfl rfl (by simp [Value.category]) rfl rfl ⟨by decide, by decide⟩ dL_isDay_489 ?_
                              refine l_as (aF A2 k4 + 1000) (qd_0 A2 (d := k4) (by omega)) ?_
                              refine l_as (dueB (aF A) v k4) (by rw [eF]; exact gB hV (by omega)) ?_
                              refine l_aload_n (pc := 492) hc dL_isDay_492 12 rfl ?_
                              refine l_bipush (v := 32) (pc := 493) hc dL_isDay_493 (by decide) ?_
                              refine l_iload (pc := 495) hc dL_isDay_495 0 rfl ?_
                              refine l_iadd (pc := 497) hc dL_isDay_497 ?_
                              refine l_as (nI (32 + k4)) (nI_add _ _) ?_
                              refine l_iald (pc := 498) hc (vp_in_nI (by omega) (by decide)) dL_isDay_498 ?_
                              refine l_as (Dy (32 + k4)) (congrArg _ (nI_clamp (by omega))) ?_
                              refine l_as (dueB (aF A) v k4) (hU.2 k4 (by omega)).2 ?_
                              refine l_icmp_ne (pc := 499) hc dL_isDay_499 568 (by decide) (fun c499 => ?_) (fun c499 => ?_)
                              · exact absurd rfl c499
                              · refine l_iload_n (pc := 502) hc dL_isDay_502 11 rfl ?_
                                refine l_bipush (v := 19) (pc := 503) hc dL_isDay_503 (by decide) ?_
                                refine l_icmp_ge (pc := 505) hc dL_isDay_505 535 (by decide) (fun c505 => ?_) (fun c505 => ?_)
                                · have oc505 := c505
                                  have c505 : 19 ≤ dN (aF A) := (nI_leI (a := 19) (b := dN (aF A)) (by omega) (by omega)).mp c505
                                  refine l_iload_n (pc := 535) hc dL_isDay_535 11 rfl ?_
                                  refine l_bipush (v := 19) (pc := 536) hc dL_isDay_536 (by decide) ?_
                                  refine l_icmp_ne (pc := 538) hc dL_isDay_538 570 (by decide) (fun c538 => ?_) (fun c538 => ?_)
                                  · exact absurd (congrArg nI (show dN (aF A) = 19 by omega)) c538
                                  · have oc538 := c538
                                    have c538 : dN (aF A) = 19 := (nI_eq (a := dN (aF A)) (b := 19) (by omega) (by omega)).mp c538
                                    have hkA2 : 0 < kN (aF A2) := by rw [eF]; exact kN_end hV (by omega) (by omega)
                                    refine l_aload_n (pc := 541) hc dL_isDay_541 14 rfl ?_
                                    refine l_iconst (v := 0) (pc := 542) hc dL_isDay_542 (by decide) ?_
                                    refine l_iload (pc := 543) hc dL_isDay_543 0 rfl ?_
                                    refine l_iconst (v := 0) (pc := 545) hc dL_isDay_545 (by decide) ?_
                                    refine l_q (pc := 546) hc cl_L_29 rfl [.int 0, .int (nI k4), .int 0] (fun G hG9 => C_past hI (kl K) G 0 (nI k4) 0 A2 (B + 7000) hG9 hV2 hZ2 hB2) rfl rfl (by simp [Value.category]) rfl rfl ⟨by decide, by decide⟩ dL_isDay_546 ?_
                                    refine l_as (aF A2 (60 + k4) + 1000) (qp0_0 A2 (d := k4) (by omega) (by omega)) ?_
                                    refine l_aload_n (pc := 549) hc dL_isDay_549 14 rfl ?_
                                    refine l_iconst (v := 0) (pc := 550) hc dL_isDay_550 (by decide) ?_
                                    refine l_iload (pc := 551) hc dL_isDay_551 0 rfl ?_
                                    refine l_iconst (v := 1) (pc := 553) hc dL_isDay_553 (by decide) ?_
                                    refine l_q (pc := 554) hc cl_L_29 rfl [.int 0, .int (nI k4), .int 1] (fun G hG9 => C_past hI (kl K) G 0 (nI k4) 1 A2 (B + 7000) hG9 hV2 hZ2 hB2) rfl rfl (by simp [Value.category]) rfl rfl ⟨by decide, by decide⟩ dL_isDay_554 ?_
                                    refine l_as (aF A2 (80 + k4) + 1000) (qp0_1 A2 (d := k4) (by omega) (by omega)) ?_
                                    refine l_isub (pc := 557) hc dL_isDay_557 ?_
                                    refine l_as (dueT (aF A) k4) (by rw [i32_cc, eF]; exact gP hV (by omega) (by omega)) ?_
                                    refine l_aload_n (pc := 558) hc dL_isDay_558 12 rfl ?_
                                    refine l_bipush (v := 12) (pc := 559) hc dL_isDay_559 (by decide) ?_
                                    refine l_iload (pc := 561) hc dL_isDay_561 0 rfl ?_
                                    refine l_iadd (pc := 563) hc dL_isDay_563 ?_
                                    refine l_as (nI (12 + k4)) (nI_add _ _) ?_
                                    refine l_iald (pc := 564) hc (vp_in_nI (by omega) (by decide)) dL_isDay_564 ?_
                                    refine l_as (Dy (12 + k4)) (congrArg _ (nI_clamp (by omega))) ?_
                                    refine l_as (dueT (aF A) k4) (hU.2 k4 (by omega)).1 ?_
                                    refine l_icmp_eq (pc := 565) hc dL_isDay_565 570 (by decide) (fun c565 => ?_) (fun c565 => ?_)
                                    · refine l_iinc (pc := 570) (L' := [(14, .int (nI (k4 + 1))), (13, .int (wS (aF A) (b01 (v ≤ 0)) (rT (aF A) (dN (aF A))) k)), (12, .int (aF A 350)), (11, .int (aF A 349)), (10, .int (aF A 348)), (9, .int (nI (yN (aF A)))), (8, .int (aF A 351 + 100000)), (7, .int (aF A 306)), (6, .int (b01 (v ≤ 0))), (5, .int (rT (aF A) (dN (aF A)))), (4, .int (rTold (aF A) (dN (aF A)))), (3, .int (nI (dN (aF A)))), (2, .ref (w.2.2 239)), (1, .int v), (0, .ref (w.2.2 0))]) hc dL_isDay_570 0 rfl (nI (k4 + 1)) (nI_1 _) (by decide) rfl ?_
                                      refine l_goto (pc := 573) hc dL_isDay_573 478 (by decide) ?_
                                      refine l_loc [0, 1, 2, 3, 4, 5, 6, 7, 8, 9, 10, 11, 12, 13, 14] rfl ?_
                                      exact ih478 (k4 + 1) (by omega) (by omega)
                                    · exact absurd rfl c565
                                · have oc505 := c505
                                  have c505 : ¬ 19 ≤ dN (aF A) := fun h9 => c505 ((nI_leI (a := 19) (b := dN (aF A)) (by omega) (by omega)).mpr h9)
                                  refine l_iload (pc := 508) hc dL_isDay_508 0 rfl ?_
                                  refine l_iload_n (pc := 510) hc dL_isDay_510 11 rfl ?_
                                  refine l_icmp_gt (pc := 511) hc dL_isDay_511 535 (by decide) (fun c511 => ?_) (fun c511 => ?_)
                                  · have oc511 := c511
                                    have c511 : dN (aF A) < k4 := (nI_ltI (a := dN (aF A)) (b := k4) (by omega) (by omega)).mp c511
                                    refine l_iload_n (pc := 535) hc dL_isDay_535 11 rfl ?_
                                    refine l_bipush (v := 19) (pc := 536) hc dL_isDay_536 (by decide) ?_
                                    refine l_icmp_ne (pc := 538) hc dL_isDay_538 570 (by decide) (fun c538_1 => ?_) (fun c538_1 => ?_)
                                    · have oc538_1 := c538_1
                                      have c538_1 : ¬ dN (aF A) = 19 := fun h9 => c538_1 ((nI_eq (a := dN (aF A)) (b := 19) (by omega) (by omega)).mpr h9)
                                      refine l_iinc (pc := 570) (L' := [(14, .int (nI (k4 + 1))), (13, .int (wS (aF A) (b01 (v ≤ 0)) (rT (aF A) (dN (aF A))) k)), (12, .int (aF A 350)), (11, .int (aF A 349)), (10, .int (aF A 348)), (9, .int (nI (yN (aF A)))), (8, .int (aF A 351 + 100000)), (7, .int (aF A 306)), (6, .int (b01 (v ≤ 0))), (5, .int (rT (aF A) (dN (aF A)))), (4, .int (rTold (aF A) (dN (aF A)))), (3, .int (nI (dN (aF A)))), (2, .ref (w.2.2 239)), (1, .int v), (0, .ref (w.2.2 0))]) hc dL_isDay_570 0 rfl (nI (k4 + 1)) (nI_1 _) (by decide) rfl ?_
                                      refine l_goto (pc := 573) hc dL_isDay_573 478 (by decide) ?_
                                      refine l_loc [0, 1, 2, 3, 4, 5, 6, 7, 8, 9, 10, 11, 12, 13, 14] rfl ?_
                                      exact ih478 (k4 + 1) (by omega) (by omega)
                                    · exact absurd ((nI_eq (a := dN (aF A)) (b := 19) (by omega) (by omega)).mp c538_1) (by omega)
                                  · have oc511 := c511
                                    have c511 : ¬ dN (aF A) < k4 := fun h9 => c511 ((nI_ltI (a := dN (aF A)) (b := k4) (by omega) (by omega)).mpr h9)
                                    refine l_aload_n (pc := 514) hc dL_isDay_514 14 rfl ?_
                                    refine l_iload (pc := 515) hc dL_isDay_515 0 rfl ?_
                                    refine l_iconst (v := 1) (pc := 517) hc dL_isDay_517 (by decide) ?_
                                    refine l_q (pc := 518) hc cl_L_14 rfl [.int (nI k4), .int 1] (fun G hG9 => C_dayOf hI (kl K) G (nI k4) 1 A2 (B + 7000) hG9 hV2 hZ2 hB2) rfl rfl (by simp [Value.category]) rfl rfl ⟨by decide, by decide⟩ dL_isDay_518 ?_
                                    refine l_as (rToldOf (aF A2) k4 + 1000) (qd_1 A2 (d := k4) (by omega)) ?_
                                    refine l_sipush (v := 1000) (pc := 521) hc dL_isDay_521 (by decide) ?_
                                    refine l_isub (pc := 524) hc dL_isDay_524 ?_
                                    refine l_as (rToldOf (aF A2) k4) (i32_ac _ _) ?_
                                    refine l_as (dueT (aF A) k4) (by rw [eF]; exact gT hV (by omega) (by omega)) ?_
                                    refine l_aload_n (pc := 525) hc dL_isDay_525 12 rfl ?_
                                    refine l_bipush (v := 12) (pc := 526) hc dL_isDay_526 (by decide) ?_
                                    refine l_iload (pc := 528) hc dL_isDay_528 0 rfl ?_
                                    refine l_iadd (pc := 530) hc dL_isDay_530 ?_
                                    refine l_as (nI (12 + k4)) (nI_add _ _) ?_
                                    refine l_iald (pc := 531) hc (vp_in_nI (by omega) (by decide)) dL_isDay_531 ?_
                                    refine l_as (Dy (12 + k4)) (congrArg _ (nI_clamp (by omega))) ?_
                                    refine l_as (dueT (aF A) k4) (hU.2 k4 (by omega)).1 ?_
                                    refine l_icmp_ne (pc := 532) hc dL_isDay_532 568 (by decide) (fun c532 => ?_) (fun c532 => ?_)
                                    · exact absurd rfl c532
                                    · refine l_iload_n (pc := 535) hc dL_isDay_535 11 rfl ?_
                                      refine l_bipush (v := 19) (pc := 536) hc dL_isDay_536 (by decide) ?_
                                      refine l_icmp_ne (pc := 538) hc dL_isDay_538 570 (by decide) (fun c538_2 => ?_) (fun c538_2 => ?_)
                                      · have oc538_2 := c538_2
                                        have c538_2 : ¬ dN (aF A) = 19 := fun h9 => c538_2 ((nI_eq (a := dN (aF A)) (b := 19) (by omega) (by omega)).mpr h9)
                                        refine l_iinc (pc := 570) (L' := [(14, .int (nI (k4 + 1))), (13, .int (wS (aF A) (b01 (v ≤ 0)) (rT (aF A) (dN (aF A))) k)), (12, .int (aF A 350)), (11, .int (aF A 349)), (10, .int (aF A 348)), (9, .int (nI (yN (aF A)))), (8, .int (aF A 351 + 100000)), (7, .int (aF A 306)), (6, .int (b01 (v ≤ 0))), (5, .int (rT (aF A) (dN (aF A)))), (4, .int (rTold (aF A) (dN (aF A)))), (3, .int (nI (dN (aF A)))), (2, .ref (w.2.2 239)), (1, .int v), (0, .ref (w.2.2 0))]) hc dL_isDay_570 0 rfl (nI (k4 + 1)) (nI_1 _) (by decide) rfl ?_
                                        refine l_goto (pc := 573) hc dL_isDay_573 478 (by decide) ?_
                                        refine l_loc [0, 1, 2, 3, 4, 5, 6, 7, 8, 9, 10, 11, 12, 13, 14] rfl ?_
                                        exact ih478 (k4 + 1) (by omega) (by omega)
                                      · exact absurd ((nI_eq (a := dN (aF A)) (b := 19) (by omega) (by omega)).mp c538_2) (by omega)
                        refine l_loc [0, 1, 2, 3, 4, 5, 6, 7, 8, 9, 10, 11, 12, 13, 14] rfl ?_
                        exact loop478 21 0 (by omega) (by omega)
                      · have oc407 := c407
                        have c407 : ¬ 4 ≤ k3 := fun h9 => c407 ((nI_leI (a := 4) (b := k3) (by omega) (by omega)).mpr h9)
                        refine l_aload_n (pc := 410) hc dL_isDay_410 14 rfl ?_
                        refine l_iload (pc := 411) hc dL_isDay_411 0 rfl ?_
                        refine l_iconst (v := 0) (pc := 413) hc dL_isDay_413 (by decide) ?_
                        refine l_q (pc := 414) hc cl_L_39 rfl [.int (nI k3), .int 0] (fun G hG9 => C_readerOf hI (kl K) G (nI k3) 0 A2 (B + 7000) hG9 hV2 hZ2 hB2) rfl rfl (by simp [Value.category]) rfl rfl ⟨by decide, by decide⟩ dL_isDay_414 ?_
                        refine l_as (aF A2 (328 + 5 * k3 + 0)) (qr_j A2 (k := k3) (j := 0) (by omega) (by omega)) ?_
                        refine l_as (pay0 (aF A) v k3) (by rw [eF]; exact rMeas_0 hV.2.1 (by omega)) ?_
                        refine l_aload_n (pc := 417) hc dL_isDay_417 12 rfl ?_
                        refine l_iload (pc := 418) hc dL_isDay_418 0 rfl ?_
                        refine l_iald (pc := 420) hc (vp_in_nI (by omega) (by decide)) dL_isDay_420 ?_
                        refine l_as (Dy k3) (congrArg _ (nI_clamp (by omega))) ?_
                        refine l_as (pay0 (aF A) v k3) (hU.1 k3 (by omega)).1 ?_
                        refine l_icmp_ne (pc := 421) hc dL_isDay_421 467 (by decide) (fun c421 => ?_) (fun c421 => ?_)
                        · exact absurd rfl c421
                        · refine l_aload_n (pc := 424) hc dL_isDay_424 14 rfl ?_
                          refine l_iload (pc := 425) hc dL_isDay_425 0 rfl ?_
                          refine l_iconst (v := 1) (pc := 427) hc dL_isDay_427 (by decide) ?_
                          refine l_q (pc := 428) hc cl_L_39 rfl [.int (nI k3), .int 1] (fun G hG9 => C_readerOf hI (kl K) G (nI k3) 1 A2 (B + 7000) hG9 hV2 hZ2 hB2) rfl rfl (by simp [Value.category]) rfl rfl ⟨by decide, by decide⟩ dL_isDay_428 ?_
                          refine l_as (aF A2 (328 + 5 * k3 + 1)) (qr_j A2 (k := k3) (j := 1) (by omega) (by omega)) ?_
                          refine l_as 0 (by rw [eF]; exact (rG_rd hV.2.1 (by omega)).1) ?_
                          refine l_if_ne (pc := 431) hc dL_isDay_431 467 (by decide) (fun c431 => ?_) (fun c431 => ?_)
                          · exact absurd c431 (by decide)
                          · refine l_aload_n (pc := 434) hc dL_isDay_434 14 rfl ?_
                            refine l_iload (pc := 435) hc dL_isDay_435 0 rfl ?_
                            refine l_iconst (v := 3) (pc := 437) hc dL_isDay_437 (by decide) ?_
                            refine l_q (pc := 438) hc cl_L_39 rfl [.int (nI k3), .int 3] (fun G hG9 => C_readerOf hI (kl K) G (nI k3) 3 A2 (B + 7000) hG9 hV2 hZ2 hB2) rfl rfl (by simp [Value.category]) rfl rfl ⟨by decide, by decide⟩ dL_isDay_438 ?_
                            refine l_as (aF A2 (328 + 5 * k3 + 3)) (qr_j A2 (k := k3) (j := 3) (by omega) (by omega)) ?_
                            refine l_as (won (aF A) v k3) (by rw [eF]; exact (rG_rd hV.2.1 (by omega)).2.1) ?_
                            refine l_aload_n (pc := 441) hc dL_isDay_441 12 rfl ?_
                            refine l_iconst (v := 4) (pc := 442) hc dL_isDay_442 (by decide) ?_
                            refine l_iload (pc := 443) hc dL_isDay_443 0 rfl ?_
                            refine l_iadd (pc := 445) hc dL_isDay_445 ?_
                            refine l_as (nI (4 + k3)) (nI_add _ _) ?_
                            refine l_iald (pc := 446) hc (vp_in_nI (by omega) (by decide)) dL_isDay_446 ?_
                            refine l_as (Dy (4 + k3)) (congrArg _ (nI_clamp (by omega))) ?_
                            refine l_as (won (aF A) v k3) (hU.1 k3 (by omega)).2.1 ?_
                            refine l_icmp_ne (pc := 447) hc dL_isDay_447 467 (by decide) (fun c447 => ?_) (fun c447 => ?_)
                            · exact absurd rfl c447
                            · refine l_aload_n (pc := 450) hc dL_isDay_450 14 rfl ?_
                              refine l_iload (pc := 451) hc dL_isDay_451 0 rfl ?_
                              refine l_iconst (v := 4) (pc := 453) hc dL_isDay_453 (by decide) ?_
                              refine l_q (pc := 454) hc cl_L_39 rfl [.int (nI k3), .int 4] (fun G hG9 => C_readerOf hI (kl K) G (nI k3) 4 A2 (B + 7000) hG9 hV2 hZ2 hB2) rfl rfl (by simp [Value.category]) rfl rfl ⟨by decide, by decide⟩ dL_isDay_454 ?_
                              refine l_as (aF A2 (328 + 5 * k3 + 4)) (qr_j A2 (k := k3) (j := 4) (by omega) (by omega)) ?_
                              refine l_as (lost (aF A) v k3) (by rw [eF]; exact (rG_rd hV.2.1 (by omega)).2.2) ?_
                              refine l_aload_n (pc := 457) hc dL_isDay_457 12 rfl ?_
                              refine l_bipush (v := 8) (pc := 458) hc dL_isDay_458 (by decide) ?_
                              refine l_iload (pc := 460) hc dL_isDay_460 0 rfl ?_
                              refine l_iadd (pc := 462) hc dL_isDay_462 ?_
                              refine l_as (nI (8 + k3)) (nI_add _ _) ?_
                              refine l_iald (pc := 463) hc (vp_in_nI (by omega) (by decide)) dL_isDay_463 ?_
                              refine l_as (Dy (8 + k3)) (congrArg _ (nI_clamp (by omega))) ?_
                              refine l_as (lost (aF A) v k3) (hU.1 k3 (by omega)).2.2 ?_
                              refine l_icmp_eq (pc := 464) hc dL_isDay_464 469 (by decide) (fun c464 => ?_) (fun c464 => ?_)
                              · refine l_iinc (pc := 469) (L' := [(14, .int (nI (k3 + 1))), (13, .int (wS (aF A) (b01 (v ≤ 0)) (rT (aF A) (dN (aF A))) k)), (12, .int (aF A 350)), (11, .int (aF A 349)), (10, .int (aF A 348)), (9, .int (nI (yN (aF A)))), (8, .int (aF A 351 + 100000)), (7, .int (aF A 306)), (6, .int (b01 (v ≤ 0))), (5, .int (rT (aF A) (dN (aF A)))), (4, .int (rTold (aF A) (dN (aF A)))), (3, .int (nI (dN (aF A)))), (2, .ref (w.2.2 239)), (1, .int v), (0, .ref (w.2.2 0))]) hc dL_isDay_469 0 rfl (nI (k3 + 1)) (nI_1 _) (by decide) rfl ?_
                                refine l_goto (pc := 472) hc dL_isDay_472 404 (by decide) ?_
                                refine l_loc [0, 1, 2, 3, 4, 5, 6, 7, 8, 9, 10, 11, 12, 13, 14] rfl ?_
                                exact ih404 (k3 + 1) (by omega) (by omega)
                              · exact absurd rfl c464
                  refine l_loc [0, 1, 2, 3, 4, 5, 6, 7, 8, 9, 10, 11, 12, 13, 14] rfl ?_
                  exact loop404 5 0 (by omega) (by omega)
                · exact absurd rfl c396
              · have oc305 := c305
                have c305 : ¬ 20 ≤ k2 := fun h9 => c305 ((nI_leI (a := 20) (b := k2) (by omega) (by omega)).mpr h9)
                refine l_aload_n (pc := 308) hc dL_isDay_308 12 rfl ?_
                refine l_bipush (v := 12) (pc := 309) hc dL_isDay_309 (by decide) ?_
                refine l_iload (pc := 311) hc dL_isDay_311 0 rfl ?_
                refine l_iadd (pc := 313) hc dL_isDay_313 ?_
                refine l_as (nI (12 + k2)) (nI_add _ _) ?_
                refine l_iload (pc := 314) hc dL_isDay_314 0 rfl ?_
                refine l_iload_n (pc := 316) hc dL_isDay_316 11 rfl ?_
                have j346 : ∀ v346 : Int32, v346 = (if (nI k2) ≤ (nI (dN (aF A))) then (if (nI k2) = (nI (dN (aF A))) then (rTold (aF A) (dN (aF A))) else (rToldOf (aF A) k2)) else 0) → LX w K 18 A Dy 346 [(14, .int (nI k2)), (13, .int (wS (aF A) (b01 (v ≤ 0)) (rT (aF A) (dN (aF A))) k)), (12, .int (aF A 350)), (11, .int (aF A 349)), (10, .int (aF A 348)), (9, .int (nI (yN (aF A)))), (8, .int (aF A 351 + 100000)), (7, .int (aF A 306)), (6, .int (b01 (v ≤ 0))), (5, .int (rT (aF A) (dN (aF A)))), (4, .int (rTold (aF A) (dN (aF A)))), (3, .int (nI (dN (aF A)))), (2, .ref (w.2.2 239)), (1, .int v), (0, .ref (w.2.2 0))] [.int v346, .int (nI (12 + k2)), .ref (w.2.2 239)] := by
                  intro v346 hv346
                  refine l_as (dueT (aF A) k2) (hv346.trans (dueT_eq hV (by omega))) ?_
                  refine l_iast (pc := 346) hc hV (vp_in_nI (by omega) (by decide)) dL_isDay_346 ?_
                  refine l_D (congrArg (fun q => upd Dy q (dueT (aF A) k2)) (nI_clamp (by omega))) ?_
                  refine l_Dn (fun D1 eD1 => ?_)
                  refine l_aload_n (pc := 347) hc dL_isDay_347 12 rfl ?_
                  refine l_bipush (v := 32) (pc := 348) hc dL_isDay_348 (by decide) ?_
                  refine l_iload (pc := 350) hc dL_isDay_350 0 rfl ?_
                  refine l_iadd (pc := 352) hc dL_isDay_352 ?_
                  refine l_as (nI (32 + k2)) (nI_add _ _) ?_
                  refine l_iload_n (pc := 353) hc dL_isDay_353 11 rfl ?_
                  refine l_bipush (v := 19) (pc := 354) hc dL_isDay_354 (by decide) ?_
                  have j376 : ∀ v376 : Int32, v376 = (if (nI (dN (aF A))) = 19 then (bnd (aF A k2 + mean (lastM (aF A) v) k2 (rN (aF A)) * aF A 304 / 100) + 1000) else (aF A k2 + 1000)) → LX w K 18 A D1 376 [(14, .int (nI k2)), (13, .int (wS (aF A) (b01 (v ≤ 0)) (rT (aF A) (dN (aF A))) k)), (12, .int (aF A 350)), (11, .int (aF A 349)), (10, .int (aF A 348)), (9, .int (nI (yN (aF A)))), (8, .int (aF A 351 + 100000)), (7, .int (aF A 306)), (6, .int (b01 (v ≤ 0))), (5, .int (rT (aF A) (dN (aF A)))), (4, .int (rTold (aF A) (dN (aF A)))), (3, .int (nI (dN (aF A)))), (2, .ref (w.2.2 239)), (1, .int v), (0, .ref (w.2.2 0))] [.int v376, .int (nI (32 + k2)), .ref (w.2.2 239)] := by
                    intro v376 hv376
                    refine l_as (dueB (aF A) v k2) (hv376.trans (dueB_eq hV)) ?_
                    refine l_iast (pc := 376) hc hV (vp_in_nI (by omega) (by decide)) dL_isDay_376 ?_
                    refine l_D (congrArg (fun q => upd D1 q (dueB (aF A) v k2)) (nI_clamp (by omega))) ?_
                    refine l_Dn (fun D2 eD2 => ?_)
                    refine l_iinc (pc := 377) (L' := [(14, .int (nI (k2 + 1))), (13, .int (wS (aF A) (b01 (v ≤ 0)) (rT (aF A) (dN (aF A))) k)), (12, .int (aF A 350)), (11, .int (aF A 349)), (10, .int (aF A 348)), (9, .int (nI (yN (aF A)))), (8, .int (aF A 351 + 100000)), (7, .int (aF A 306)), (6, .int (b01 (v ≤ 0))), (5, .int (rT (aF A) (dN (aF A)))), (4, .int (rTold (aF A) (dN (aF A)))), (3, .int (nI (dN (aF A)))), (2, .ref (w.2.2 239)), (1, .int v), (0, .ref (w.2.2 0))]) hc dL_isDay_377 0 rfl (nI (k2 + 1)) (nI_1 _) (by decide) rfl ?_
                    refine l_goto (pc := 380) hc dL_isDay_380 301 (by decide) ?_
                    refine l_loc [0, 1, 2, 3, 4, 5, 6, 7, 8, 9, 10, 11, 12, 13, 14] rfl ?_
                    exact ih301 (k2 + 1) D2 (by omega) (by omega) (by rw [eD2, eD1]; exact DU_up hU (by omega))
                  refine l_icmp_ne (pc := 356) hc dL_isDay_356 369 (by decide) (fun c356 => ?_) (fun c356 => ?_)
                  · have oc356 := c356
                    have c356 : ¬ dN (aF A) = 19 := fun h9 => c356 ((nI_eq (a := dN (aF A)) (b := 19) (by omega) (by omega)).mpr h9)
                    refine l_aload_n (pc := 369) hc dL_isDay_369 14 rfl ?_
                    refine l_iload (pc := 370) hc dL_isDay_370 0 rfl ?_
                    refine l_iconst (v := 0) (pc := 372) hc dL_isDay_372 (by decide) ?_
                    refine l_q (pc := 373) hc cl_L_14 rfl [.int (nI k2), .int 0] (fun G hG9 => C_dayOf hI (kl K) G (nI k2) 0 A B hG9 hV hZ hB) rfl rfl (by simp [Value.category]) rfl rfl ⟨by decide, by decide⟩ dL_isDay_373 ?_
                    refine l_as (aF A k2 + 1000) (qd_0 A (d := k2) (by omega)) ?_
                    exact j376 _ (by rw [if_neg oc356])
                  · have oc356 := c356
                    have c356 : dN (aF A) = 19 := (nI_eq (a := dN (aF A)) (b := 19) (by omega) (by omega)).mp c356
                    refine l_aload_n (pc := 359) hc dL_isDay_359 14 rfl ?_
                    refine l_iload (pc := 360) hc dL_isDay_360 0 rfl ?_
                    refine l_iload_n (pc := 362) hc dL_isDay_362 13 rfl ?_
                    refine l_s (pc := 363) hc cl_L_45 [.ref (w.2.2 0), .int (nI k2), .int v] (l_nextBase hI (kl K) A D1 B k2 v (by omega) c356 hG hB) rfl rfl (by simp [Value.category]) rfl rfl ⟨by decide, by decide⟩ dL_isDay_363 (fun r363 Aa363 Da363 q363 => ?_)
                    obtain ⟨er363, eAa363, eDa363⟩ := q363
                    rw [eAa363, eDa363]
                    subst er363
                    refine l_goto (pc := 366) hc dL_isDay_366 376 (by decide) ?_
                    exact j376 _ (by rw [if_pos oc356])
                refine l_icmp_le (pc := 317) hc dL_isDay_317 324 (by decide) (fun c317 => ?_) (fun c317 => ?_)
                · have oc317 := c317
                  have c317 : k2 ≤ dN (aF A) := (nI_leI (a := k2) (b := dN (aF A)) (by omega) (by omega)).mp c317
                  refine l_iload (pc := 324) hc dL_isDay_324 0 rfl ?_
                  refine l_iload_n (pc := 326) hc dL_isDay_326 11 rfl ?_
                  refine l_icmp_ne (pc := 327) hc dL_isDay_327 335 (by decide) (fun c327 => ?_) (fun c327 => ?_)
                  · have oc327 := c327
                    have c327 : ¬ k2 = dN (aF A) := fun h9 => c327 ((nI_eq (a := k2) (b := dN (aF A)) (by omega) (by omega)).mpr h9)
                    refine l_aload_n (pc := 335) hc dL_isDay_335 14 rfl ?_
                    refine l_iload (pc := 336) hc dL_isDay_336 0 rfl ?_
                    refine l_iconst (v := 1) (pc := 338) hc dL_isDay_338 (by decide) ?_
                    refine l_q (pc := 339) hc cl_L_14 rfl [.int (nI k2), .int 1] (fun G hG9 => C_dayOf hI (kl K) G (nI k2) 1 A B hG9 hV hZ hB) rfl rfl (by simp [Value.category]) rfl rfl ⟨by decide, by decide⟩ dL_isDay_339 ?_
                    refine l_as (rToldOf (aF A) k2 + 1000) (qd_1 A (d := k2) (by omega)) ?_
                    refine l_sipush (v := 1000) (pc := 342) hc dL_isDay_342 (by decide) ?_
                    refine l_isub (pc := 345) hc dL_isDay_345 ?_
                    refine l_as (rToldOf (aF A) k2) (i32_ac _ _) ?_
                    exact j346 _ (by rw [if_pos oc317, if_neg oc327])
                  · have oc327 := c327
                    have c327 : k2 = dN (aF A) := (nI_eq (a := k2) (b := dN (aF A)) (by omega) (by omega)).mp c327
                    refine l_iload (pc := 330) hc dL_isDay_330 10 rfl ?_
                    refine l_goto (pc := 332) hc dL_isDay_332 346 (by decide) ?_
                    exact j346 _ (by rw [if_pos oc317, if_pos oc327])
                · have oc317 := c317
                  have c317 : ¬ k2 ≤ dN (aF A) := fun h9 => c317 ((nI_leI (a := k2) (b := dN (aF A)) (by omega) (by omega)).mpr h9)
                  refine l_iconst (v := 0) (pc := 320) hc dL_isDay_320 (by decide) ?_
                  refine l_goto (pc := 321) hc dL_isDay_321 346 (by decide) ?_
                  exact j346 _ (by rw [if_neg oc317])
          refine l_loc [0, 1, 2, 3, 4, 5, 6, 7, 8, 9, 10, 11, 12, 13, 14] rfl ?_
          exact loop301 21 0 Dx (by omega) (by omega) (DU_0 hD (by omega))
        · have oc95 := c95
          have c95 : ¬ 4 ≤ k := fun h9 => c95 ((nI_leI (a := 4) (b := k) (by omega) (by omega)).mpr h9)
          obtain ⟨bx, hbx, ebx, hon⟩ := hV.2.1.2.2.2.2.2 k (by omega)
          refine l_aload_n (pc := 98) hc dL_isDay_98 14 rfl ?_
          refine l_iload (pc := 99) hc dL_isDay_99 0 rfl ?_
          refine l_iconst (v := 1) (pc := 101) hc dL_isDay_101 (by decide) ?_
          refine l_q (pc := 102) hc cl_L_39 rfl [.int (nI k), .int 1] (fun G hG9 => C_readerOf hI (kl K) G (nI k) 1 A B hG9 hV hZ hB) rfl rfl (by simp [Value.category]) rfl rfl ⟨by decide, by decide⟩ dL_isDay_102 ?_
          refine l_as (aF A (328 + 5 * k + 1)) (qr_j A (k := k) (j := 1) (by omega) (by omega)) ?_
          refine l_istore (pc := 105) (L' := [(15, .int (aF A (328 + 5 * k + 1))), (14, .int (nI k)), (13, .int (wS (aF A) (b01 (v ≤ 0)) (rT (aF A) (dN (aF A))) k)), (12, .int (aF A 350)), (11, .int (aF A 349)), (10, .int (aF A 348)), (9, .int (nI (yN (aF A)))), (8, .int (aF A 351 + 100000)), (7, .int (aF A 306)), (6, .int (b01 (v ≤ 0))), (5, .int (rT (aF A) (dN (aF A)))), (4, .int (rTold (aF A) (dN (aF A)))), (3, .int (nI (dN (aF A)))), (2, .ref (w.2.2 239)), (1, .int v), (0, .ref (w.2.2 0))]) hc dL_isDay_105 (by decide) rfl ?_
          refine l_aload_n (pc := 107) hc dL_isDay_107 15 rfl ?_
          refine l_iload (pc := 108) hc dL_isDay_108 1 rfl ?_
          refine l_iconst (v := 2) (pc := 110) hc dL_isDay_110 (by decide) ?_
          refine l_q (pc := 111) hc cl_L_39 rfl [.int (nI k), .int 2] (fun G hG9 => C_readerOf hI (kl K) G (nI k) 2 A B hG9 hV hZ hB) rfl rfl (by simp [Value.category]) rfl rfl ⟨by decide, by decide⟩ dL_isDay_111 ?_
          refine l_as (aF A (328 + 5 * k + 2)) (qr_j A (k := k) (j := 2) (by omega) (by omega)) ?_
          refine l_iconst (v := 1) (pc := 114) hc dL_isDay_114 (by decide) ?_
          have j123 : ∀ v123 : Int32, v123 = (if (aF A (328 + 5 * k + 2)) = 1 then 1 else 0) → LX w K 18 A Dx 123 [(15, .int (aF A (328 + 5 * k + 1))), (14, .int (nI k)), (13, .int (wS (aF A) (b01 (v ≤ 0)) (rT (aF A) (dN (aF A))) k)), (12, .int (aF A 350)), (11, .int (aF A 349)), (10, .int (aF A 348)), (9, .int (nI (yN (aF A)))), (8, .int (aF A 351 + 100000)), (7, .int (aF A 306)), (6, .int (b01 (v ≤ 0))), (5, .int (rT (aF A) (dN (aF A)))), (4, .int (rTold (aF A) (dN (aF A)))), (3, .int (nI (dN (aF A)))), (2, .ref (w.2.2 239)), (1, .int v), (0, .ref (w.2.2 0))] [.int v123] := by
            intro v123 hv123
            refine l_as (aF A (328 + 5 * k + 2)) (hv123.trans (on_01 hon)) ?_
            refine l_iload (pc := 123) hc dL_isDay_123 9 rfl ?_
            have j133 : ∀ v133 : Int32, v133 = (if (aF A (328 + 5 * k + 2)) = (b01 (v ≤ 0)) then 1 else 0) → LX w K 18 A Dx 133 [(15, .int (aF A (328 + 5 * k + 1))), (14, .int (nI k)), (13, .int (wS (aF A) (b01 (v ≤ 0)) (rT (aF A) (dN (aF A))) k)), (12, .int (aF A 350)), (11, .int (aF A 349)), (10, .int (aF A 348)), (9, .int (nI (yN (aF A)))), (8, .int (aF A 351 + 100000)), (7, .int (aF A 306)), (6, .int (b01 (v ≤ 0))), (5, .int (rT (aF A) (dN (aF A)))), (4, .int (rTold (aF A) (dN (aF A)))), (3, .int (nI (dN (aF A)))), (2, .ref (w.2.2 239)), (1, .int v), (0, .ref (w.2.2 0))] [.int v133] := by
              intro v133 hv133
              refine l_as (b01 (aF A (328 + 5 * k + 2) = b01 (v ≤ 0))) hv133 ?_
              refine l_istore (pc := 133) (L' := [(16, .int (b01 (aF A (328 + 5 * k + 2) = b01 (v ≤ 0)))), (15, .int (aF A (328 + 5 * k + 1))), (14, .int (nI k)), (13, .int (wS (aF A) (b01 (v ≤ 0)) (rT (aF A) (dN (aF A))) k)), (12, .int (aF A 350)), (11, .int (aF A 349)), (10, .int (aF A 348)), (9, .int (nI (yN (aF A)))), (8, .int (aF A 351 + 100000)), (7, .int (aF A 306)), (6, .int (b01 (v ≤ 0))), (5, .int (rT (aF A) (dN (aF A)))), (4, .int (rTold (aF A) (dN (aF A)))), (3, .int (nI (dN (aF A)))), (2, .ref (w.2.2 239)), (1, .int v), (0, .ref (w.2.2 0))]) hc dL_isDay_133 (by decide) rfl ?_
              refine l_iload (pc := 135) hc dL_isDay_135 1 rfl ?_
              have j177 : ∀ v177 : Int32, v177 = (if (aF A (328 + 5 * k + 1)) = 0 then 0 else (if (b01 (aF A (328 + 5 * k + 2) = b01 (v ≤ 0))) = 0 then (-(aF A (328 + 5 * k + 1))) else (if (rT (aF A) (dN (aF A))) = (aF A (328 + 5 * k + 2)) then (aF A (328 + 5 * k + 1)) else ((aF A (328 + 5 * k + 1)) * (aF A 306))))) → LX w K 18 A Dx 177 [(16, .int (b01 (aF A (328 + 5 * k + 2) = b01 (v ≤ 0)))), (15, .int (aF A (328 + 5 * k + 1))), (14, .int (nI k)), (13, .int (wS (aF A) (b01 (v ≤ 0)) (rT (aF A) (dN (aF A))) k)), (12, .int (aF A 350)), (11, .int (aF A 349)), (10, .int (aF A 348)), (9, .int (nI (yN (aF A)))), (8, .int (aF A 351 + 100000)), (7, .int (aF A 306)), (6, .int (b01 (v ≤ 0))), (5, .int (rT (aF A) (dN (aF A)))), (4, .int (rTold (aF A) (dN (aF A)))), (3, .int (nI (dN (aF A)))), (2, .ref (w.2.2 239)), (1, .int v), (0, .ref (w.2.2 0))] [.int v177] := by
                intro v177 hv177
                refine l_as (wiN (aF A (328 + 5 * k + 1)) (aF A (328 + 5 * k + 2)) (b01 (v ≤ 0)) (rT (aF A) (dN (aF A))) (aF A 306)) (hv177.trans (win_eq hbx ebx)) ?_
                refine l_istore (pc := 177) (L' := [(17, .int (wiN (aF A (328 + 5 * k + 1)) (aF A (328 + 5 * k + 2)) (b01 (v ≤ 0)) (rT (aF A) (dN (aF A))) (aF A 306))), (16, .int (b01 (aF A (328 + 5 * k + 2) = b01 (v ≤ 0)))), (15, .int (aF A (328 + 5 * k + 1))), (14, .int (nI k)), (13, .int (wS (aF A) (b01 (v ≤ 0)) (rT (aF A) (dN (aF A))) k)), (12, .int (aF A 350)), (11, .int (aF A 349)), (10, .int (aF A 348)), (9, .int (nI (yN (aF A)))), (8, .int (aF A 351 + 100000)), (7, .int (aF A 306)), (6, .int (b01 (v ≤ 0))), (5, .int (rT (aF A) (dN (aF A)))), (4, .int (rTold (aF A) (dN (aF A)))), (3, .int (nI (dN (aF A)))), (2, .ref (w.2.2 239)), (1, .int v), (0, .ref (w.2.2 0))]) hc dL_isDay_177 (by decide) rfl ?_
                refine l_aload_n (pc := 179) hc dL_isDay_179 15 rfl ?_
                refine l_iload (pc := 180) hc dL_isDay_180 3 rfl ?_
                refine l_aload_n (pc := 182) hc dL_isDay_182 17 rfl ?_
                refine l_iload (pc := 183) hc dL_isDay_183 3 rfl ?_
                refine l_iconst (v := 0) (pc := 185) hc dL_isDay_185 (by decide) ?_
                refine l_q (pc := 186) hc cl_L_39 rfl [.int (nI k), .int 0] (fun G hG9 => C_readerOf hI (kl K) G (nI k) 0 A B hG9 hV hZ hB) rfl rfl (by simp [Value.category]) rfl rfl ⟨by decide, by decide⟩ dL_isDay_186 ?_
                refine l_as (aF A (328 + 5 * k + 0)) (qr_j A (k := k) (j := 0) (by omega) (by omega)) ?_
                refine l_iload (pc := 189) hc dL_isDay_189 1 rfl ?_
                have j208 : ∀ v208 : Int32, v208 = (if (b01 (aF A (328 + 5 * k + 2) = b01 (v ≤ 0))) = 0 then 0 else (if (aF A (328 + 5 * k + 1)) ≤ 0 then 0 else ((aF A (328 + 5 * k + 1)) + (wiN (aF A (328 + 5 * k + 1)) (aF A (328 + 5 * k + 2)) (b01 (v ≤ 0)) (rT (aF A) (dN (aF A))) (aF A 306))))) → LX w K 18 A Dx 208 [(17, .int (wiN (aF A (328 + 5 * k + 1)) (aF A (328 + 5 * k + 2)) (b01 (v ≤ 0)) (rT (aF A) (dN (aF A))) (aF A 306))), (16, .int (b01 (aF A (328 + 5 * k + 2) = b01 (v ≤ 0)))), (15, .int (aF A (328 + 5 * k + 1))), (14, .int (nI k)), (13, .int (wS (aF A) (b01 (v ≤ 0)) (rT (aF A) (dN (aF A))) k)), (12, .int (aF A 350)), (11, .int (aF A 349)), (10, .int (aF A 348)), (9, .int (nI (yN (aF A)))), (8, .int (aF A 351 + 100000)), (7, .int (aF A 306)), (6, .int (b01 (v ≤ 0))), (5, .int (rT (aF A) (dN (aF A)))), (4, .int (rTold (aF A) (dN (aF A)))), (3, .int (nI (dN (aF A)))), (2, .ref (w.2.2 239)), (1, .int v), (0, .ref (w.2.2 0))] [.int v208, .int (aF A (328 + 5 * k + 0)), .int (nI k), .ref (w.2.2 239)] := by
                  intro v208 hv208
                  refine l_as (if b01 (aF A (328 + 5 * k + 2) = b01 (v ≤ 0)) = 0 then 0 else (if (aF A (328 + 5 * k + 1)) ≤ 0 then 0 else (aF A (328 + 5 * k + 1) + wiN (aF A (328 + 5 * k + 1)) (aF A (328 + 5 * k + 2)) (b01 (v ≤ 0)) (rT (aF A) (dN (aF A))) (aF A 306)))) hv208 ?_
                  refine l_iadd (pc := 208) hc dL_isDay_208 ?_
                  refine l_as (pay0 (aF A) v k) (pay_eq hbx ebx) ?_
                  refine l_iast (pc := 209) hc hV (vp_in_nI (by omega) (by decide)) dL_isDay_209 ?_
                  refine l_D (congrArg (fun q => upd Dx q (pay0 (aF A) v k)) (nI_clamp (by omega))) ?_
                  refine l_Dn (fun D3 eD3 => ?_)
                  refine l_aload_n (pc := 210) hc dL_isDay_210 15 rfl ?_
                  refine l_iconst (v := 4) (pc := 211) hc dL_isDay_211 (by decide) ?_
                  refine l_iload (pc := 212) hc dL_isDay_212 3 rfl ?_
                  refine l_iadd (pc := 214) hc dL_isDay_214 ?_
                  refine l_as (nI (4 + k)) (nI_add _ _) ?_
                  refine l_aload_n (pc := 215) hc dL_isDay_215 17 rfl ?_
                  refine l_iload (pc := 216) hc dL_isDay_216 3 rfl ?_
                  refine l_iconst (v := 3) (pc := 218) hc dL_isDay_218 (by decide) ?_
                  refine l_q (pc := 219) hc cl_L_39 rfl [.int (nI k), .int 3] (fun G hG9 => C_readerOf hI (kl K) G (nI k) 3 A B hG9 hV hZ hB) rfl rfl (by simp [Value.category]) rfl rfl ⟨by decide, by decide⟩ dL_isDay_219 ?_
                  refine l_as (aF A (328 + 5 * k + 3)) (qr_j A (k := k) (j := 3) (by omega) (by omega)) ?_
                  refine l_iload (pc := 222) hc dL_isDay_222 1 rfl ?_
                  have j237 : ∀ v237 : Int32, v237 = (if (b01 (aF A (328 + 5 * k + 2) = b01 (v ≤ 0))) = 0 then 0 else (if (aF A (328 + 5 * k + 1)) ≤ 0 then 0 else 1)) → LX w K 18 A D3 237 [(17, .int (wiN (aF A (328 + 5 * k + 1)) (aF A (328 + 5 * k + 2)) (b01 (v ≤ 0)) (rT (aF A) (dN (aF A))) (aF A 306))), (16, .int (b01 (aF A (328 + 5 * k + 2) = b01 (v ≤ 0)))), (15, .int (aF A (328 + 5 * k + 1))), (14, .int (nI k)), (13, .int (wS (aF A) (b01 (v ≤ 0)) (rT (aF A) (dN (aF A))) k)), (12, .int (aF A 350)), (11, .int (aF A 349)), (10, .int (aF A 348)), (9, .int (nI (yN (aF A)))), (8, .int (aF A 351 + 100000)), (7, .int (aF A 306)), (6, .int (b01 (v ≤ 0))), (5, .int (rT (aF A) (dN (aF A)))), (4, .int (rTold (aF A) (dN (aF A)))), (3, .int (nI (dN (aF A)))), (2, .ref (w.2.2 239)), (1, .int v), (0, .ref (w.2.2 0))] [.int v237, .int (aF A (328 + 5 * k + 3)), .int (nI (4 + k)), .ref (w.2.2 239)] := by
                    intro v237 hv237
                    refine l_as (hit (aF A (328 + 5 * k + 1)) (aF A (328 + 5 * k + 2)) (b01 (v ≤ 0))) (hv237.trans hit_eq) ?_
                    refine l_iadd (pc := 237) hc dL_isDay_237 ?_
                    refine l_as (won (aF A) v k) rfl ?_
                    refine l_iast (pc := 238) hc hV (vp_in_nI (by omega) (by decide)) dL_isDay_238 ?_
                    refine l_D (congrArg (fun q => upd D3 q (won (aF A) v k)) (nI_clamp (by omega))) ?_
                    refine l_Dn (fun D4 eD4 => ?_)
                    refine l_aload_n (pc := 239) hc dL_isDay_239 15 rfl ?_
                    refine l_bipush (v := 8) (pc := 240) hc dL_isDay_240 (by decide) ?_
                    refine l_iload (pc := 242) hc dL_isDay_242 3 rfl ?_
                    refine l_iadd (pc := 244) hc dL_isDay_244 ?_
                    refine l_as (nI (8 + k)) (nI_add _ _) ?_
                    refine l_aload_n (pc := 245) hc dL_isDay_245 17 rfl ?_
                    refine l_iload (pc := 246) hc dL_isDay_246 3 rfl ?_
                    refine l_iconst (v := 4) (pc := 248) hc dL_isDay_248 (by decide) ?_
                    refine l_q (pc := 249) hc cl_L_39 rfl [.int (nI k), .int 4] (fun G hG9 => C_readerOf hI (kl K) G (nI k) 4 A B hG9 hV hZ hB) rfl rfl (by simp [Value.category]) rfl rfl ⟨by decide, by decide⟩ dL_isDay_249 ?_
                    refine l_as (aF A (328 + 5 * k + 4)) (qr_j A (k := k) (j := 4) (by omega) (by omega)) ?_
                    refine l_iload (pc := 252) hc dL_isDay_252 1 rfl ?_
                    have j267 : ∀ v267 : Int32, v267 = (if (b01 (aF A (328 + 5 * k + 2) = b01 (v ≤ 0))) = 0 then (if (aF A (328 + 5 * k + 1)) ≤ 0 then 0 else 1) else 0) → LX w K 18 A D4 267 [(17, .int (wiN (aF A (328 + 5 * k + 1)) (aF A (328 + 5 * k + 2)) (b01 (v ≤ 0)) (rT (aF A) (dN (aF A))) (aF A 306))), (16, .int (b01 (aF A (328 + 5 * k + 2) = b01 (v ≤ 0)))), (15, .int (aF A (328 + 5 * k + 1))), (14, .int (nI k)), (13, .int (wS (aF A) (b01 (v ≤ 0)) (rT (aF A) (dN (aF A))) k)), (12, .int (aF A 350)), (11, .int (aF A 349)), (10, .int (aF A 348)), (9, .int (nI (yN (aF A)))), (8, .int (aF A 351 + 100000)), (7, .int (aF A 306)), (6, .int (b01 (v ≤ 0))), (5, .int (rT (aF A) (dN (aF A)))), (4, .int (rTold (aF A) (dN (aF A)))), (3, .int (nI (dN (aF A)))), (2, .ref (w.2.2 239)), (1, .int v), (0, .ref (w.2.2 0))] [.int v267, .int (aF A (328 + 5 * k + 4)), .int (nI (8 + k)), .ref (w.2.2 239)] := by
                      intro v267 hv267
                      refine l_as (hitn (aF A (328 + 5 * k + 1)) (aF A (328 + 5 * k + 2)) (b01 (v ≤ 0))) (hv267.trans hitn_eq) ?_
                      refine l_iadd (pc := 267) hc dL_isDay_267 ?_
                      refine l_as (lost (aF A) v k) rfl ?_
                      refine l_iast (pc := 268) hc hV (vp_in_nI (by omega) (by decide)) dL_isDay_268 ?_
                      refine l_D (congrArg (fun q => upd D4 q (lost (aF A) v k)) (nI_clamp (by omega))) ?_
                      refine l_Dn (fun D5 eD5 => ?_)
                      refine l_iload (pc := 269) hc dL_isDay_269 4 rfl ?_
                      refine l_iload (pc := 271) hc dL_isDay_271 0 rfl ?_
                      refine l_iadd (pc := 273) hc dL_isDay_273 ?_
                      refine l_istore (pc := 274) (L' := [(13, .int ((wS (aF A) (b01 (v ≤ 0)) (rT (aF A) (dN (aF A))) k) + (wiN (aF A (328 + 5 * k + 1)) (aF A (328 + 5 * k + 2)) (b01 (v ≤ 0)) (rT (aF A) (dN (aF A))) (aF A 306)))), (17, .int (wiN (aF A (328 + 5 * k + 1)) (aF A (328 + 5 * k + 2)) (b01 (v ≤ 0)) (rT (aF A) (dN (aF A))) (aF A 306))), (16, .int (b01 (aF A (328 + 5 * k + 2) = b01 (v ≤ 0)))), (15, .int (aF A (328 + 5 * k + 1))), (14, .int (nI k)), (12, .int (aF A 350)), (11, .int (aF A 349)), (10, .int (aF A 348)), (9, .int (nI (yN (aF A)))), (8, .int (aF A 351 + 100000)), (7, .int (aF A 306)), (6, .int (b01 (v ≤ 0))), (5, .int (rT (aF A) (dN (aF A)))), (4, .int (rTold (aF A) (dN (aF A)))), (3, .int (nI (dN (aF A)))), (2, .ref (w.2.2 239)), (1, .int v), (0, .ref (w.2.2 0))]) hc dL_isDay_274 (by decide) rfl ?_
                      refine l_aload_n (pc := 276) hc dL_isDay_276 17 rfl ?_
                      refine l_iload (pc := 277) hc dL_isDay_277 4 rfl ?_
                      refine l_iload_n (pc := 279) hc dL_isDay_279 16 rfl ?_
                      refine l_q (pc := 280) hc cl_L_42 rfl [.int (nI k), .int v] (fun G hG9 => C_ifMeasured hI (kl K) G (nI k) v A B hG9 hV hZ hB) rfl rfl (by simp [Value.category]) rfl rfl ⟨by decide, by decide⟩ dL_isDay_280 ?_
                      refine l_as (pay0 (aF A) v k) (qif_eq (by omega) hV hv (by omega)) ?_
                      refine l_aload_n (pc := 283) hc dL_isDay_283 15 rfl ?_
                      refine l_iload (pc := 284) hc dL_isDay_284 4 rfl ?_
                      refine l_iald (pc := 286) hc (vp_in_nI (by omega) (by decide)) dL_isDay_286 ?_
                      refine l_as (D5 k) (congrArg _ (nI_clamp (by omega))) ?_
                      refine l_as (pay0 (aF A) v k) (by rw [eD5, upd_n _ _ (by omega), eD4, upd_n _ _ (by omega), eD3, upd_s]) ?_
                      refine l_icmp_eq (pc := 287) hc dL_isDay_287 292 (by decide) (fun c287 => ?_) (fun c287 => ?_)
                      · refine l_iinc (pc := 292) (L' := [(14, .int (nI (k + 1))), (13, .int ((wS (aF A) (b01 (v ≤ 0)) (rT (aF A) (dN (aF A))) k) + (wiN (aF A (328 + 5 * k + 1)) (aF A (328 + 5 * k + 2)) (b01 (v ≤ 0)) (rT (aF A) (dN (aF A))) (aF A 306)))), (17, .int (wiN (aF A (328 + 5 * k + 1)) (aF A (328 + 5 * k + 2)) (b01 (v ≤ 0)) (rT (aF A) (dN (aF A))) (aF A 306))), (16, .int (b01 (aF A (328 + 5 * k + 2) = b01 (v ≤ 0)))), (15, .int (aF A (328 + 5 * k + 1))), (12, .int (aF A 350)), (11, .int (aF A 349)), (10, .int (aF A 348)), (9, .int (nI (yN (aF A)))), (8, .int (aF A 351 + 100000)), (7, .int (aF A 306)), (6, .int (b01 (v ≤ 0))), (5, .int (rT (aF A) (dN (aF A)))), (4, .int (rTold (aF A) (dN (aF A)))), (3, .int (nI (dN (aF A)))), (2, .ref (w.2.2 239)), (1, .int v), (0, .ref (w.2.2 0))]) hc dL_isDay_292 4 rfl (nI (k + 1)) (nI_1 _) (by decide) rfl ?_
                        refine l_goto (pc := 295) hc dL_isDay_295 92 (by decide) ?_
                        refine l_loc [0, 1, 5, 6, 7, 8, 9, 10, 11, 12, 13, 14, 15, 16, 17] rfl ?_
                        exact ih92 (k + 1) D5 (by omega) (by omega) (by rw [eD5, eD4, eD3]; exact DW_up hD (by omega))
                      · exact absurd rfl c287
                    refine l_if_ne (pc := 254) hc dL_isDay_254 266 (by decide) (fun c254 => ?_) (fun c254 => ?_)
                    · refine l_iconst (v := 0) (pc := 266) hc dL_isDay_266 (by decide) ?_
                      exact j267 _ (by rw [if_neg c254])
                    · refine l_iload (pc := 257) hc dL_isDay_257 2 rfl ?_
                      refine l_if_le (pc := 259) hc dL_isDay_259 266 (by decide) (fun c259 => ?_) (fun c259 => ?_)
                      · refine l_iconst (v := 0) (pc := 266) hc dL_isDay_266 (by decide) ?_
                        exact j267 _ (by rw [if_pos c254, if_pos c259])
                      · refine l_iconst (v := 1) (pc := 262) hc dL_isDay_262 (by decide) ?_
                        refine l_goto (pc := 263) hc dL_isDay_263 267 (by decide) ?_
                        exact j267 _ (by rw [if_pos c254, if_neg c259])
                  refine l_if_eq (pc := 224) hc dL_isDay_224 236 (by decide) (fun c224 => ?_) (fun c224 => ?_)
                  · refine l_iconst (v := 0) (pc := 236) hc dL_isDay_236 (by decide) ?_
                    exact j237 _ (by rw [if_pos c224])
                  · refine l_iload (pc := 227) hc dL_isDay_227 2 rfl ?_
                    refine l_if_le (pc := 229) hc dL_isDay_229 236 (by decide) (fun c229 => ?_) (fun c229 => ?_)
                    · refine l_iconst (v := 0) (pc := 236) hc dL_isDay_236 (by decide) ?_
                      exact j237 _ (by rw [if_neg c224, if_pos c229])
                    · refine l_iconst (v := 1) (pc := 232) hc dL_isDay_232 (by decide) ?_
                      refine l_goto (pc := 233) hc dL_isDay_233 237 (by decide) ?_
                      exact j237 _ (by rw [if_neg c224, if_neg c229])
                refine l_if_eq (pc := 191) hc dL_isDay_191 207 (by decide) (fun c191 => ?_) (fun c191 => ?_)
                · refine l_iconst (v := 0) (pc := 207) hc dL_isDay_207 (by decide) ?_
                  exact j208 _ (by rw [if_pos c191])
                · refine l_iload (pc := 194) hc dL_isDay_194 2 rfl ?_
                  refine l_if_le (pc := 196) hc dL_isDay_196 207 (by decide) (fun c196 => ?_) (fun c196 => ?_)
                  · refine l_iconst (v := 0) (pc := 207) hc dL_isDay_207 (by decide) ?_
                    exact j208 _ (by rw [if_neg c191, if_pos c196])
                  · refine l_iload (pc := 199) hc dL_isDay_199 2 rfl ?_
                    refine l_iload (pc := 201) hc dL_isDay_201 0 rfl ?_
                    refine l_iadd (pc := 203) hc dL_isDay_203 ?_
                    refine l_goto (pc := 204) hc dL_isDay_204 208 (by decide) ?_
                    exact j208 _ (by rw [if_neg c191, if_neg c196])
              refine l_if_ne (pc := 137) hc dL_isDay_137 144 (by decide) (fun c137 => ?_) (fun c137 => ?_)
              · refine l_iload (pc := 144) hc dL_isDay_144 0 rfl ?_
                refine l_if_ne (pc := 146) hc dL_isDay_146 155 (by decide) (fun c146 => ?_) (fun c146 => ?_)
                · refine l_iload (pc := 155) hc dL_isDay_155 11 rfl ?_
                  refine l_aload_n (pc := 157) hc dL_isDay_157 16 rfl ?_
                  refine l_iload (pc := 158) hc dL_isDay_158 2 rfl ?_
                  refine l_iconst (v := 2) (pc := 160) hc dL_isDay_160 (by decide) ?_
                  refine l_q (pc := 161) hc cl_L_39 rfl [.int (nI k), .int 2] (fun G hG9 => C_readerOf hI (kl K) G (nI k) 2 A B hG9 hV hZ hB) rfl rfl (by simp [Value.category]) rfl rfl ⟨by decide, by decide⟩ dL_isDay_161 ?_
                  refine l_as (aF A (328 + 5 * k + 2)) (qr_j A (k := k) (j := 2) (by omega) (by omega)) ?_
                  refine l_icmp_ne (pc := 164) hc dL_isDay_164 172 (by decide) (fun c164 => ?_) (fun c164 => ?_)
                  · refine l_iload (pc := 172) hc dL_isDay_172 1 rfl ?_
                    refine l_iload (pc := 174) hc dL_isDay_174 9 rfl ?_
                    refine l_imul (pc := 176) hc dL_isDay_176 ?_
                    exact j177 _ (by rw [if_neg c137, if_neg c146, if_neg c164])
                  · refine l_iload (pc := 167) hc dL_isDay_167 1 rfl ?_
                    refine l_goto (pc := 169) hc dL_isDay_169 177 (by decide) ?_
                    exact j177 _ (by rw [if_neg c137, if_neg c146, if_pos c164])
                · refine l_iload (pc := 149) hc dL_isDay_149 1 rfl ?_
                  refine l_ineg (pc := 151) hc dL_isDay_151 ?_
                  refine l_goto (pc := 152) hc dL_isDay_152 177 (by decide) ?_
                  exact j177 _ (by rw [if_neg c137, if_pos c146])
              · refine l_iconst (v := 0) (pc := 140) hc dL_isDay_140 (by decide) ?_
                refine l_goto (pc := 141) hc dL_isDay_141 177 (by decide) ?_
                exact j177 _ (by rw [if_pos c137])
            refine l_icmp_ne (pc := 125) hc dL_isDay_125 132 (by decide) (fun c125 => ?_) (fun c125 => ?_)
            · refine l_iconst (v := 0) (pc := 132) hc dL_isDay_132 (by decide) ?_
              exact j133 _ (by rw [if_neg c125])
            · refine l_iconst (v := 1) (pc := 128) hc dL_isDay_128 (by decide) ?_
              refine l_goto (pc := 129) hc dL_isDay_129 133 (by decide) ?_
              exact j133 _ (by rw [if_pos c125])
          refine l_icmp_ne (pc := 115) hc dL_isDay_115 122 (by decide) (fun c115 => ?_) (fun c115 => ?_)
          · refine l_iconst (v := 0) (pc := 122) hc dL_isDay_122 (by decide) ?_
            exact j123 _ (by rw [if_neg c115])
          · refine l_iconst (v := 1) (pc := 118) hc dL_isDay_118 (by decide) ?_
            refine l_goto (pc := 119) hc dL_isDay_119 123 (by decide) ?_
            exact j123 _ (by rw [if_pos c115])
    refine l_loc [0, 1, 2, 3, 4, 5, 6, 7, 8, 9, 10, 11, 14, 13, 12] rfl ?_
    exact loop92 5 0 D (by omega) (by omega) (fun i h => absurd h (by omega))
  refine l_if_gt (pc := 27) hc dL_isDay_27 34 (by decide) (fun c27 => ?_) (fun c27 => ?_)
  · refine l_iconst (v := 0) (pc := 34) hc dL_isDay_34 (by decide) ?_
    exact j35 _ (by rw [if_pos c27])
  · refine l_iconst (v := 1) (pc := 30) hc dL_isDay_30 (by decide) ?_
    refine l_goto (pc := 31) hc dL_isDay_31 35 (by decide) ?_
    exact j35 _ (by rw [if_neg c27])
