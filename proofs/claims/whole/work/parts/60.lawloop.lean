set_option maxHeartbeats 4000000 in
set_option maxRecDepth 100000 in
/-- the law's switch, from the int that is read to 851 -/
theorem law_switch {p : Program} {l : Launch} {e : Env} {s : State} {m : MethodId} {below : List Frame} {meth : Method} {c : Code} {b : Nat} {d0 : Drawn} (hd0 : s.drawn.sameBut d0 lw_cs) {w : WT} (hI : xI w) {L : Nat} {xs : Nat → Int32} (hx : ∀ d, LX w (KL p l e s m below meth c b d) b L xs) {G : GS} {B i : Nat} (hV : INV G B) (hB : B + 7000 < 2 ^ 30) (hi : i + 4 < L) (hL : L ≤ 2560) (kk : ∀ G2 d, s.drawn.sameBut d lw_cs → INV G2 (B + 7000) → XX w (KL p l e s m below meth c b d) 8 G2 851 (LOC w b i) []) (t : Int32) : XX w (KL p l e s m below meth c b d0) 8 G 32 (LOC w b i) [.int t] := by
  have hc := (hx d0).1
  have hk : ∀ G2, INV G2 (B + 7000) → XX w (KL p l e s m below meth c b d0) 8 G2 851 (LOC w b i) [] := fun G2 h => kk G2 d0 hd0 h
  by_cases ht : t.toInt < 0 ∨ 24 < t.toInt
  · exact x_tableOut (pc := 32) hc dL_law_32 ht 851 (by decide) (hk G (INV_B (by omega) hV))
  rcases (show t.toInt = 0 ∨ t.toInt = 1 ∨ t.toInt = 2 ∨ t.toInt = 3 ∨ t.toInt = 4 ∨ t.toInt = 5 ∨ t.toInt = 6 ∨ t.toInt = 7 ∨ t.toInt = 8 ∨ t.toInt = 9 ∨ t.toInt = 10 ∨ t.toInt = 11 ∨ t.toInt = 12 ∨ t.toInt = 13 ∨ t.toInt = 14 ∨ t.toInt = 15 ∨ t.toInt = 16 ∨ t.toInt = 17 ∨ t.toInt = 18 ∨ t.toInt = 19 ∨ t.toInt = 20 ∨ t.toInt = 21 ∨ t.toInt = 22 ∨ t.toInt = 23 ∨ t.toInt = 24 by omega) with h | h | h | h | h | h | h | h | h | h | h | h | h | h | h | h | h | h | h | h | h | h | h | h | h
  · exact x_tableIn (pc := 32) (off := 116) hc dL_law_32 (by omega) (by omega) (by rw [h]; rfl) 148 (by decide) (law_0 hI (hx d0) hV hB hi hL hk)
  · exact x_tableIn (pc := 32) (off := 139) hc dL_law_32 (by omega) (by omega) (by rw [h]; rfl) 171 (by decide) (law_1 hI (hx d0) hV hB hi hL hk)
  · exact x_tableIn (pc := 32) (off := 152) hc dL_law_32 (by omega) (by omega) (by rw [h]; rfl) 184 (by decide) (law_2 hI (hx d0) hV hB hi hL hk)
  · exact x_tableIn (pc := 32) (off := 185) hc dL_law_32 (by omega) (by omega) (by rw [h]; rfl) 217 (by decide) (law_3 hI (hx d0) hV hB hi hL hk)
  · exact x_tableIn (pc := 32) (off := 238) hc dL_law_32 (by omega) (by omega) (by rw [h]; rfl) 270 (by decide) (law_4 hI (hx d0) hV hB hi hL hk)
  · exact x_tableIn (pc := 32) (off := 261) hc dL_law_32 (by omega) (by omega) (by rw [h]; rfl) 293 (by decide) (law_5 hI (hx d0) hV hB hi hL hk)
  · exact x_tableIn (pc := 32) (off := 294) hc dL_law_32 (by omega) (by omega) (by rw [h]; rfl) 326 (by decide) (law_6 hI (hx d0) hV hB hi hL hk)
  · exact x_tableIn (pc := 32) (off := 353) hc dL_law_32 (by omega) (by omega) (by rw [h]; rfl) 385 (by decide) (law_7 hI (hx d0) hV hB hi hL hk)
  · exact x_tableIn (pc := 32) (off := 376) hc dL_law_32 (by omega) (by omega) (by rw [h]; rfl) 408 (by decide) (law_8 hI (hx d0) hV hB hi hL hk)
  · exact x_tableIn (pc := 32) (off := 401) hc dL_law_32 (by omega) (by omega) (by rw [h]; rfl) 433 (by decide) (law_9 hI (hx d0) hV hB hi hL hk)
  · exact x_tableIn (pc := 32) (off := 414) hc dL_law_32 (by omega) (by omega) (by rw [h]; rfl) 446 (by decide) (law_10 hI (hx d0) hV hB hi hL hk)
  · exact x_tableIn (pc := 32) (off := 427) hc dL_law_32 (by omega) (by omega) (by rw [h]; rfl) 459 (by decide) (law_11 hI (hx d0) hV hB hi hL hk)
  · exact x_tableIn (pc := 32) (off := 440) hc dL_law_32 (by omega) (by omega) (by rw [h]; rfl) 472 (by decide) (law_12 hI (hx d0) hV hB hi hL hk)
  · exact x_tableIn (pc := 32) (off := 453) hc dL_law_32 (by omega) (by omega) (by rw [h]; rfl) 485 (by decide) (law_13 hI (hx d0) hV hB hi hL hk)
  · exact x_tableIn (pc := 32) (off := 466) hc dL_law_32 (by omega) (by omega) (by rw [h]; rfl) 498 (by decide) (law_14 hI (hx d0) hV hB hi hL hk)
  · exact x_tableIn (pc := 32) (off := 499) hc dL_law_32 (by omega) (by omega) (by rw [h]; rfl) 531 (by decide) (law_15 hI (hx d0) hV hB hi hL hk)
  · exact x_tableIn (pc := 32) (off := 542) hc dL_law_32 (by omega) (by omega) (by rw [h]; rfl) 574 (by decide) (law_16 hI (hx d0) hV hB hi hL hk)
  · exact x_tableIn (pc := 32) (off := 585) hc dL_law_32 (by omega) (by omega) (by rw [h]; rfl) 617 (by decide) (law_17 hI (hx d0) hV hB hi hL hk)
  · exact x_tableIn (pc := 32) (off := 618) hc dL_law_32 (by omega) (by omega) (by rw [h]; rfl) 650 (by decide) (law_18 hI (hx d0) hV hB hi hL hk)
  · exact x_tableIn (pc := 32) (off := 651) hc dL_law_32 (by omega) (by omega) (by rw [h]; rfl) 683 (by decide) (law_19 hI (hx d0) hV hB hi hL hk)
  · exact x_tableIn (pc := 32) (off := 674) hc dL_law_32 (by omega) (by omega) (by rw [h]; rfl) 706 (by decide) (law_20 hd0 hI hx hV hB kk)
  · exact x_tableIn (pc := 32) (off := 717) hc dL_law_32 (by omega) (by omega) (by rw [h]; rfl) 749 (by decide) (law_21 hI (hx d0) hV hB hi hL hk)
  · exact x_tableIn (pc := 32) (off := 740) hc dL_law_32 (by omega) (by omega) (by rw [h]; rfl) 772 (by decide) (law_22 hI (hx d0) hV hB hi hL hk)
  · exact x_tableIn (pc := 32) (off := 763) hc dL_law_32 (by omega) (by omega) (by rw [h]; rfl) 795 (by decide) (law_23 hI (hx d0) hV hB hi hL hk)
  · exact x_tableIn (pc := 32) (off := 786) hc dL_law_32 (by omega) (by omega) (by rw [h]; rfl) 818 (by decide) (law_24 hI (hx d0) hV hB hi hL hk)
set_option maxHeartbeats 4000000 in
set_option maxRecDepth 100000 in
theorem law_loop {p : Program} {l : Launch} {e : Env} {s : State} {m : MethodId} {below : List Frame} {meth : Method} {c : Code} {b L : Nat} {xs : Nat → Int32} (hL : L ≤ 2560) (hr : meth.sig.returnType = ret) (hlocks : meth.locks = false) {w : WT} (hI : xI w) (hlo : ∀ a, xA w a → s.heap.size ≤ a) (hx : ∀ d, LX w (KL p l e s m below meth c b d) b L xs) :
    ∀ (n k : Nat) (G : GS) (d0 : Drawn), s.drawn.sameBut d0 lw_cs → INV G (7000 * k) → k ≤ 512 → 513 ≤ k + n → XX w (KL p l e s m below meth c b d0) 8 G 18 (LOC w b (5 * k)) [] := by
  intro n
  induction n with
  | zero =>
    intro k G d0 _ _ h1 h2
    exact absurd h2 (by omega)
  | succ n ih =>
    intro k G d0 hd0 hV hk hn
    obtain ⟨hc, hX, hbl, hbA, hZ⟩ := hx d0
    refine x_iload_n (pc := 18) hc dL_law_18 0 rfl ?_
    refine x_aload_n (pc := 19) hc dL_law_19 3 rfl ?_
    refine x_slen (pc := 20) hc hX hbl hbA dL_law_20 ?_
    refine x_iconst (v := nI 5) (pc := 21) hc dL_law_21 (by decide) ?_
    refine x_isub (pc := 22) hc dL_law_22 ?_
    refine x_icmp_gt (pc := 23) hc dL_law_23 857 (by decide) (fun _ => ?_) (fun hlt => ?_)
    · refine x_iconst (v := 1) (pc := 857) hc dL_law_857 (by decide) ?_
      intro H locs ls hP hS hl
      refine va_forget (fun q hq => hlo _ (hS.2.2 q hq)) ?_
      exact lw_ret hd0 hc.1 hc.2.1 hr hlocks dL_law_858
    · have h5 : 5 * k + 5 ≤ L := by
        rw [Int32.lt_iff_toInt_lt, pk_sub_toInt (by omega) (by omega), nI_toInt (by omega)] at hlt
        omega
      refine x_aload_n (pc := 26) hc dL_law_26 3 rfl ?_
      refine x_iload_n (pc := 27) hc dL_law_27 0 rfl ?_
      refine x_sld (pc := 28) hc hX hbl hbA (vp_in_nI (by omega) (by omega)) (xs (5 * k)) (by rw [nI_clamp (by omega)]) dL_law_28 ?_
      refine x_bipush (v := 31) (pc := 29) hc dL_law_29 (by decide) ?_
      refine x_iand (pc := 31) hc dL_law_31 ?_
      refine law_switch hd0 hI hx hV (by omega) (by omega) hL (fun G2 d hd hV2 => ?_) _
      have hc2 := (hx d).1
      refine x_iinc (pc := 851) (L' := LOC w b (5 * (k + 1))) hc2 dL_law_851 0 rfl (nI (5 * (k + 1))) (nI_add (5 * k) 5) (by decide) rfl ?_
      refine x_goto (pc := 854) hc2 dL_law_854 18 (by decide) ?_
      exact ih (k + 1) G2 d hd hV2 (by omega) (by omega)
/-- where a cell stands in the order of making -/
def ordK (k : Nat) : Nat := if k < 4 then k else if k = 4 then 199 else if k < 200 then k - 1 else k
theorem ord_inv (q : Nat) (h : q < 245) : ordK (inv q) = q := by
  rcases (show q < 4 ∨ (4 ≤ q ∧ q < 199) ∨ q = 199 ∨ 200 ≤ q by omega) with h1 | ⟨h1, h2⟩ | h1 | h1
  · rw [inv_lo h1]; exact if_pos h1
  · rw [inv_mid h1 h2]
    unfold ordK
    rw [if_neg (by omega), if_neg (by omega), if_pos (by omega)]
    omega
  · subst h1; rfl
  · rw [inv_hi h1]
    unfold ordK
    rw [if_neg (by omega), if_neg (by omega), if_neg (by omega)]
theorem inv_ord (k : Nat) (h : k < 245) : inv (ordK k) = k ∧ ordK k < 245 := by
  rcases (show k < 4 ∨ k = 4 ∨ (5 ≤ k ∧ k < 200) ∨ 200 ≤ k by omega) with h1 | h1 | ⟨h1, h2⟩ | h1
  · rw [show ordK k = k from if_pos h1]; exact ⟨inv_lo h1, h⟩
  · subst h1; exact ⟨rfl, by decide⟩
  · have e : ordK k = k - 1 := by
      unfold ordK
      rw [if_neg (by omega), if_neg (by omega), if_pos (by omega)]
    rw [e, inv_mid (by omega) (by omega)]
    exact ⟨by omega, by omega⟩
  · have e : ordK k = k := by
      unfold ordK
      rw [if_neg (by omega), if_neg (by omega), if_neg (by omega)]
    rw [e]; exact ⟨inv_hi h1, h⟩
theorem INV_G0 : INV G0 0 := by
  refine INV_fresh rfl rfl rfl (fun i _ => rfl) rfl (fun c i hc _ => ?_) (fun j hj k hk => ?_) rfl rfl rfl (fun i _ => rfl)
  · have := congrFun (G0_st (j := 5) (c := c) (by omega) hc) i
    rw [show 5 + 39 * 5 + c = 200 + c by omega] at this
    exact this
  · have := congrFun (G0_st (j := j) (c := 35 + k) hj (by omega)) 2
    rw [this]
    unfold gs0
    rw [if_neg (by omega), if_pos (by omega), if_neg (by omega)]
/-- the fresh cells, told in the world's own order -/
theorem EF_world {w : WT} {n0 : Nat} {H : Heap} (ha : ∀ k, k < 245 → w.2.2 k = n0 + ordK k) (hP : va_P w.1 vwCl (wlE n0 (EF w) 245) H) : va_P w.1 vwCl (wl w G0) H := by
  intro k q hq
  have hk : k < 245 := by
    have := (List.getElem?_eq_some_iff.mp hq).1
    rwa [wl_len] at this
  rw [wl_get hk rfl] at hq
  cases hq
  obtain ⟨h1, h2⟩ := inv_ord k hk
  have h3 := hP (ordK k) _ (wlE_get n0 (EF w) h2)
  have e : EF w (ordK k) = cellSh w.2.1 w.2.2 k (G0 k) := by
    unfold EF
    rw [h1]
  rw [e, ← ha k hk] at h3
  exact h3
