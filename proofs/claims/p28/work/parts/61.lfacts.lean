/-! WHAT IS KNOWN OF A ROW, for the law -/
def inR (v : Int32) : Prop := -40 ≤ v.toInt ∧ v.toInt ≤ 40
def LF (f : Nat → Int32) : Prop := (∀ d, d < dN f → inR (f (40 + d)) ∧ inR (f (20 + d))) ∧ ∀ a, a < kN f → ∀ j, j < 20 → inR (f (60 + 60 * a + j)) ∧ inR (f (60 + 60 * a + j) - f (80 + 60 * a + j))
def LG (A : AT) (B : Nat) : Prop := AW2 A B ∧ LF (aF A)
theorem inR_bnd (v : Int32) : inR (bnd v) := by
  unfold bnd inR
  have e1 : (40 : Int32).toInt = 40 := rfl
  have e2 : (-40 : Int32).toInt = -40 := rfl
  by_cases h1 : v < -40
  · rw [if_pos h1, e2]; omega
  · rw [if_neg h1]
    by_cases h2 : 40 < v
    · rw [if_pos h2, e1]; omega
    · rw [if_neg h2]
      rw [Int32.lt_iff_toInt_lt] at h1 h2
      omega
theorem inR_told (f : Nat → Int32) (d : Nat) : inR (rTold f d) := inR_bnd _
theorem inR_in {v : Int32} (h : inR v) : ¬ inB v (-40) 40 = 0 := by
  unfold inB
  rw [b01_pos ⟨by rw [Int32.le_iff_toInt_le]; exact h.1, by rw [Int32.le_iff_toInt_le]; exact h.2⟩]
  decide
theorem in_inR {v : Int32} (h : ¬ inB v (-40) 40 = 0) : inR v := inB_f h
theorem i32_ac (x y : Int32) : x + y - y = x := Int32.add_sub_cancel x y
theorem inB_nI {d n : Nat} {hi : Int32} (hn : hi.toInt = n) (hs : n < 2 ^ 31) (h : d ≤ n) : ¬ inB (nI d) 0 hi = 0 := by
  unfold inB
  rw [b01_pos ⟨nI_pos' (by omega), by rw [Int32.le_iff_toInt_le, nI_toInt (by omega), hn]; omega⟩]
  decide
theorem sB_nI {i c : Nat} (hc : c ≤ 1000) (h : i < c) : ¬ sB (nI i) c = 0 := by
  have e : nI c - 1 = nI (c - 1) := by
    have := pk_sub (a := c) (b := 1) (by omega)
    exact this
  unfold sB
  rw [e]
  exact inB_nI (n := c - 1) (nI_toInt (by omega)) (by omega) (by omega)
theorem sB_out {i c : Nat} (hi : i < 1000) (hc : c ≤ 1000) (h : c ≤ i) : sB (nI i) c = 0 := by
  unfold sB inB
  refine b01_neg (fun z => ?_)
  have h2 := z.2
  rw [Int32.le_iff_toInt_le, nI_toInt (by omega)] at h2
  rcases Nat.eq_zero_or_pos c with h0 | h0
  · subst h0
    have e : (nI 0 - 1 : Int32).toInt = -1 := by decide
    rw [e] at h2
    omega
  · have e : nI c - 1 = nI (c - 1) := pk_sub (a := c) (b := 1) (by omega)
    rw [e, nI_toInt (by omega)] at h2
    omega
/-! counts -/
theorem qc_0 (A : AT) : qCount A 0 = aF A 301 := rfl
theorem qc_1 (A : AT) : qCount A 1 = aF A 300 := rfl
theorem qc_2 (A : AT) : qCount A 2 = aF A 302 := rfl
theorem qc_3 (A : AT) : qCount A 3 = aF A 307 := rfl
theorem qc_4 (A : AT) : qCount A 4 = aF A 348 := rfl
theorem qc_5 (A : AT) : qCount A 5 = aF A 349 := rfl
theorem qc_6 (A : AT) : qCount A 6 = aF A 350 := rfl
theorem qc_7 (A : AT) : qCount A 7 = sSum (nowM (aF A)) 20 := rfl
theorem qc_8 (A : AT) : qCount A 8 = if aF A 302 = 0 then -5 else sSum (okM (aF A) 0) 20 := rfl
theorem qc_9 (A : AT) : qCount A 9 = aF A 351 + 100000 := rfl
theorem qc_s (A : AT) {e : Nat} (h : e ≤ 3) : qCount A (nI (12 + e)) = aF A (303 + e) + 1000 := by
  rcases (show e = 0 ∨ e = 1 ∨ e = 2 ∨ e = 3 by omega) with rfl | rfl | rfl | rfl <;> rfl
theorem qc_12 (A : AT) : qCount A 12 = aF A 303 + 1000 := qc_s A (e := 0) (by omega)
theorem qc_13 (A : AT) : qCount A 13 = aF A 304 + 1000 := qc_s A (e := 1) (by omega)
theorem qc_14 (A : AT) : qCount A 14 = aF A 305 + 1000 := qc_s A (e := 2) (by omega)
theorem qc_15 (A : AT) : qCount A 15 = aF A 306 + 1000 := qc_s A (e := 3) (by omega)
theorem qc_16 (A : AT) : qCount A 16 = -2 := rfl
/-! days -/
theorem day_in {d : Nat} (h : d < 20) : ¬ inB (nI d) 0 19 = 0 := inB_nI (n := 19) rfl (by omega) (by omega)
theorem qd_0 (A : AT) {d : Nat} (h : d < 20) : qDayOf A (nI d) 0 = aF A d + 1000 := by
  unfold qDayOf
  rw [if_neg (day_in h), if_pos rfl, nI_clamp (by omega)]
theorem qd_1 (A : AT) {d : Nat} (h : d < 20) : qDayOf A (nI d) 1 = rToldOf (aF A) d + 1000 := by
  unfold qDayOf
  rw [if_neg (day_in h), if_neg (by decide), if_pos rfl, nI_clamp (by omega)]
theorem qd_2 (A : AT) {d : Nat} (h : d < 20) : qDayOf A (nI d) 2 = if nI d < aF A 300 then aF A (40 + d) + 1000 else -5 := by
  unfold qDayOf
  rw [if_neg (day_in h), if_neg (by decide), if_neg (by decide), if_pos rfl, nI_clamp (by omega)]
theorem qd_3 (A : AT) {d : Nat} (h : d < 20) : qDayOf A (nI d) 3 = if nI d < aF A 300 then aF A (40 + d) - aF A (20 + d) + 1000 else -5 := by
  unfold qDayOf
  rw [if_neg (day_in h), if_neg (by decide), if_neg (by decide), if_neg (by decide), if_pos rfl, nI_clamp (by omega)]
theorem qd_4 (A : AT) {d : Nat} (h : d < 20) : qDayOf A (nI d) 4 = b01 (rToldOf (aF A) d ≤ aF A 305) := by
  unfold qDayOf
  rw [if_neg (day_in h), if_neg (by decide), if_neg (by decide), if_neg (by decide), if_neg (by decide), if_pos rfl, nI_clamp (by omega)]
/-- a day that is measured, one that isn't -/
theorem dm {A : AT} {B d : Nat} (hV : AV A B) (h : d < dN (aF A)) : nI d < aF A 300 := by
  rw [hV.2.1.1.2]
  exact nI_lt h (by have := hV.2.1.1.1; omega)
theorem dn {A : AT} {B d : Nat} (hV : AV A B) (hd : d < 20) (h : ¬ d < dN (aF A)) : ¬ nI d < aF A 300 := by
  rw [hV.2.1.1.2]
  exact nI_nlt (by omega) (by omega)
theorem qd_2m {A : AT} {B d : Nat} (hV : AV A B) (hd : d < 20) (h : d < dN (aF A)) : qDayOf A (nI d) 2 = aF A (40 + d) + 1000 := by rw [qd_2 A hd, if_pos (dm hV h)]
theorem qd_2n {A : AT} {B d : Nat} (hV : AV A B) (hd : d < 20) (h : ¬ d < dN (aF A)) : qDayOf A (nI d) 2 = -5 := by rw [qd_2 A hd, if_neg (dn hV hd h)]
theorem qd_3m {A : AT} {B d : Nat} (hV : AV A B) (hd : d < 20) (h : d < dN (aF A)) : qDayOf A (nI d) 3 = nowM (aF A) d + 1000 := by
  rw [qd_3 A hd, if_pos (dm hV h)]
  unfold nowM
  rw [if_pos h]
theorem qd_3n {A : AT} {B d : Nat} (hV : AV A B) (hd : d < 20) (h : ¬ d < dN (aF A)) : qDayOf A (nI d) 3 = -5 := by rw [qd_3 A hd, if_neg (dn hV hd h)]
theorem told_m {A : AT} {B d : Nat} (hV : AV A B) (h : d < dN (aF A)) : rToldOf (aF A) d = aF A (20 + d) := if_pos (dm hV h)
theorem told_n {A : AT} {B d : Nat} (hV : AV A B) (hd : d < 20) (h : ¬ d < dN (aF A)) : rToldOf (aF A) d = rTold (aF A) d := if_neg (dn hV hd h)
/-! years that ended -/
theorem knB_in {f : Nat → Int32} {a d : Nat} (ha : a < kN f) (hd : d < 20) : ¬ knB f (nI a) (nI d) = 0 := by
  unfold knB
  rw [b01_pos ⟨sB_nI (by unfold kN; omega) ha, day_in hd⟩]
  decide
theorem knB_out {f : Nat → Int32} {a : Nat} {x : Int32} (ha9 : a < 1000) (ha : kN f ≤ a) : knB f (nI a) x = 0 := by
  unfold knB
  exact b01_neg (fun z => z.1 (sB_out ha9 (by unfold kN; omega) ha))
theorem qp_out (A : AT) {a : Nat} (ha9 : a < 1000) (ha : kN (aF A) ≤ a) (x y : Int32) : qPast A (nI a) x y = -1 := if_pos (knB_out ha9 ha)
theorem qm_out (A : AT) {a : Nat} (ha9 : a < 1000) (ha : kN (aF A) ≤ a) (x y : Int32) : qMean A (nI a) x y = -1 := if_pos (knB_out ha9 ha)
theorem kN4 (f : Nat → Int32) : kN f ≤ 4 := by unfold kN; omega
theorem qp_0 (A : AT) {a d : Nat} (ha : a < kN (aF A)) (hd : d < 20) : qPast A (nI a) (nI d) 0 = aF A (60 + 60 * a + d) + 1000 := by
  have := kN4 (aF A)
  unfold qPast
  rw [if_neg (knB_in ha hd), if_neg (by decide), nI_clamp (by omega), nI_clamp (by omega)]
  rfl
theorem qp_1 (A : AT) {a d : Nat} (ha : a < kN (aF A)) (hd : d < 20) : qPast A (nI a) (nI d) 1 = okM (aF A) a d + 1000 := by
  have := kN4 (aF A)
  unfold qPast
  rw [if_neg (knB_in ha hd), if_neg (by decide), nI_clamp (by omega), nI_clamp (by omega)]
  show aF A (60 + 60 * a + 20 * 1 + d) + 1000 = aF A (80 + 60 * a + d) + 1000
  rw [show 60 + 60 * a + 20 * 1 + d = 80 + 60 * a + d by omega]
theorem pSum_min (m : Nat → Int32) (d r : Nat) : ∀ n, mSum m d r n = pSum m (min n (d + r + 1)) - pSum m (min n (d - r))
  | 0 => by rw [Nat.zero_min, Nat.zero_min]; exact (Int32.sub_self (pSum m 0)).symm
  | n + 1 => by
    show mSum m d r n + (if d ≤ n + r ∧ n ≤ d + r then m n else 0) = _
    rw [pSum_min m d r n]
    have st : ∀ k, pSum m (k + 1) = pSum m k + m k := fun k => rfl
    by_cases h1 : d ≤ n + r
    · rw [show min (n + 1) (d - r) = d - r by omega, show min n (d - r) = d - r by omega]
      by_cases h2 : n ≤ d + r
      · rw [if_pos ⟨h1, h2⟩, show min (n + 1) (d + r + 1) = n + 1 by omega, show min n (d + r + 1) = n by omega, st]
        rw [Int32.sub_eq_add_neg, Int32.sub_eq_add_neg, Int32.add_assoc, Int32.add_assoc, Int32.add_comm (-_) (m n)]
      · rw [if_neg (fun z => h2 z.2), show min (n + 1) (d + r + 1) = d + r + 1 by omega, show min n (d + r + 1) = d + r + 1 by omega, Int32.add_zero]
    · rw [if_neg (fun z => h1 z.1), show min (n + 1) (d - r) = n + 1 by omega, show min n (d - r) = n by omega, show min (n + 1) (d + r + 1) = n + 1 by omega, show min n (d + r + 1) = n by omega, Int32.add_zero, Int32.sub_self, Int32.sub_self]
theorem mCnt_min (d r : Nat) : ∀ n, mCnt d r n = min n (d + r + 1) - min n (d - r)
  | 0 => by show 0 = _; omega
  | n + 1 => by
    show mCnt d r n + (if d ≤ n + r ∧ n ≤ d + r then 1 else 0) = _
    rw [mCnt_min d r n]
    split <;> omega
theorem mean_S (m : Nat → Int32) {d r : Nat} (hd : d < 20) : meanS m d r = mean m d r := by
  unfold meanS mean
  rw [pSum_min, mCnt_min, show min 20 (d - r) = d - r by omega]
theorem qm_0 (A : AT) {a d : Nat} (ha : a < kN (aF A)) (hd : d < 20) : qMean A (nI a) (nI d) 0 = mean (okM (aF A) a) d (rN (aF A)) + 1000 := by
  have := kN4 (aF A)
  unfold qMean
  rw [if_neg (knB_in ha hd), if_neg (by decide), if_pos rfl, nI_clamp (by omega), nI_clamp (by omega)]
theorem qm_1 (A : AT) {a d : Nat} (ha : a < kN (aF A)) (hd : d < 20) : qMean A (nI a) (nI d) 1 = mean (okM (aF A) a) d (rN (aF A)) + 1000 := by
  have := kN4 (aF A)
  unfold qMean
  rw [if_neg (knB_in ha hd), if_neg (by decide), if_neg (by decide), nI_clamp (by omega), nI_clamp (by omega), mean_S _ hd]
/-! saints, readers -/
theorem qs_0 (A : AT) {i : Nat} (hc : cN (aF A) ≤ 5) (hi : i < cN (aF A)) : qSaintOf A (nI i) 0 = aF A (308 + 4 * i) := by
  unfold qSaintOf
  rw [if_neg (sB_nI (by omega) hi), if_pos rfl, nI_clamp (by omega)]
  rfl
theorem qs_1 (A : AT) {i : Nat} (hc : cN (aF A) ≤ 5) (hi : i < cN (aF A)) : qSaintOf A (nI i) 1 = aF A (308 + 4 * i + 1) + 1000 := by
  unfold qSaintOf
  rw [if_neg (sB_nI (by omega) hi), if_neg (by decide), if_pos rfl, nI_clamp (by omega)]
theorem qs_2 (A : AT) {i : Nat} (hc : cN (aF A) ≤ 5) (hi : i < cN (aF A)) : qSaintOf A (nI i) 2 = aF A (308 + 4 * i + 2) + 1000 := by
  unfold qSaintOf
  rw [if_neg (sB_nI (by omega) hi), if_neg (by decide), if_neg (by decide), if_pos rfl, nI_clamp (by omega)]
theorem qs_3 (A : AT) {i : Nat} (hc : cN (aF A) ≤ 5) (hi : i < cN (aF A)) : qSaintOf A (nI i) 3 = aF A (308 + 4 * i + 3) := by
  unfold qSaintOf
  rw [if_neg (sB_nI (by omega) hi), if_neg (by decide), if_neg (by decide), if_neg (by decide), if_pos rfl, nI_clamp (by omega)]
theorem qs_4 (A : AT) {i : Nat} (hc : cN (aF A) ≤ 5) (hi : i < cN (aF A)) : qSaintOf A (nI i) 4 = b01 (rTells (aF A) i) := by
  unfold qSaintOf
  rw [if_neg (sB_nI (by omega) hi), if_neg (by decide), if_neg (by decide), if_neg (by decide), if_neg (by decide), if_pos rfl, nI_clamp (by omega)]
theorem qr_j (A : AT) {k j : Nat} (hk : k < 4) (hj : j < 5) : qReaderOf A (nI k) (nI j) = aF A (328 + 5 * k + j) := by
  unfold qReaderOf
  rw [if_neg (inB_nI (n := 3) rfl (by omega) (by omega)), if_neg (inB_nI (n := 4) rfl (by omega) (by omega)), nI_clamp (by omega), nI_clamp (by omega)]
theorem qn_d (A : AT) {d : Nat} (hd : d < 20) : qNext A (nI d) = bnd (aF A d + mean (nowM (aF A)) d (rN (aF A)) * aF A 304 / 100) + 1000 := by
  unfold qNext
  rw [if_neg (day_in hd), nI_clamp (by omega)]
/-! sizes, reach -/
theorem szI_eq (v : Int32) : (if 0 ≤ v then v else -v) = szI v := by
  unfold szI
  by_cases h : v < 0
  · rw [if_pos h, if_neg (by rw [Int32.lt_iff_toInt_lt] at h; rw [Int32.le_iff_toInt_le]; omega)]
  · rw [if_neg h, if_pos (by rw [Int32.lt_iff_toInt_lt] at h; rw [Int32.le_iff_toInt_le]; omega)]
theorem sz_sub {a b : Nat} (ha : a < 1000) (hb : b < 1000) : szI (nI a - nI b) = nI (if a < b then b - a else a - b) := by
  unfold szI
  have e : (nI a - nI b).toInt = (a : Int) - b := pk_sub_toInt (by omega) (by omega)
  by_cases h : a < b
  · rw [if_pos (by rw [Int32.lt_iff_toInt_lt, e]; show _ < (0 : Int); omega), if_pos h, Int32.neg_sub]
    exact pk_sub (by omega)
  · rw [if_neg (by rw [Int32.lt_iff_toInt_lt, e]; show ¬ _ < (0 : Int); omega), if_neg h]
    exact pk_sub (by omega)
theorem sz_reach {k d r : Nat} (hk : k < 1000) (hd : d < 1000) (hr : r < 1000) : (nI r < szI (nI k - nI d)) ↔ ¬ (d ≤ k + r ∧ k ≤ d + r) := by
  rw [sz_sub hk hd, nI_ltI (by omega) (by split <;> omega)]
  split <;> omega
