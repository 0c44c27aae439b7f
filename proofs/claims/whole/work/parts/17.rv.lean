theorem dN_eq {f : Nat → Int32} {n : Nat} (h : f 300 = nI n) (hn : n < 2 ^ 31) : dN f = n := by
  unfold dN
  rw [h, nI_clamp hn]
theorem RV_of {f : Nat → Int32} {B d y r c : Nat} (hd : d < 20) (h0 : f 300 = nI d) (hy : y ≤ B) (hB : B < 2 ^ 31) (h1 : f 301 = nI y) (h2 : f 302 = nI (min y 4)) (hr : r ≤ 9) (h3 : f 303 = nI r) (ho : ∃ o, 1 ≤ o ∧ o ≤ 9 ∧ f 306 = nI o) (hs : rSn f c) (hb : ∀ k, k < 4 → ∃ x, x ≤ 1000 ∧ f (328 + 5 * k + 1) = nI x ∧ (f (328 + 5 * k + 2) = 0 ∨ f (328 + 5 * k + 2) = 1)) : RV f B := by
  have e1 : dN f = d := dN_eq h0 (by omega)
  have e2 : yN f = y := by unfold yN; rw [h1, nI_clamp (by omega)]
  have e3 : rN f = r := by unfold rN; rw [h3, nI_clamp (by omega)]
  have hc := hs.1
  have e4 : cN f = c := by unfold cN; rw [hs.2.1, nI_clamp (by omega)]
  unfold RV
  rw [e1, e2, e3, e4]
  exact ⟨⟨hd, h0⟩, ⟨hy, h1, h2⟩, ⟨hr, h3⟩, ho, hs, hb⟩
theorem rSn_congr {f f' : Nat → Int32} {c : Nat} (h : ∀ i, 307 ≤ i → i < 328 → f' i = f i) (hs : rSn f c) : rSn f' c := by
  refine ⟨hs.1, by rw [h 307 (by omega) (by omega)]; exact hs.2.1, fun i hi => ?_⟩
  have hc := hs.1
  rw [h (308 + 4 * i) (by omega) (by omega)]
  exact hs.2.2 i hi
theorem RV_congr {f f' : Nat → Int32} {B : Nat} (hB : B < 2 ^ 31) (h : ∀ i, i < 354 → f' i = f i) (hv : RV f B) : RV f' B := by
  obtain ⟨⟨a1, a2⟩, ⟨b1, b2, b3⟩, ⟨c1, c2⟩, ho, hs, hb⟩ := hv
  refine RV_of a1 (by rw [h 300 (by omega)]; exact a2) b1 hB (by rw [h 301 (by omega)]; exact b2) (by rw [h 302 (by omega)]; exact b3) c1 (by rw [h 303 (by omega)]; exact c2) (by rw [h 306 (by omega)]; exact ho) (rSn_congr (fun i _ h2 => h i (by omega)) hs) (fun k hk => ?_)
  rw [h (328 + 5 * k + 1) (by omega), h (328 + 5 * k + 2) (by omega)]
  exact hb k hk
theorem RV_mono {f : Nat → Int32} {B B' : Nat} (h : B ≤ B') (hv : RV f B) : RV f B' := ⟨hv.1, ⟨by have := hv.2.1.1; omega, hv.2.1.2⟩, hv.2.2⟩
theorem rSet_z (f : Nat → Int32) (k : Nat) (t z : Int32) : rSet f k t z (328 + 5 * k + 1) = 0 ∧ rSet f k t z (328 + 5 * k + 2) = 0 := by
  have key : ∀ g : Nat → Int32, rSetE g k (328 + 5 * k + 1) = 0 ∧ rSetE g k (328 + 5 * k + 2) = 0 := fun g => by
    unfold rSetE
    exact ⟨by rw [upd_n _ _ (by omega), upd_s], upd_s _ _ _⟩
  unfold rSet
  split
  · split
    · exact key _
    · exact key _
  · exact key _
theorem rSets_z (f : Nat → Int32) (t z : Int32) (k : Nat) : ∀ n, k < n → n ≤ 4 → rSets f t z n (328 + 5 * k + 1) = 0 ∧ rSets f t z n (328 + 5 * k + 2) = 0
  | 0 => fun h _ => absurd h (by omega)
  | n + 1 => fun h hn => by
    show rSet (rSets f t z n) n t z _ = 0 ∧ rSet (rSets f t z n) n t z _ = 0
    by_cases e : k = n
    · subst e; exact rSet_z _ _ _ _
    · rw [rSet_n _ _ _ _ _ (by omega) (by omega), rSet_n _ _ _ _ _ (by omega) (by omega)]
      exact rSets_z f t z k n (by omega) (by omega)
theorem rMid_z (f : Nat → Int32) (w told : Int32) (d : Nat) (t z : Int32) (k : Nat) (hk : k < 4) : rMid f w told d t z (328 + 5 * k + 1) = 0 ∧ rMid f w told d t z (328 + 5 * k + 2) = 0 := by
  unfold rMid
  rw [upd_n _ _ (by omega), upd_n _ _ (by omega), upd_n _ _ (by omega), upd_n _ _ (by omega), upd_n _ _ (by omega), upd_n _ _ (by omega)]
  exact rSets_z _ _ _ _ 4 hk (by omega)
theorem rEnd3_n (f : Nat → Int32) (r i : Nat) (h : 300 ≤ i) : rEnd3 f r i = f i := by
  unfold rEnd3
  rw [e3Row_n _ _ _ _ _ (by omega)]
  unfold rEnd2
  rw [e2Row_n _ _ _ _ (by omega) (by omega)]
  unfold rEnd1 e1Row
  rw [if_neg (by omega)]
theorem rEnds_n (f : Nat → Int32) (r i : Nat) (h : 303 ≤ i) : rEnds f r i = f i := by
  unfold rEnds
  rw [upd_n _ _ (by omega), upd_n _ _ (by omega), upd_n _ _ (by omega), rEnd3_n _ _ _ (by omega)]
theorem rEnds_300 (f : Nat → Int32) (r : Nat) : rEnds f r 300 = 0 := by
  unfold rEnds
  rw [upd_n _ _ (by omega), upd_s]
theorem rEnds_301 (f : Nat → Int32) (r : Nat) : rEnds f r 301 = f 301 + 1 := by
  unfold rEnds
  rw [upd_s, upd_n _ _ (by omega), upd_n _ _ (by omega), rEnd3_n _ _ _ (by omega)]
theorem rEnds_302 (f : Nat → Int32) (r : Nat) : rEnds f r 302 = f 302 + (if f 302 < 4 then 1 else 0) := by
  unfold rEnds
  rw [upd_n _ _ (by omega), upd_n _ _ (by omega), upd_s, rEnd3_n _ _ _ (by omega)]
theorem rMid_300 (f : Nat → Int32) (w told : Int32) (d : Nat) (t z : Int32) : rMid f w told d t z 300 = nI (d + 1) := upd_s _ _ _
theorem RV_meas {f : Nat → Int32} {B : Nat} (hB : B + 1 < 2 ^ 31) (hv : RV f B) (w : Int32) : RV (rMeas f w (dN f) (rN f)) (B + 1) := by
  obtain ⟨⟨a1, a2⟩, ⟨b1, b2, b3⟩, ⟨c1, c2⟩, ho, hs, hb⟩ := hv
  have hm : ∀ i, 60 ≤ i → i < 328 → i ≠ 300 → rGo f w (dN f) i = f i := fun i h1 h2 h3 => rMid_n _ _ _ _ _ _ _ a1 (by omega) h2 h3
  have hz : ∀ k, k < 4 → rGo f w (dN f) (328 + 5 * k + 1) = 0 ∧ rGo f w (dN f) (328 + 5 * k + 2) = 0 := fun k hk => rMid_z _ _ _ _ _ _ _ hk
  have h3 : rGo f w (dN f) 300 = nI (dN f + 1) := rMid_300 _ _ _ _ _ _
  unfold rMeas
  split
  · rename_i e
    refine RV_of (d := 0) (y := yN f + 1) (r := rN f) (c := cN f) (by omega) (by rw [rEnds_300]; rfl) (by omega) (by omega) (by rw [rEnds_301, hm 301 (by omega) (by omega) (by omega), b2]; exact nI_1 _) ?_ c1 (by rw [rEnds_n _ _ _ (by omega), hm 303 (by omega) (by omega) (by omega)]; exact c2) ?_ (rSn_congr (fun i h1 h2 => by rw [rEnds_n _ _ _ (by omega), hm i (by omega) (by omega) (by omega)]) hs) (fun k hk => ⟨0, by omega, ?_, Or.inl ?_⟩)
    · rw [rEnds_302, hm 302 (by omega) (by omega) (by omega), b3]
      by_cases e4 : yN f < 4
      · rw [if_pos (show nI (min (yN f) 4) < 4 from (nI_ltI (b := 4) (by omega) (by omega)).mpr (by omega)), show min (yN f) 4 = yN f by omega, show min (yN f + 1) 4 = yN f + 1 by omega]
        exact nI_1 _
      · rw [if_neg (fun z => e4 (by have := (nI_ltI (a := min (yN f) 4) (b := 4) (by omega) (by omega)).mp z; omega)), show min (yN f) 4 = 4 by omega, show min (yN f + 1) 4 = 4 by omega]
        rfl
    · rw [rEnds_n _ _ _ (by omega), hm 306 (by omega) (by omega) (by omega)]; exact ho
    · rw [rEnds_n _ _ _ (by omega)]; exact (hz k hk).1
    · rw [rEnds_n _ _ _ (by omega)]; exact (hz k hk).2
  · rename_i e
    exact RV_of (d := dN f + 1) (y := yN f) (r := rN f) (c := cN f) (by omega) h3 (by omega) (by omega) (by rw [hm 301 (by omega) (by omega) (by omega)]; exact b2) (by rw [hm 302 (by omega) (by omega) (by omega)]; exact b3) c1 (by rw [hm 303 (by omega) (by omega) (by omega)]; exact c2) (by rw [hm 306 (by omega) (by omega) (by omega)]; exact ho) (rSn_congr (fun i h1 h2 => hm i (by omega) (by omega) (by omega)) hs) (fun k hk => ⟨0, by omega, (hz k hk).1, Or.inl (hz k hk).2⟩)
/-! THE TEXT -/
def sg (tx : Nat → Int32) (ln i : Nat) : Int32 := if i < ln then tx i else -1
def dg (tx : Nat → Int32) (ln i : Nat) : Int32 := if inB (sg tx ln i) 48 57 = 0 then -1 else sg tx ln i - 48
abbrev nTwo (tx : Nat → Int32) (ln pl : Nat) (hi : Int32) : Prop := 0 < dg tx ln pl ∧ 0 ≤ dg tx ln (pl + 1) ∧ 10 * dg tx ln pl + dg tx ln (pl + 1) ≤ hi
def nEnd (tx : Nat → Int32) (ln pl : Nat) (lo hi : Int32) : Bool × Nat := if dg tx ln pl < 0 then (false, pl) else if dg tx ln pl = 0 ∧ 0 < lo then (false, pl) else if nTwo tx ln pl hi then (true, pl + 2) else (true, pl + 1)
def enc (x : Bool × Nat) : Int32 := match x with
  | (true, n) => nI n
  | (false, n) => -1 - nI n
def numIn (tx : Nat → Int32) (ln pl e : Nat) : Int32 := if e = pl + 1 then dg tx ln pl else 10 * dg tx ln pl + dg tx ln (pl + 1)
def wEnd (tx : Nat → Int32) (ln pl : Nat) : Bool × Nat := if sg tx ln pl = 45 then nEnd tx ln (pl + 1) 1 40 else nEnd tx ln pl 0 40
def dEnd (tx : Nat → Int32) (ln pl : Nat) : Bool × Nat := match wEnd tx ln pl with
  | (true, e) => if sg tx ln e = 42 then nEnd tx ln (e + 1) 1 20 else (true, e)
  | (false, e) => (false, e)
def fFault (tx : Nat → Int32) (ln : Nat) : Nat → Nat → Int32
  | 0, _ => -5
  | n + 1, pl => match dEnd tx ln pl with
    | (false, e) => nI e
    | (true, e) => if e = ln then -5 else if sg tx ln e = 59 then fFault tx ln n (e + 1) else nI e
def dWarm (tx : Nat → Int32) (ln pl : Nat) : Int32 := if sg tx ln pl = 45 then -numIn tx ln (pl + 1) (wEnd tx ln pl).2 else numIn tx ln pl (wEnd tx ln pl).2
def dMany (tx : Nat → Int32) (ln pl : Nat) : Int32 := if sg tx ln (wEnd tx ln pl).2 = 42 then numIn tx ln ((wEnd tx ln pl).2 + 1) (dEnd tx ln pl).2 else 1
theorem nEnd_b (tx : Nat → Int32) (ln pl : Nat) (lo hi : Int32) {b : Bool} {e : Nat} (h : nEnd tx ln pl lo hi = (b, e)) : pl ≤ e ∧ e ≤ pl + 2 ∧ (b = true → pl + 1 ≤ e ∧ 0 ≤ dg tx ln pl) := by
  unfold nEnd at h
  split at h
  · cases h; exact ⟨by omega, by omega, fun h => by cases h⟩
  · rename_i h0
    split at h
    · cases h; exact ⟨by omega, by omega, fun h => by cases h⟩
    · split at h
      · cases h; exact ⟨by omega, by omega, fun _ => ⟨by omega, Int32.not_lt.mp h0⟩⟩
      · cases h; exact ⟨by omega, by omega, fun _ => ⟨by omega, Int32.not_lt.mp h0⟩⟩
theorem wEnd_b (tx : Nat → Int32) (ln pl : Nat) {b : Bool} {e : Nat} (h : wEnd tx ln pl = (b, e)) : pl ≤ e ∧ e ≤ pl + 3 ∧ (b = true → pl + 1 ≤ e) := by
  unfold wEnd at h
  split at h
  · have := nEnd_b _ _ _ _ _ h
    exact ⟨by omega, by omega, fun hb => by have := (this.2.2 hb).1; omega⟩
  · have := nEnd_b _ _ _ _ _ h
    exact ⟨by omega, by omega, fun hb => by have := (this.2.2 hb).1; omega⟩
theorem dEnd_b (tx : Nat → Int32) (ln pl : Nat) {b : Bool} {e : Nat} (h : dEnd tx ln pl = (b, e)) : pl ≤ e ∧ e ≤ pl + 6 ∧ (b = true → pl + 1 ≤ e) := by
  obtain ⟨b1, e1, hw⟩ : ∃ b1 e1, wEnd tx ln pl = (b1, e1) := ⟨_, _, rfl⟩
  have hb := wEnd_b _ _ _ hw
  unfold dEnd at h
  rw [hw] at h
  cases b1 with
  | false => cases h; exact ⟨by omega, by omega, fun h => by cases h⟩
  | true =>
    have hb2 := hb.2.2 rfl
    dsimp only at h
    split at h
    · have := nEnd_b _ _ _ _ _ h
      exact ⟨by omega, by omega, fun hb => by have := (this.2.2 hb).1; omega⟩
    · cases h; exact ⟨by omega, by omega, fun _ => hb2⟩
theorem enc_neg {n : Nat} (h : n < 1000) : ¬ 0 ≤ (-1 : Int32) - nI n := by
  rw [Int32.le_iff_toInt_le, i32_sub (by decide) (by decide) (by rw [nI_toInt (by omega)]; omega) (by rw [nI_toInt (by omega)]; omega), nI_toInt (by omega), show (0 : Int32).toInt = 0 from rfl, show (-1 : Int32).toInt = -1 from rfl]
  omega
