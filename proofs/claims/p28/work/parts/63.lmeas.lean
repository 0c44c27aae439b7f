/-! A DAY THAT IS MEASURED -/
theorem meas_t {A : AT} {v : Int32} (hv : inR v) : tMeasure A v = aPut (aRem A) (rMeas (aF A) v (dN (aF A)) (rN (aF A))) := if_neg (inR_in hv)
theorem meas_q {A : AT} {v : Int32} (hv : inR v) : qMeasure A v = v - rTold (aF A) (dN (aF A)) + 1000 := if_neg (inR_in hv)
theorem meas_f {A : AT} {v : Int32} (hv : inR v) : aF (tMeasure A v) = rMeas (aF A) v (dN (aF A)) (rN (aF A)) := (congrArg aF (meas_t hv)).trans rfl
theorem rMeas_hi (f : Nat → Int32) (v : Int32) (d r : Nat) {i : Nat} (h : 303 ≤ i) : rMeas f v d r i = rGo f v d i := by
  unfold rMeas
  split
  · exact rEnds_n _ _ _ h
  · rfl
theorem rSets_kj {f : Nat → Int32} {t z : Int32} {k j : Nat} (hk : k < 4) (hj : j < 5) : ∀ n, k < n → n ≤ 4 → rSets f t z n (328 + 5 * k + j) = rSet (rSets f t z k) k t z (328 + 5 * k + j)
  | 0 => fun h _ => absurd h (by omega)
  | n + 1 => fun h hn => by
    by_cases e : k = n
    · subst e; rfl
    · show rSet (rSets f t z n) n t z _ = _
      rw [rSet_n _ _ _ _ _ (by omega) (by omega), rSets_kj hk hj n (by omega) (by omega)]
theorem on_eq {x : Int32} (h : x = 0 ∨ x = 1) : b01 (x = 1) = x := by
  rcases h with h | h
  · rw [h]; exact b01_neg (by decide)
  · rw [h]; exact b01_pos rfl
/-- one who was right, and had bet: 1 -/
def hit (n on z : Int32) : Int32 := if on = z ∧ 0 < n then 1 else 0
def hitn (n on z : Int32) : Int32 := if ¬ on = z ∧ 0 < n then 1 else 0
theorem rSet_34 {f : Nat → Int32} {k : Nat} {t z : Int32} (hk : k < 4) (h2 : f (328 + 5 * k + 2) = 0 ∨ f (328 + 5 * k + 2) = 1) : rSet f k t z (328 + 5 * k + 3) = f (328 + 5 * k + 3) + hit (f (328 + 5 * k + 1)) (f (328 + 5 * k + 2)) z ∧ rSet f k t z (328 + 5 * k + 4) = f (328 + 5 * k + 4) + hitn (f (328 + 5 * k + 1)) (f (328 + 5 * k + 2)) z := by
  have hE : ∀ (g : Nat → Int32) (j : Nat), j ≠ 328 + 5 * k + 1 → j ≠ 328 + 5 * k + 2 → rSetE g k j = g j := fun g j u1 u2 => by
    unfold rSetE
    rw [upd_n _ _ u2, upd_n _ _ u1]
  unfold rSet hit hitn
  by_cases hx : 0 < f (328 + 5 * k + 1)
  · rw [if_pos hx, on_eq h2]
    by_cases hz : f (328 + 5 * k + 2) = z
    · rw [if_pos hz, hE _ _ (by omega) (by omega), hE _ _ (by omega) (by omega), if_pos ⟨hz, hx⟩, if_neg (fun q => q.1 hz)]
      unfold rSetA
      rw [upd_s, upd_n _ _ (by omega), upd_n _ _ (by omega), upd_n _ _ (by omega), upd_n _ _ (by omega), upd_n _ _ (by omega), Int32.add_zero]
      exact ⟨rfl, rfl⟩
    · rw [if_neg hz, hE _ _ (by omega) (by omega), hE _ _ (by omega) (by omega), if_neg (fun q => hz q.1), if_pos ⟨hz, hx⟩]
      unfold rSetB
      rw [upd_s, upd_n _ _ (by omega), upd_n _ _ (by omega), upd_n _ _ (by omega), Int32.add_zero]
      exact ⟨rfl, rfl⟩
  · rw [if_neg hx, hE _ _ (by omega) (by omega), hE _ _ (by omega) (by omega), if_neg (fun q => hx q.2), if_neg (fun q => hx q.2), Int32.add_zero, Int32.add_zero]
    exact ⟨rfl, rfl⟩
theorem i32_sn (a b : Int32) : a - -b = a + b := by rw [Int32.sub_eq_add_neg, Int32.neg_neg]
theorem rSet_351 {f : Nat → Int32} {k x : Nat} {t z : Int32} (hx9 : x ≤ 1000) (h1 : f (328 + 5 * k + 1) = nI x) (h2 : f (328 + 5 * k + 2) = 0 ∨ f (328 + 5 * k + 2) = 1) (hk : k < 4) : rSet f k t z 351 = f 351 - wiN (f (328 + 5 * k + 1)) (f (328 + 5 * k + 2)) z t (f 306) := by
  have hE : ∀ (g : Nat → Int32), rSetE g k 351 = g 351 := fun g => by
    unfold rSetE
    rw [upd_n _ _ (by omega), upd_n _ _ (by omega)]
  unfold rSet
  rcases Nat.eq_zero_or_pos x with hx0 | hx0
  · rw [if_neg (by rw [h1, hx0]; decide), hE, h1, hx0, show nI 0 = 0 from rfl, wiN_0, Int32.sub_zero]
  · rw [if_pos (by rw [h1]; exact (nI_ltI (a := 0) (by omega) (by omega)).mpr hx0), on_eq h2]
    by_cases hz : f (328 + 5 * k + 2) = z
    · rw [if_pos hz, hE]
      unfold rSetA
      rw [upd_n _ _ (by omega), upd_s, upd_n _ _ (by omega)]
      unfold rWin wiN
      rw [if_pos hz.symm, on_eq h2, hz]
      by_cases ht : t = z
      · rw [if_pos ht, if_pos ht, Int32.mul_one]
      · rw [if_neg ht, if_neg ht]
    · rw [if_neg hz, hE]
      unfold rSetB
      rw [upd_n _ _ (by omega), upd_s]
      unfold wiN
      rw [if_neg (fun q => hz q.symm), i32_sn]
/-- what the first n readers win together -/
def wS (f : Nat → Int32) (z t : Int32) : Nat → Int32
  | 0 => 0
  | n + 1 => wS f z t n + wiN (f (328 + 5 * n + 1)) (f (328 + 5 * n + 2)) z t (f 306)
theorem rSets_351 {f : Nat → Int32} {z t : Int32} (hb : ∀ k, k < 4 → ∃ x, x ≤ 1000 ∧ f (328 + 5 * k + 1) = nI x ∧ (f (328 + 5 * k + 2) = 0 ∨ f (328 + 5 * k + 2) = 1)) : ∀ n, n ≤ 4 → rSets f t z n 351 = f 351 - wS f z t n
  | 0 => fun _ => by
    show f 351 = f 351 - 0
    rw [Int32.sub_zero]
  | n + 1 => fun hn => by
    obtain ⟨x, hx, h1, h2⟩ := hb n (by omega)
    have e1 : rSets f t z n (328 + 5 * n + 1) = f (328 + 5 * n + 1) := rSets_n2 _ _ _ _ n (by omega) (by omega) (by omega)
    have e2 : rSets f t z n (328 + 5 * n + 2) = f (328 + 5 * n + 2) := rSets_n2 _ _ _ _ n (by omega) (by omega) (by omega)
    show rSet (rSets f t z n) n t z 351 = _
    rw [rSet_351 hx (by rw [e1]; exact h1) (by rw [e2]; exact h2) (by omega), rSets_351 hb n (by omega), e1, e2, rSets_n f t z 306 (by omega) n (by omega)]
    show f 351 - wS f z t n - _ = f 351 - (wS f z t n + _)
    rw [Int32.sub_eq_add_neg, Int32.sub_eq_add_neg, Int32.sub_eq_add_neg, Int32.neg_add, Int32.sub_eq_add_neg, Int32.add_assoc]
section RG
variable {f : Nat → Int32} {B : Nat} {v : Int32}
theorem rPre_o (hV : RV f B) {i : Nat} (h1 : 60 ≤ i) (h2 : i < 348) : rPre f v (rTold f (dN f)) (dN f) (rT f (dN f)) (b01 (v ≤ 0)) i = f i := rPre_n _ _ _ _ _ _ _ hV.1.1 (by omega) (by omega)
theorem rG_351 (hV : RV f B) : rMeas f v (dN f) (rN f) 351 = f 351 - wS f (b01 (v ≤ 0)) (rT f (dN f)) 4 := by
  rw [rMeas_hi _ _ _ _ (by omega), rGo_hi f v (by omega) (by omega)]
  unfold rSettled
  rw [rSets_351 (fun k hk => by rw [rPre_o hV (by omega) (by omega), rPre_o hV (by omega) (by omega)]; exact hV.2.2.2.2.2 k hk) 4 (by omega), rPre_n _ _ _ _ _ _ _ hV.1.1 (by omega) (by omega)]
  congr 1
  have h : ∀ n, n ≤ 4 → wS (rPre f v (rTold f (dN f)) (dN f) (rT f (dN f)) (b01 (v ≤ 0))) (b01 (v ≤ 0)) (rT f (dN f)) n = wS f (b01 (v ≤ 0)) (rT f (dN f)) n := fun n => by
    induction n with
    | zero => intro _; rfl
    | succ n ih =>
      intro hn
      show wS _ _ _ n + wiN _ _ _ _ _ = wS _ _ _ n + wiN _ _ _ _ _
      rw [ih (by omega), rPre_o hV (by omega) (by omega), rPre_o hV (by omega) (by omega), rPre_o hV (by omega) (by omega)]
  exact h 4 (by omega)
theorem rG_hits (hV : RV f B) : rMeas f v (dN f) (rN f) 348 = f 348 + (if b01 (v ≤ 0) = 0 then 0 else if rT f (dN f) = 0 then 0 else 1) ∧ rMeas f v (dN f) (rN f) 349 = f 349 + (if b01 (v ≤ 0) = 0 then 0 else if rT f (dN f) = 0 then 1 else 0) ∧ rMeas f v (dN f) (rN f) 350 = f 350 + (if b01 (v ≤ 0) = 0 then (if rT f (dN f) = 0 then 0 else 1) else 0) := by
  have hd := hV.1.1
  have key : ∀ i, 348 ≤ i → i < 351 → rMeas f v (dN f) (rN f) i = rPre f v (rTold f (dN f)) (dN f) (rT f (dN f)) (b01 (v ≤ 0)) i := fun i h1 h2 => by
    rw [rMeas_hi _ _ _ _ (by omega), rGo_hi f v (by omega) (by omega)]
    unfold rSettled
    exact rSets_n2 _ _ _ _ 4 (by omega) (by omega) (by omega)
  exact ⟨by rw [key 348 (by omega) (by omega), rPre_348 _ _ _ _ _ _ hd], by rw [key 349 (by omega) (by omega), rPre_349 _ _ _ _ _ _ hd], by rw [key 350 (by omega) (by omega), rPre_350 _ _ _ _ _ _ hd]⟩
theorem rG_rd (hV : RV f B) {k : Nat} (hk : k < 4) : rMeas f v (dN f) (rN f) (328 + 5 * k + 1) = 0 ∧ rMeas f v (dN f) (rN f) (328 + 5 * k + 3) = f (328 + 5 * k + 3) + hit (f (328 + 5 * k + 1)) (f (328 + 5 * k + 2)) (b01 (v ≤ 0)) ∧ rMeas f v (dN f) (rN f) (328 + 5 * k + 4) = f (328 + 5 * k + 4) + hitn (f (328 + 5 * k + 1)) (f (328 + 5 * k + 2)) (b01 (v ≤ 0)) := by
  obtain ⟨x, hx, h1, h2⟩ := hV.2.2.2.2.2 k hk
  have key : ∀ j, j < 5 → rMeas f v (dN f) (rN f) (328 + 5 * k + j) = rSet (rSets (rPre f v (rTold f (dN f)) (dN f) (rT f (dN f)) (b01 (v ≤ 0))) (rT f (dN f)) (b01 (v ≤ 0)) k) k (rT f (dN f)) (b01 (v ≤ 0)) (328 + 5 * k + j) := fun j hj => by
    rw [rMeas_hi _ _ _ _ (by omega), rGo_hi f v (by omega) (by omega)]
    unfold rSettled
    exact rSets_kj hk hj 4 hk (by omega)
  have hs : ∀ j, j < 5 → rSets (rPre f v (rTold f (dN f)) (dN f) (rT f (dN f)) (b01 (v ≤ 0))) (rT f (dN f)) (b01 (v ≤ 0)) k (328 + 5 * k + j) = f (328 + 5 * k + j) := fun j hj => by
    rw [rSets_n2 _ _ _ _ k (by omega) (by omega) (by omega), rPre_o hV (by omega) (by omega)]
  have h34 := rSet_34 (f := rSets (rPre f v (rTold f (dN f)) (dN f) (rT f (dN f)) (b01 (v ≤ 0))) (rT f (dN f)) (b01 (v ≤ 0)) k) (k := k) (t := rT f (dN f)) (z := b01 (v ≤ 0)) hk (by rw [hs 2 (by omega)]; exact h2)
  rw [hs 1 (by omega), hs 2 (by omega), hs 3 (by omega), hs 4 (by omega)] at h34
  exact ⟨by rw [key 1 (by omega)]; exact (rSet_z _ _ _ _).1, by rw [key 3 (by omega)]; exact h34.1, by rw [key 4 (by omega)]; exact h34.2⟩
theorem rG_300 (hV : RV f B) : rMeas f v (dN f) (rN f) 300 = if dN f = 19 then 0 else nI (dN f + 1) := by
  unfold rMeas
  by_cases h : dN f = 19
  · rw [if_pos (by omega), if_pos h, rEnds_300]
  · rw [if_neg (by omega), if_neg h, rGo_300]
theorem rG_301 (hV : RV f B) : rMeas f v (dN f) (rN f) 301 = if dN f = 19 then f 301 + 1 else f 301 := by
  have hd := hV.1.1
  unfold rMeas
  by_cases h : dN f = 19
  · rw [if_pos (by omega), if_pos h, rEnds_301, rGo_mid f v hd (by omega) (by omega)]
  · rw [if_neg (by omega), if_neg h, rGo_mid f v hd (by omega) (by omega)]
/-- a day's base behind the day, but at the year's end -/
theorem rG_base (hV : RV f B) (h : ¬ dN f = 19) {k : Nat} (hk : k < 20) : rMeas f v (dN f) (rN f) k = f k := by
  unfold rMeas
  rw [if_neg (by omega), rGo_lo f v (by omega), upd_n _ _ (by omega), upd_n _ _ (by omega)]
/-- this year's mistakes, with a warmth for the last day -/
def lastM (f : Nat → Int32) (v : Int32) : Nat → Int32 := fun j => if j < 19 then nowM f j else v - rTold f 19
theorem rG_end (hV : RV f B) (h : dN f = 19) {k : Nat} (hk : k < 20) : rMeas f v (dN f) (rN f) k = bnd (f k + mean (lastM f v) k (rN f) * f 304 / 100) := by
  have hd := hV.1.1
  unfold rMeas
  rw [if_pos (by omega), rEnds_l _ _ hk, rGo_lo f v (by omega), upd_n _ _ (by omega), upd_n _ _ (by omega), rGo_mid f v hd (by omega) (by omega)]
  rw [mean_congr (m := mm (rGo f v (dN f))) (m' := lastM f v) k (rN f) (fun j hj => ?_)]
  unfold mm lastM
  rw [rGo_lo f v (by omega), rGo_lo f v (by omega), h]
  by_cases e : j < 19
  · rw [if_pos e, upd_n _ _ (by omega), upd_n _ _ (by omega), upd_n _ _ (by omega), upd_n _ _ (by omega)]
    unfold nowM
    rw [if_pos (by omega)]
  · rw [if_neg e, show j = 19 by omega, upd_s, upd_n _ _ (by omega), upd_s]
theorem rG_told (hV : RV f B) (h : ¬ dN f = 19) {k : Nat} (hk : k ≤ dN f) : rToldOf (rMeas f v (dN f) (rN f)) k = if k = dN f then rTold f (dN f) else f (20 + k) := by
  have hd := hV.1.1
  unfold rToldOf
  rw [if_pos (by rw [rG_300 hV, if_neg h]; exact nI_lt (by omega) (by omega))]
  unfold rMeas
  rw [if_neg (by omega), rGo_lo f v (by omega), upd_n _ _ (by omega)]
  by_cases e : k = dN f
  · rw [if_pos e, e, upd_s]
  · rw [if_neg e, upd_n _ _ (by omega)]
theorem rG_past (hV : RV f B) (h : dN f = 19) {k : Nat} (hk : k < 20) : rMeas f v (dN f) (rN f) (60 + k) - rMeas f v (dN f) (rN f) (80 + k) = if k = dN f then rTold f (dN f) else f (20 + k) := by
  have hd := hV.1.1
  unfold rMeas
  rw [if_pos (by omega), rEnds_m _ _ (by omega) (by omega), rEnds_m _ _ (by omega) (by omega), (rEnd2_a _ hk).2.1, (rEnd2_a _ hk).2.2, i32_ss, rGo_lo f v (by omega), upd_n _ _ (by omega)]
  by_cases e : k = dN f
  · rw [if_pos e, e, upd_s]
  · rw [if_neg e, upd_n _ _ (by omega)]
end RG
