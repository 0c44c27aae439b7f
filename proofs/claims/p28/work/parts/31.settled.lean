theorem upd_swap (f : Nat → Int32) {i j : Nat} (a b : Int32) (h : i ≠ j) : upd (upd f i a) j b = upd (upd f j b) i a := by
  funext z
  unfold upd
  by_cases h1 : z = j
  · rw [if_pos h1, if_neg (by omega), if_pos h1]
  · rw [if_neg h1, if_neg h1]
/-- purse, odds and readers -/
def SR (g : GS) (f : Nat → Int32) : Prop := g 0 12 = f 351 ∧ g 1 3 = f 306 ∧ ∀ k, k < 4 → ∀ j, j < 5 → g (35 + k) j = f (328 + 5 * k + j)
theorem SR_up {g : GS} {f : Nat → Int32} {k j : Nat} {v v' : Int32} (hk : k < 4) (hj : j < 5) (hS : SR g f) (e : v = v') : SR (up2 g (35 + k) j v) (upd f (328 + 5 * k + j) v') := by
  obtain ⟨a, b, c⟩ := hS
  refine ⟨by rw [up2_r _ _ _ (by omega), upd_n _ _ (by omega)]; exact a, by rw [up2_r _ _ _ (by omega), upd_n _ _ (by omega)]; exact b, fun k2 hk2 j2 hj2 => ?_⟩
  by_cases h1 : k2 = k
  · subst h1
    by_cases h2 : j2 = j
    · subst h2; rw [up2_s, upd_s, e]
    · rw [up2_i _ _ _ _ h2, upd_n _ _ (by omega)]; exact c k2 hk2 j2 hj2
  · rw [up2_r _ _ _ (by omega), upd_n _ _ (by omega)]; exact c k2 hk2 j2 hj2
theorem SR_12 {g : GS} {f : Nat → Int32} {v v' : Int32} (hS : SR g f) (e : v = v') : SR (up2 g 0 12 v) (upd f 351 v') := by
  obtain ⟨a, b, c⟩ := hS
  refine ⟨by rw [up2_s, upd_s, e], by rw [up2_r _ _ _ (by omega), upd_n _ _ (by omega)]; exact b, fun k2 hk2 j2 hj2 => ?_⟩
  rw [up2_r _ _ _ (by omega), upd_n _ _ (by omega)]; exact c k2 hk2 j2 hj2
theorem SR_same {g : GS} {f : Nat → Int32} {k j : Nat} {v : Int32} (hk : k < 4) (hj : j < 5) (hS : SR g f) (e : v = f (328 + 5 * k + j)) : SR (up2 g (35 + k) j v) f := by
  have h := SR_up hk hj hS e
  rw [upd_self] at h
  exact h
theorem SR_win {g : GS} {f : Nat → Int32} {k : Nat} {a a' b b' : Int32} (hk : k < 4) (hS : SR g f) (ea : a = a') (eb : b = b') : SR (up2 (up2 g 0 12 a) (35 + k) 0 b) (upd (upd f (328 + 5 * k + 0) b') 351 a') := by
  rw [← upd_swap _ _ _ (show 351 ≠ 328 + 5 * k + 0 by omega)]
  exact SR_up hk (by omega) (SR_12 hS ea) eb
theorem cSet_sim {g : GS} {f : Nat → Int32} {k x o : Nat} {t z : Int32} (hk : k < 4) (hS : SR g f) (hx : x ≤ 1000) (h1 : f (328 + 5 * k + 1) = nI x) (h2 : f (328 + 5 * k + 2) = 0 ∨ f (328 + 5 * k + 2) = 1) (hb : f (328 + 5 * k + 1) = 0 → f (328 + 5 * k + 2) = 0) (ho1 : 1 ≤ o) (ho2 : o ≤ 9) (h306 : f 306 = nI o) : SR (cSet g k z t) (rSet f k t z) := by
  have hS0 := hS
  obtain ⟨a, b, c⟩ := hS
  have e1 : g (35 + k) 1 = f (328 + 5 * k + 1) := c k hk 1 (by omega)
  have e2 : g (35 + k) 2 = f (328 + 5 * k + 2) := c k hk 2 (by omega)
  have e0 : g (35 + k) 0 = f (328 + 5 * k + 0) := c k hk 0 (by omega)
  have e3 : g (35 + k) 3 = f (328 + 5 * k + 3) := c k hk 3 (by omega)
  have e4 : g (35 + k) 4 = f (328 + 5 * k + 4) := c k hk 4 (by omega)
  have hon : b01 (f (328 + 5 * k + 2) = 1) = f (328 + 5 * k + 2) := by
    rcases h2 with h | h
    · rw [h]; exact b01_neg (by decide)
    · rw [h]; exact b01_pos rfl
  rcases Nat.eq_zero_or_pos x with hx0 | hx0
  · subst hx0
    have z1 : f (328 + 5 * k + 1) = 0 := h1
    have z2 := hb z1
    unfold cSet
    rw [if_pos (show g (35 + k) 1 ≤ 0 by rw [e1, z1]; exact Int32.le_refl _)]
    unfold rSet
    rw [if_neg (by rw [z1]; decide)]
    unfold rSetE
    have u1 : upd f (328 + 5 * k + 1) 0 = f := by rw [← z1]; exact upd_self _ _
    have u2 : upd f (328 + 5 * k + 2) 0 = f := by rw [← z2]; exact upd_self _ _
    rw [u1, u2]
    exact hS0
  · have hp : (0 : Int32) < nI x := (nI_ltI (a := 0) (by omega) (by omega)).mpr hx0
    have hn : ¬ (0 : Int32) < -nI x := by
      have q : (nI x).toInt = x := nI_toInt (by omega)
      have q2 := i32_sub (x := 0) (y := nI x) (by decide) (by decide) (by omega) (by omega)
      rw [Int32.zero_sub, q] at q2
      rw [Int32.lt_iff_toInt_lt, q2]
      show ¬ (0 : Int) < (0 : Int) - x
      omega
    unfold cSet
    rw [if_neg (show ¬ g (35 + k) 1 ≤ 0 by rw [e1, h1]; exact Int32.not_le.mpr hp)]
    unfold rSet
    rw [if_pos (by rw [h1]; exact hp), hon]
    by_cases hz : f (328 + 5 * k + 2) = z
    · rw [if_pos hz]
      have hW : cW g k z t = rWin f k t := by
        unfold cW wiN rWin
        rw [e1, e2, b, if_pos hz.symm, hon]
        by_cases ht : t = f (328 + 5 * k + 2)
        · rw [if_pos ht, if_pos ht, Int32.mul_one]
        · rw [if_neg ht, if_neg ht]
      have hW2 : 0 < rWin f k t := by
        unfold rWin
        rw [h1, h306]
        split
        · rw [Int32.mul_one]; exact hp
        · rw [pk_mul]
          exact (nI_ltI (a := 0) (by omega) (Nat.lt_of_le_of_lt (Nat.mul_le_mul hx ho2) (by omega))).mpr (Nat.mul_pos hx0 ho1)
      rw [hW]
      unfold cSetB
      rw [if_pos hW2]
      unfold rSetE rSetA
      have hA : SR (cSetA g k (rWin f k t)) (upd (upd f (328 + 5 * k + 0) (f (328 + 5 * k + 0) + (f (328 + 5 * k + 1) + rWin f k t))) 351 (upd f (328 + 5 * k + 0) (f (328 + 5 * k + 0) + (f (328 + 5 * k + 1) + rWin f k t)) 351 - rWin f k t)) := by
        unfold cSetA
        refine SR_win hk hS0 ?_ ?_
        · rw [upd_n _ _ (by omega), a]
        · rw [up2_r _ _ _ (by omega), e0, e1]
      refine SR_up hk (by omega) (SR_up hk (by omega) (SR_up hk (by omega) hA ?_) rfl) rfl
      rw [hA.2.2 k hk 3 (by omega)]
    · rw [if_neg hz]
      have hW : cW g k z t = -nI x := by
        unfold cW wiN
        rw [e1, e2, if_neg (fun q => hz q.symm), h1]
      rw [hW]
      unfold cSetB
      rw [if_neg hn]
      unfold rSetE rSetB
      have hA : SR (cSetA g k (-nI x)) (upd f 351 (f 351 + f (328 + 5 * k + 1))) := by
        unfold cSetA
        refine SR_same hk (by omega) (SR_12 hS0 ?_) ?_
        · rw [a, h1, Int32.sub_neg]
        · rw [up2_r _ _ _ (by omega), e0, e1, h1, Int32.add_right_neg, Int32.add_zero, upd_n _ _ (by omega)]
      refine SR_up hk (by omega) (SR_up hk (by omega) (SR_up hk (by omega) hA ?_) rfl) rfl
      rw [hA.2.2 k hk 4 (by omega)]
theorem rSets_n2 (f : Nat → Int32) (t z : Int32) (i : Nat) : ∀ k, k ≤ 4 → (348 ≤ i ∨ 328 + 5 * k ≤ i) → i ≠ 351 → rSets f t z k i = f i
  | 0 => fun _ _ _ => rfl
  | k + 1 => fun hk h h2 => by
    show rSet (rSets f t z k) k t z i = f i
    rw [rSet_n _ _ _ _ _ (by omega) h2, rSets_n2 f t z i k (by omega) (by omega) h2]
def BZ (f : Nat → Int32) : Prop := ∀ k, k < 4 → f (328 + 5 * k + 1) = 0 → f (328 + 5 * k + 2) = 0
theorem cSets_sim {g : GS} {f : Nat → Int32} {t z : Int32} {o : Nat} (hS : SR g f) (hb : ∀ k, k < 4 → ∃ x, x ≤ 1000 ∧ f (328 + 5 * k + 1) = nI x ∧ (f (328 + 5 * k + 2) = 0 ∨ f (328 + 5 * k + 2) = 1)) (hz : BZ f) (ho1 : 1 ≤ o) (ho2 : o ≤ 9) (h306 : f 306 = nI o) : ∀ n, n ≤ 4 → SR (cSets g z t n) (rSets f t z n)
  | 0 => fun _ => hS
  | n + 1 => fun hn => by
    have ih := cSets_sim (t := t) (z := z) hS hb hz ho1 ho2 h306 n (by omega)
    obtain ⟨x, hx, h1, h2⟩ := hb n (by omega)
    have q1 : rSets f t z n (328 + 5 * n + 1) = f (328 + 5 * n + 1) := rSets_n2 _ _ _ _ _ (by omega) (by omega) (by omega)
    have q2 : rSets f t z n (328 + 5 * n + 2) = f (328 + 5 * n + 2) := rSets_n2 _ _ _ _ _ (by omega) (by omega) (by omega)
    exact cSet_sim (by omega) ih hx (by rw [q1]; exact h1) (by rw [q2]; exact h2) (by rw [q1, q2]; exact hz n (by omega)) ho1 ho2 (by rw [rSets_n _ _ _ _ (by omega) _ (by omega)]; exact h306)
theorem cSetA_r (g : GS) (k : Nat) (w : Int32) (c : Nat) (h1 : c ≠ 35 + k) (h2 : c ≠ 0) : cSetA g k w c = g c := by
  unfold cSetA
  rw [up2_r _ _ _ h1, up2_r _ _ _ h2]
theorem cSet_r (g : GS) (k : Nat) (z t : Int32) (c : Nat) (h1 : c ≠ 35 + k) (h2 : c ≠ 0) : cSet g k z t c = g c := by
  unfold cSet
  split
  · rfl
  · rw [up2_r _ _ _ h1, up2_r _ _ _ h1]
    unfold cSetB
    split
    · rw [up2_r _ _ _ h1, cSetA_r _ _ _ _ h1 h2]
    · rw [up2_r _ _ _ h1, cSetA_r _ _ _ _ h1 h2]
theorem cSets_r (g : GS) (z t : Int32) (c : Nat) (h1 : c < 35) (h2 : c ≠ 0) : ∀ n, cSets g z t n c = g c
  | 0 => rfl
  | n + 1 => by
    show cSet (cSets g z t n) n z t c = g c
    rw [cSet_r _ _ _ _ _ (by omega) h2, cSets_r g z t c h1 h2 n]
theorem cSet_0 (g : GS) (k : Nat) (z t : Int32) (i : Nat) (h : i ≠ 12) : cSet g k z t 0 i = g 0 i := by
  have hA : ∀ w, cSetA g k w 0 i = g 0 i := fun w => by
    unfold cSetA
    rw [up2_k _ _ _ _ (by omega), up2_i _ _ _ _ h]
  unfold cSet
  split
  · rfl
  · rw [up2_k _ _ _ _ (by omega), up2_k _ _ _ _ (by omega)]
    unfold cSetB
    split
    · rw [up2_k _ _ _ _ (by omega), hA]
    · rw [up2_k _ _ _ _ (by omega), hA]
theorem cSets_0 (g : GS) (z t : Int32) (i : Nat) (h : i ≠ 12) : ∀ n, cSets g z t n 0 i = g 0 i
  | 0 => rfl
  | n + 1 => by
    show cSet (cSets g z t n) n z t 0 i = g 0 i
    rw [cSet_0 _ _ _ _ _ h, cSets_0 g z t i h n]
theorem cnt_r (g : GS) (z t : Int32) (c : Nat) (h : c ≠ 0) : cnt g z t c = g c := by
  unfold cnt
  split
  · split
    · rfl
    · exact up2_r _ _ _ h
  · split
    · exact up2_r _ _ _ h
    · exact up2_r _ _ _ h
theorem cnt_0 (g : GS) (z t : Int32) (i : Nat) (h : i < 9 ∨ 11 < i) : cnt g z t 0 i = g 0 i := by
  unfold cnt
  split
  · split
    · rfl
    · exact up2_i _ _ _ _ (by omega)
  · split
    · exact up2_i _ _ _ _ (by omega)
    · exact up2_i _ _ _ _ (by omega)
theorem cnt_9 (g : GS) (z t : Int32) : cnt g z t 0 9 = g 0 9 + (if z = 0 then 0 else if t = 0 then 0 else 1) := by
  unfold cnt
  by_cases h1 : z = 0
  · rw [if_pos h1, if_pos h1, Int32.add_zero]
    by_cases h2 : t = 0
    · rw [if_pos h2]
    · rw [if_neg h2]; exact up2_i _ _ _ _ (by omega)
  · rw [if_neg h1, if_neg h1]
    by_cases h2 : t = 0
    · rw [if_pos h2, if_pos h2, Int32.add_zero]; exact up2_i _ _ _ _ (by omega)
    · rw [if_neg h2, if_neg h2]; exact up2_s _ _ _ _
theorem cnt_10 (g : GS) (z t : Int32) : cnt g z t 0 10 = g 0 10 + (if z = 0 then 0 else if t = 0 then 1 else 0) := by
  unfold cnt
  by_cases h1 : z = 0
  · rw [if_pos h1, if_pos h1, Int32.add_zero]
    by_cases h2 : t = 0
    · rw [if_pos h2]
    · rw [if_neg h2]; exact up2_i _ _ _ _ (by omega)
  · rw [if_neg h1, if_neg h1]
    by_cases h2 : t = 0
    · rw [if_pos h2, if_pos h2]; exact up2_s _ _ _ _
    · rw [if_neg h2, if_neg h2, Int32.add_zero]; exact up2_i _ _ _ _ (by omega)
theorem cnt_11 (g : GS) (z t : Int32) : cnt g z t 0 11 = g 0 11 + (if z = 0 then (if t = 0 then 0 else 1) else 0) := by
  unfold cnt
  by_cases h1 : z = 0
  · rw [if_pos h1, if_pos h1]
    by_cases h2 : t = 0
    · rw [if_pos h2, if_pos h2, Int32.add_zero]
    · rw [if_neg h2, if_neg h2]; exact up2_s _ _ _ _
  · rw [if_neg h1, if_neg h1, Int32.add_zero]
    by_cases h2 : t = 0
    · rw [if_pos h2]; exact up2_i _ _ _ _ (by omega)
    · rw [if_neg h2]; exact up2_i _ _ _ _ (by omega)
theorem rPre_lo (f : Nat → Int32) (w told : Int32) (d : Nat) (t z : Int32) (i : Nat) (h : i < 348) : rPre f w told d t z i = upd (upd f (20 + d) told) (40 + d) w i := by
  unfold rPre
  rw [upd_n _ _ (by omega), upd_n _ _ (by omega), upd_n _ _ (by omega)]
theorem rPre_348 (f : Nat → Int32) (w told : Int32) (d : Nat) (t z : Int32) (hd : d < 20) : rPre f w told d t z 348 = f 348 + (if z = 0 then 0 else if t = 0 then 0 else 1) := by
  unfold rPre
  rw [upd_n _ _ (by omega), upd_n _ _ (by omega), upd_s, upd_n _ _ (by omega), upd_n _ _ (by omega)]
theorem rPre_349 (f : Nat → Int32) (w told : Int32) (d : Nat) (t z : Int32) (hd : d < 20) : rPre f w told d t z 349 = f 349 + (if z = 0 then 0 else if t = 0 then 1 else 0) := by
  unfold rPre
  rw [upd_n _ _ (by omega), show (349 : Nat) = 348 + 1 from rfl, upd_s, upd_n _ _ (by omega), upd_n _ _ (by omega), upd_n _ _ (by omega)]
theorem rPre_350 (f : Nat → Int32) (w told : Int32) (d : Nat) (t z : Int32) (hd : d < 20) : rPre f w told d t z 350 = f 350 + (if z = 0 then (if t = 0 then 0 else 1) else 0) := by
  unfold rPre
  rw [show (350 : Nat) = 348 + 2 from rfl, upd_s, upd_n _ _ (by omega), upd_n _ _ (by omega), upd_n _ _ (by omega), upd_n _ _ (by omega)]
theorem sSum_set {m m' : Nat → Int32} {d : Nat} (hm : m d = 0) (h : ∀ j, j ≠ d → m' j = m j) : ∀ n, sSum m' n = sSum m n + (if d < n then szI (m' d) else 0)
  | 0 => by rw [if_neg (by omega), Int32.add_zero]; rfl
  | n + 1 => by
    show sSum m' n + szI (m' n) = sSum m n + szI (m n) + _
    rw [sSum_set hm h n]
    by_cases e : d = n
    · subst e
      rw [if_neg (by omega), if_pos (by omega), hm, Int32.add_zero, show szI 0 = 0 from rfl, Int32.add_zero]
    · rw [h n (by omega)]
      by_cases e2 : d < n
      · rw [if_pos e2, if_pos (by omega), Int32.add_assoc, Int32.add_comm (szI (m' d)), ← Int32.add_assoc]
      · rw [if_neg e2, if_neg (by omega), Int32.add_zero, Int32.add_zero]
theorem sSum_0 {m : Nat → Int32} (h : ∀ j, m j = 0) : ∀ n, sSum m n = 0
  | 0 => rfl
  | n + 1 => by
    show sSum m n + szI (m n) = 0
    rw [sSum_0 h n, h n]
    rfl
