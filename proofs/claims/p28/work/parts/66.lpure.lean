/-! YEARS THAT ENDED, MEANS, BOUNDS, RATES -/
theorem kN0_302 {A : AT} {B : Nat} (hV : AV A B) (h : kN (aF A) = 0) : aF A 302 = 0 := by
  have e := hV.2.1.2.1.2.2
  rw [e]
  show nI (kN (aF A)) = 0
  rw [h]
  rfl
theorem kN1_302 {A : AT} {B : Nat} (hV : AV A B) (h : 0 < kN (aF A)) : ¬ aF A 302 = 0 := by
  have e := hV.2.1.2.1.2.2
  have h4 := kN4 (aF A)
  rw [e]
  exact nI_ne0 (n := kN (aF A)) h (by omega)
theorem qc8_0 {A : AT} {B : Nat} (hV : AV A B) (h : kN (aF A) = 0) : qCount A 8 = -5 := by rw [qc_8, if_pos (kN0_302 hV h)]
theorem qc8_1 {A : AT} {B : Nat} (hV : AV A B) (h : 0 < kN (aF A)) : qCount A 8 = sSum (okM (aF A) 0) 20 := by rw [qc_8, if_neg (kN1_302 hV h)]
theorem qb_0 {A : AT} {B : Nat} (hV : AV A B) (h : kN (aF A) = 0) : qBound A 0 = -5 ∧ qBound A 1 = -5 := by
  unfold qBound
  exact ⟨by rw [if_neg (show ¬ inB (0 : Int32) 0 1 = 0 by decide), if_pos (kN0_302 hV h)], by rw [if_neg (show ¬ inB (1 : Int32) 0 1 = 0 by decide), if_pos (kN0_302 hV h)]⟩
theorem qb_1 {A : AT} {B : Nat} (hV : AV A B) (h : 0 < kN (aF A)) : qBound A 0 = (bB (aF A) 20).1 + 1000 ∧ qBound A 1 = (bB (aF A) 20).2 := by
  unfold qBound
  exact ⟨by rw [if_neg (show ¬ inB (0 : Int32) 0 1 = 0 by decide), if_neg (kN1_302 hV h), if_pos rfl], by rw [if_neg (show ¬ inB (1 : Int32) 0 1 = 0 by decide), if_neg (kN1_302 hV h), if_neg (show ¬ (1 : Int32) = 0 by decide)]⟩
theorem qp0_0 (A : AT) {d : Nat} (ha : 0 < kN (aF A)) (hd : d < 20) : qPast A 0 (nI d) 0 = aF A (60 + d) + 1000 := by
  have h := qp_0 A (a := 0) ha hd
  rw [show 60 + 60 * 0 + d = 60 + d by omega] at h
  exact h
theorem qp0_1 (A : AT) {d : Nat} (ha : 0 < kN (aF A)) (hd : d < 20) : qPast A 0 (nI d) 1 = aF A (80 + d) + 1000 := by
  have h := qp_1 A (a := 0) ha hd
  have e : okM (aF A) 0 d = aF A (80 + d) := by
    show aF A (80 + 60 * 0 + d) = _
    rw [show 80 + 60 * 0 + d = 80 + d by omega]
  rw [e] at h
  exact h
theorem reach_b {k d r : Nat} (hk : k < 1000) (hd : d < 1000) (hr : r < 1000) : (if nI r < szI (nI k - nI d) then (0 : Int32) else 1) = b01 (d ≤ k + r ∧ k ≤ d + r) := by
  by_cases h : d ≤ k + r ∧ k ≤ d + r
  · rw [if_neg (fun z => (sz_reach hk hd hr).mp z h), b01_pos h]
  · rw [if_pos ((sz_reach hk hd hr).mpr h), b01_neg h]
theorem reach_if {k d r : Nat} {x : Int32} (hk : k < 1000) (hd : d < 1000) (hr : r < 1000) : (if nI r < szI (nI k - nI d) then (0 : Int32) else x) = if d ≤ k + r ∧ k ≤ d + r then x else 0 := by
  by_cases h : d ≤ k + r ∧ k ≤ d + r
  · rw [if_neg (fun z => (sz_reach hk hd hr).mp z h), if_pos h]
  · rw [if_pos ((sz_reach hk hd hr).mpr h), if_neg h]
theorem b01_if (p : Prop) [Decidable p] (x : Int32) : (if b01 p = 0 then (0 : Int32) else x) = if p then x else 0 := by
  by_cases h : p
  · rw [if_neg (by rw [b01_pos h]; decide), if_pos h]
  · rw [if_pos (b01_neg h), if_neg h]
theorem cnt_1 {d r k : Nat} : nI (mCnt d r k) + b01 (d ≤ k + r ∧ k ≤ d + r) = nI (mCnt d r (k + 1)) := by
  show _ = nI (mCnt d r k + (if d ≤ k + r ∧ k ≤ d + r then 1 else 0))
  by_cases h : d ≤ k + r ∧ k ≤ d + r
  · rw [b01_pos h, if_pos h]; exact nI_1 _
  · rw [b01_neg h, if_neg h, Int32.add_zero]; rfl
theorem cnt_nz {d r k : Nat} (hk : k = 20) (hd : d < 20) : ¬ nI (mCnt d r k) = 0 := by
  subst hk
  have h1 := mCnt_pos d r 20 hd
  have h2 := mCnt_le d r 20
  exact nI_ne0 (by omega) (by omega)
theorem mean_k {m : Nat → Int32} {d r k : Nat} (hk : k = 20) : mSum m d r k / nI (mCnt d r k) = mean m d r := by
  subst hk
  rfl
theorem r_lo {v : Int32} (h : inR v) : ¬ v < -40 := by
  rw [Int32.lt_iff_toInt_lt]
  have e : (-40 : Int32).toInt = -40 := rfl
  have := h.1
  omega
theorem r_hi {v : Int32} (h : inR v) : ¬ 40 < v := by
  rw [Int32.lt_iff_toInt_lt]
  have e : (40 : Int32).toInt = 40 := rfl
  have := h.2
  omega
theorem r_le {v : Int32} (h : inR v) : v ≤ 40 := by
  rw [Int32.le_iff_toInt_le]
  have e : (40 : Int32).toInt = 40 := rfl
  have := h.2
  omega
theorem last_eq {A : AT} {B k : Nat} {v : Int32} (hV : AV A B) (h19 : dN (aF A) = 19) (hk : k < 20) : (if (19 : Int32) ≤ nI k then v - rToldOf (aF A) 19 else nowM (aF A) k) = lastM (aF A) v k := by
  unfold lastM
  have l : ((19 : Int32) ≤ nI k) ↔ 19 ≤ k := nI_leI (a := 19) (b := k) (by omega) (by omega)
  by_cases h : k < 19
  · rw [if_neg (fun z => absurd (l.mp z) (by omega)), if_pos h]
  · rw [if_pos (l.mpr (by omega)), if_neg h, told_n hV (by omega) (by omega)]
/-! bounds -/
def iI (c : Int) : Int32 := Int32.ofInt c
def bI (j : Nat) : Int32 := iI ((j : Int) - 20)
theorem iI_t {c : Int} (h1 : -1000 ≤ c) (h2 : c ≤ 1000) : (iI c).toInt = c := Int32.toInt_ofInt_of_le (by omega) (by omega)
theorem bI_1 (j : Nat) : bI j + Int32.ofInt 1 = bI (j + 1) := by
  unfold bI iI
  rw [← Int32.ofInt_add, show (j : Int) - 20 + 1 = ((j + 1 : Nat) : Int) - 20 by omega]
theorem bI_20 {j : Nat} (h : j ≤ 41) : ((20 : Int32) < bI j) ↔ 40 < j := by
  rw [Int32.lt_iff_toInt_lt]
  unfold bI
  rw [iI_t (by omega) (by omega)]
  have e : (20 : Int32).toInt = 20 := rfl
  rw [e]
  omega
theorem i32_cc (a b c : Int32) : a + c - (b + c) = a - b := by
  rw [Int32.sub_eq_add_neg, Int32.neg_add, Int32.sub_eq_add_neg, Int32.sub_eq_add_neg, Int32.add_assoc, Int32.add_comm (-b), ← Int32.add_assoc c, Int32.add_right_neg, Int32.zero_add]
theorem frost_eq {v : Int32} (h : inR v) : (if (1000 : Int32) < v + 1000 then (0 : Int32) else 1) = b01 (v ≤ 0) := by
  have e : (1000 : Int32).toInt = 1000 := rfl
  have e0 : (0 : Int32).toInt = 0 := rfl
  by_cases h2 : v ≤ 0
  · rw [b01_pos h2, if_neg (by rw [Int32.lt_iff_toInt_lt, rng_t h]; rw [Int32.le_iff_toInt_le] at h2; omega)]
  · rw [b01_neg h2, if_pos (by rw [Int32.lt_iff_toInt_lt, rng_t h]; rw [Int32.le_iff_toInt_le] at h2; omega)]
/-- the law's own search -/
def LB (f : Nat → Int32) : Nat → Int32 × Int32
  | 0 => (0, 100)
  | j + 1 => (if wr f (bI j) 20 < (LB f j).2 then bI j else if wr f (bI j) 20 = (LB f j).2 ∧ szI (bI j) < szI (LB f j).1 then bI j else (LB f j).1, if wr f (bI j) 20 < (LB f j).2 then wr f (bI j) 20 else (LB f j).2)
theorem near_eq (n p b q : Int32) : (if n = p then (if szI q ≤ szI b then (0 : Int32) else 1) else 0) = b01 (n = p ∧ szI b < szI q) := by
  by_cases h : n = p
  · rw [if_pos h]
    by_cases h2 : szI q ≤ szI b
    · rw [if_pos h2, b01_neg (fun z => by have h3 := z.2; rw [Int32.lt_iff_toInt_lt] at h3; rw [Int32.le_iff_toInt_le] at h2; omega)]
    · rw [if_neg h2, b01_pos ⟨h, by rw [Int32.lt_iff_toInt_lt]; rw [Int32.le_iff_toInt_le] at h2; omega⟩]
  · rw [if_neg h, b01_neg (fun z => h z.1)]
theorem lb_1 {f : Nat → Int32} {j k : Nat} (hk : k = 20) : (if wr f (bI j) k < (LB f j).2 then bI j else if b01 (wr f (bI j) k = (LB f j).2 ∧ szI (bI j) < szI (LB f j).1) = 0 then (LB f j).1 else bI j) = (LB f (j + 1)).1 := by
  subst hk
  show _ = (if wr f (bI j) 20 < (LB f j).2 then bI j else if wr f (bI j) 20 = (LB f j).2 ∧ szI (bI j) < szI (LB f j).1 then bI j else (LB f j).1)
  by_cases h : wr f (bI j) 20 < (LB f j).2
  · rw [if_pos h, if_pos h]
  · rw [if_neg h, if_neg h]
    by_cases h2 : wr f (bI j) 20 = (LB f j).2 ∧ szI (bI j) < szI (LB f j).1
    · rw [if_neg (by rw [b01_pos h2]; decide), if_pos h2]
    · rw [if_pos (b01_neg h2), if_neg h2]
theorem lb_2 {f : Nat → Int32} {j k : Nat} (hk : k = 20) : (if (LB f j).2 ≤ wr f (bI j) k then (LB f j).2 else wr f (bI j) k) = (LB f (j + 1)).2 := by
  subst hk
  show _ = (if wr f (bI j) 20 < (LB f j).2 then wr f (bI j) 20 else (LB f j).2)
  by_cases h : wr f (bI j) 20 < (LB f j).2
  · rw [if_pos h, if_neg (by rw [Int32.lt_iff_toInt_lt] at h; rw [Int32.le_iff_toInt_le]; omega)]
  · rw [if_neg h, if_pos (by rw [Int32.lt_iff_toInt_lt] at h; rw [Int32.le_iff_toInt_le]; omega)]
theorem wr_rng (f : Nat → Int32) (b : Int32) : ∀ n, n ≤ 20 → 0 ≤ (wr f b n).toInt ∧ (wr f b n).toInt ≤ n
  | 0 => fun _ => ⟨Int.le_refl _, Int.le_refl _⟩
  | n + 1 => fun hn => by
    have ih := wr_rng f b n (by omega)
    show 0 ≤ (wr f b n + _).toInt ∧ (wr f b n + _).toInt ≤ _
    have e0 : (0 : Int32).toInt = 0 := rfl
    have e1 : (1 : Int32).toInt = 1 := rfl
    split
    · rw [i32_add (by omega) (by omega) (by rw [e0]; omega) (by rw [e0]; omega), e0]; omega
    · rw [i32_add (by omega) (by omega) (by rw [e1]; omega) (by rw [e1]; omega), e1]; omega
def wI (f : Nat → Int32) (c : Int) : Int := (wr f (iI c) 20).toInt
theorem wI_rng (f : Nat → Int32) (c : Int) : 0 ≤ wI f c ∧ wI f c ≤ 20 := wr_rng f (iI c) 20 (Nat.le_refl _)
/-- c is before d: fewer faults, or as many and nearer to 0, or as near and below -/
def bef (f : Nat → Int32) (c d : Int) : Prop := wI f c < wI f d ∨ (wI f c = wI f d ∧ (c.natAbs < d.natAbs ∨ (c.natAbs = d.natAbs ∧ c ≤ d)))
theorem bef_anti {f : Nat → Int32} {c d : Int} (h1 : bef f c d) (h2 : bef f d c) : c = d := by
  unfold bef at h1 h2
  omega
theorem sz_iI {c : Int} (h1 : -1000 ≤ c) (h2 : c ≤ 1000) : (szI (iI c)).toInt = (c.natAbs : Int) := by
  unfold szI
  have e := iI_t h1 h2
  have e0 : (0 : Int32).toInt = 0 := rfl
  by_cases h : iI c < 0
  · rw [if_pos h]
    rw [Int32.lt_iff_toInt_lt, e, e0] at h
    have e3 : -iI c = 0 - iI c := (Int32.zero_sub _).symm
    rw [e3, i32_sub (by rw [e0]; omega) (by rw [e0]; omega) (by omega) (by omega), e, e0]
    omega
  · rw [if_neg h]
    rw [Int32.lt_iff_toInt_lt, e, e0] at h
    rw [e]
    omega
def isBest (f : Nat → Int32) (lo hi : Int) (p : Int32 × Int32) : Prop := ∃ c : Int, lo ≤ c ∧ c ≤ hi ∧ p.1 = iI c ∧ p.2 = wr f (iI c) 20 ∧ ∀ d : Int, lo ≤ d → d ≤ hi → bef f c d
theorem isBest_eq {f : Nat → Int32} {lo hi : Int} {p q : Int32 × Int32} (hp : isBest f lo hi p) (hq : isBest f lo hi q) : p = q := by
  obtain ⟨c, c1, c2, c3, c4, c5⟩ := hp
  obtain ⟨d, d1, d2, d3, d4, d5⟩ := hq
  have e : c = d := bef_anti (c5 d d1 d2) (d5 c c1 c2)
  subst e
  exact Prod.ext (c3.trans d3.symm) (c4.trans d4.symm)
theorem LB_best (f : Nat → Int32) : ∀ j : Nat, j < 41 → isBest f (-20) ((j : Int) - 20) (LB f (j + 1))
  | 0 => fun _ => by
    have hw := wI_rng f (-20)
    have e100 : (100 : Int32).toInt = 100 := rfl
    have hlt : wr f (bI 0) 20 < (LB f 0).2 := by
      rw [Int32.lt_iff_toInt_lt]
      show (wr f (iI (((0 : Nat) : Int) - 20)) 20).toInt < (100 : Int32).toInt
      rw [e100, show ((0 : Nat) : Int) - 20 = -20 by omega]
      show wI f (-20) < 100
      omega
    refine ⟨-20, by omega, by omega, ?_, ?_, fun d h1 h2 => ?_⟩
    · show (if wr f (bI 0) 20 < (LB f 0).2 then bI 0 else _) = _
      rw [if_pos hlt]
      rfl
    · show (if wr f (bI 0) 20 < (LB f 0).2 then wr f (bI 0) 20 else _) = _
      rw [if_pos hlt]
      rfl
    · have : d = -20 := by omega
      subst this
      unfold bef
      omega
  | j + 1 => fun hj => by
    obtain ⟨c, c1, c2, c3, c4, c5⟩ := LB_best f j (by omega)
    have eb : bI (j + 1) = iI (((j + 1 : Nat) : Int) - 20) := rfl
    generalize hx : ((j + 1 : Nat) : Int) - 20 = x at *
    have hxj : x = (j : Int) - 19 := by omega
    have s1 : (szI (bI (j + 1))).toInt = (x.natAbs : Int) := by rw [eb]; exact sz_iI (by omega) (by omega)
    have s2 : (szI (LB f (j + 1)).1).toInt = (c.natAbs : Int) := by rw [c3]; exact sz_iI (by omega) (by omega)
    have l1 : (wr f (bI (j + 1)) 20 < (LB f (j + 1)).2) ↔ wI f x < wI f c := by rw [c4, eb, Int32.lt_iff_toInt_lt]; exact Iff.rfl
    have l2 : (wr f (bI (j + 1)) 20 = (LB f (j + 1)).2) ↔ wI f x = wI f c := by rw [c4, eb, ← Int32.toInt_inj]; exact Iff.rfl
    have l3 : (szI (bI (j + 1)) < szI (LB f (j + 1)).1) ↔ x.natAbs < c.natAbs := by rw [Int32.lt_iff_toInt_lt, s1, s2]; omega
    have hall : ∀ z : Int, bef f z c → bef f z x → ∀ d : Int, -20 ≤ d → d ≤ x → bef f z d := fun z h1 h2 d d1 d2 => by
      by_cases e : d = x
      · rw [e]; exact h2
      · have h3 := c5 d d1 (by omega)
        unfold bef at *
        omega
    by_cases h : wr f (bI (j + 1)) 20 < (LB f (j + 1)).2
    · have h9 := l1.mp h
      refine ⟨x, by omega, by omega, ?_, ?_, hall x (by unfold bef; omega) (by unfold bef; omega)⟩
      · show (if wr f (bI (j + 1)) 20 < (LB f (j + 1)).2 then bI (j + 1) else _) = _
        rw [if_pos h, eb]
      · show (if wr f (bI (j + 1)) 20 < (LB f (j + 1)).2 then wr f (bI (j + 1)) 20 else _) = _
        rw [if_pos h, eb]
    · have h9 : ¬ wI f x < wI f c := fun z => h (l1.mpr z)
      by_cases h2 : wr f (bI (j + 1)) 20 = (LB f (j + 1)).2 ∧ szI (bI (j + 1)) < szI (LB f (j + 1)).1
      · have h7 := l2.mp h2.1
        have h8 := l3.mp h2.2
        refine ⟨x, by omega, by omega, ?_, ?_, hall x (by unfold bef; omega) (by unfold bef; omega)⟩
        · show (if wr f (bI (j + 1)) 20 < (LB f (j + 1)).2 then bI (j + 1) else if wr f (bI (j + 1)) 20 = (LB f (j + 1)).2 ∧ szI (bI (j + 1)) < szI (LB f (j + 1)).1 then bI (j + 1) else _) = _
          rw [if_neg h, if_pos h2, eb]
        · show (if wr f (bI (j + 1)) 20 < (LB f (j + 1)).2 then wr f (bI (j + 1)) 20 else (LB f (j + 1)).2) = _
          rw [if_neg h, ← eb, h2.1]
      · have h8 : ¬ (wI f x = wI f c ∧ x.natAbs < c.natAbs) := fun z => h2 ⟨l2.mpr z.1, l3.mpr z.2⟩
        refine ⟨c, by omega, by omega, ?_, ?_, hall c (by unfold bef; omega) (by unfold bef; omega)⟩
        · show (if wr f (bI (j + 1)) 20 < (LB f (j + 1)).2 then bI (j + 1) else if wr f (bI (j + 1)) 20 = (LB f (j + 1)).2 ∧ szI (bI (j + 1)) < szI (LB f (j + 1)).1 then bI (j + 1) else (LB f (j + 1)).1) = _
          rw [if_neg h, if_neg h2, c3]
        · show (if wr f (bI (j + 1)) 20 < (LB f (j + 1)).2 then wr f (bI (j + 1)) 20 else (LB f (j + 1)).2) = _
          rw [if_neg h, c4]
theorem nI_iI (k : Nat) : nI k = iI (k : Int) := rfl
theorem neg_iI {k : Nat} (h : k < 1000) : -nI k = iI (-(k : Int)) := by
  apply Int32.toInt_inj.mp
  have e0 : (0 : Int32).toInt = 0 := rfl
  have e3 : -nI k = 0 - nI k := (Int32.zero_sub _).symm
  rw [e3, i32_sub (by rw [e0]; omega) (by rw [e0]; omega) (by rw [nI_toInt (by omega)]; omega) (by rw [nI_toInt (by omega)]; omega), nI_toInt (by omega), iI_t (by omega) (by omega), e0]
  omega
/-- one more bound is looked at, farther than all or as far and above -/
theorem best_step {f : Nat → Int32} {lo hi x : Int} {lo2 hi2 : Int} {p q : Int32 × Int32} (hp : isBest f lo hi p) (hq : q = if wr f (iI x) 20 < p.2 then (iI x, wr f (iI x) 20) else p) (hx1 : lo2 ≤ x) (hx2 : x ≤ hi2) (hl : lo2 ≤ lo) (hh : hi ≤ hi2) (hall : ∀ d : Int, lo2 ≤ d → d ≤ hi2 → d = x ∨ (lo ≤ d ∧ d ≤ hi)) (hfar : ∀ c : Int, lo ≤ c → c ≤ hi → c.natAbs < x.natAbs ∨ (c.natAbs = x.natAbs ∧ c ≤ x)) : isBest f lo2 hi2 q := by
  obtain ⟨c, c1, c2, c3, c4, c5⟩ := hp
  have l1 : (wr f (iI x) 20 < p.2) ↔ wI f x < wI f c := by rw [c4, Int32.lt_iff_toInt_lt]; exact Iff.rfl
  have hf := hfar c c1 c2
  by_cases h : wr f (iI x) 20 < p.2
  · have h9 := l1.mp h
    rw [if_pos h] at hq
    subst hq
    refine ⟨x, hx1, hx2, rfl, rfl, fun d d1 d2 => ?_⟩
    rcases hall d d1 d2 with e | ⟨e1, e2⟩
    · subst e; unfold bef; omega
    · have h3 := c5 d e1 e2
      unfold bef at *
      omega
  · have h9 : ¬ wI f x < wI f c := fun z => h (l1.mpr z)
    rw [if_neg h] at hq
    subst hq
    refine ⟨c, by omega, by omega, c3, c4, fun d d1 d2 => ?_⟩
    rcases hall d d1 d2 with e | ⟨e1, e2⟩
    · subst e; unfold bef; omega
    · exact c5 d e1 e2
theorem bB_best (f : Nat → Int32) : ∀ k : Nat, k ≤ 20 → isBest f (-(k : Int)) k (bB f k)
  | 0 => fun _ => ⟨0, by omega, by omega, rfl, rfl, fun d h1 h2 => by
      have : d = 0 := by omega
      subst this
      unfold bef
      omega⟩
  | k + 1 => fun hk => by
    have ih := bB_best f k (by omega)
    have h1 : isBest f (-((k + 1 : Nat) : Int)) k (bB1 f (bB f k) k) := by
      refine best_step (x := -((k + 1 : Nat) : Int)) ih ?_ (by omega) (by omega) (by omega) (by omega) (fun d _ _ => by omega) (fun c _ _ => by omega)
      unfold bB1
      rw [neg_iI (by omega)]
    refine best_step (x := ((k + 1 : Nat) : Int)) h1 ?_ (by omega) (by omega) (by omega) (by omega) (fun d _ _ => by omega) (fun c _ _ => by omega)
    show bB2 f (bB1 f (bB f k) k) k = _
    unfold bB2
    rw [nI_iI]
theorem LB_bB (f : Nat → Int32) : LB f 41 = bB f 20 := isBest_eq (LB_best f 40 (by omega)) (bB_best f 20 (by omega))
/-! rates -/
theorem sz_rng {a b : Int32} (ha : inR a) (hb : inR b) : 0 ≤ (szI (a - b)).toInt ∧ (szI (a - b)).toInt ≤ 80 := by
  have e := i32_sub (x := a) (y := b) (by have := ha.1; omega) (by have := ha.2; omega) (by have := hb.1; omega) (by have := hb.2; omega)
  have e0 : (0 : Int32).toInt = 0 := rfl
  have a1 := ha.1
  have a2 := ha.2
  have b1 := hb.1
  have b2 := hb.2
  unfold szI
  by_cases h : a - b < 0
  · rw [if_pos h]
    rw [Int32.lt_iff_toInt_lt, e, e0] at h
    have e3 : -(a - b) = 0 - (a - b) := (Int32.zero_sub _).symm
    rw [e3, i32_sub (by rw [e0]; omega) (by rw [e0]; omega) (by omega) (by omega), e, e0]
    omega
  · rw [if_neg h]
    rw [Int32.lt_iff_toInt_lt, e, e0] at h
    rw [e]
    omega
theorem sW_rng {f : Nat → Int32} (m : Nat → Int32) (r : Nat) (t : Int32) (hf : ∀ j, j < 20 → inR (f (60 + j))) : ∀ n : Nat, n ≤ 20 → 0 ≤ (sW f m r t n).toInt ∧ (sW f m r t n).toInt ≤ 80 * (n : Int)
  | 0 => fun _ => ⟨Int.le_refl _, Int.le_refl _⟩
  | n + 1 => fun hn => by
    have ih := sW_rng m r t hf n (by omega)
    have h := sz_rng (hf n (by omega)) (inR_bnd (f (160 + n) + mean m n r * t / 100))
    show 0 ≤ (sW f m r t n + _).toInt ∧ (sW f m r t n + _).toInt ≤ _
    rw [i32_add (by omega) (by omega) (by omega) (by omega)]
    omega
theorem bR_rng {f : Nat → Int32} (m : Nat → Int32) (r : Nat) (hf : ∀ j, j < 20 → inR (f (60 + j))) : ∀ k, ∃ t u, t ≤ k ∧ (bR f m r k).1 = nI t ∧ (bR f m r k).2 = sW f m r u 20
  | 0 => ⟨0, 0, Nat.le_refl _, rfl, rfl⟩
  | k + 1 => by
    obtain ⟨t, u, h1, h2, h3⟩ := bR_rng m r hf k
    show ∃ t u, t ≤ k + 1 ∧ (bR1 f m r (bR f m r k) k).1 = nI t ∧ (bR1 f m r (bR f m r k) k).2 = sW f m r u 20
    unfold bR1
    split
    · exact ⟨k + 1, nI (k + 1), Nat.le_refl _, rfl, rfl⟩
    · exact ⟨t, u, by omega, h2, h3⟩
theorem qr_lo {A : AT} (h : kN (aF A) < 2) : qRate A 0 = -5 ∧ qRate A 1 = -5 := by
  unfold qRate
  exact ⟨by rw [if_neg (show ¬ inB (0 : Int32) 0 1 = 0 by decide), if_pos h], by rw [if_neg (show ¬ inB (1 : Int32) 0 1 = 0 by decide), if_pos h]⟩
theorem qr_rng {A : AT} (hF : LF (aF A)) (h : 2 ≤ kN (aF A)) : (¬ qRate A 0 < 0 ∧ ¬ 100 < qRate A 0) ∧ ¬ qRate A 1 < 0 ∧ ¬ 1600 < qRate A 1 := by
  have hf : ∀ j, j < 20 → inR (aF A (60 + j)) := fun j hj => by
    have := (hF.2 0 (by omega) j hj).1
    rw [show 60 + 60 * 0 + j = 60 + j by omega] at this
    exact this
  obtain ⟨t, u, h1, h2, h3⟩ := bR_rng (okM (aF A) 1) (rN (aF A)) hf 100
  have h4 := sW_rng (okM (aF A) 1) (rN (aF A)) u hf 20 (by omega)
  have e0 : qRate A 0 = nI t := by
    unfold qRate
    rw [if_neg (show ¬ inB (0 : Int32) 0 1 = 0 by decide), if_neg (by omega), if_pos rfl, h2]
  have e1 : qRate A 1 = sW (aF A) (okM (aF A) 1) (rN (aF A)) u 20 := by
    unfold qRate
    rw [if_neg (show ¬ inB (1 : Int32) 0 1 = 0 by decide), if_neg (by omega), if_neg (show ¬ (1 : Int32) = 0 by decide), h3]
  have z0 : (0 : Int32).toInt = 0 := rfl
  have z1 : (100 : Int32).toInt = 100 := rfl
  have z2 : (1600 : Int32).toInt = 1600 := rfl
  rw [e0, e1, Int32.lt_iff_toInt_lt, Int32.lt_iff_toInt_lt, Int32.lt_iff_toInt_lt, Int32.lt_iff_toInt_lt, nI_toInt (by omega), z0, z1, z2]
  omega
