/-! THE ABSTRACT STATE: the row, how many are known behind it, these, whether there is a snapshot, it, the text's length, the text -/
abbrev AT : Type := (Nat → Int32) × Nat × (Nat → Nat → Int32) × Int32 × (Nat → Int32) × Nat × (Nat → Int32)
abbrev aF (A : AT) : Nat → Int32 := A.1
abbrev aN (A : AT) : Nat := A.2.1
abbrev aH (A : AT) : Nat → Nat → Int32 := A.2.2.1
abbrev aK (A : AT) : Int32 := A.2.2.2.1
abbrev aS (A : AT) : Nat → Int32 := A.2.2.2.2.1
abbrev aL (A : AT) : Nat := A.2.2.2.2.2.1
abbrev aT (A : AT) : Nat → Int32 := A.2.2.2.2.2.2
abbrev aOf (G : GS) : AT := (G 240, (G 239 2).toNatClampNeg, fun i j => G 241 (354 * i + j), G 239 4, G 242, (G 239 6).toNatClampNeg, G 243)
def aEq (A B : AT) : Prop := (∀ i, i < 354 → aF A i = aF B i) ∧ aN A = aN B ∧ (∀ i, i < aN B → ∀ j, j < 354 → aH A i j = aH B i j) ∧ aK A = aK B ∧ (aK B ≠ 0 → ∀ j, j < 354 → aS A j = aS B j) ∧ aL A = aL B ∧ ∀ i, i < aL B → aT A i = aT B i
def dN (f : Nat → Int32) : Nat := (f 300).toNatClampNeg
def yN (f : Nat → Int32) : Nat := (f 301).toNatClampNeg
def rN (f : Nat → Int32) : Nat := (f 303).toNatClampNeg
def cN (f : Nat → Int32) : Nat := (f 307).toNatClampNeg
/-- a row is good: B bounds its year -/
def RV (f : Nat → Int32) (B : Nat) : Prop := (dN f < 20 ∧ f 300 = nI (dN f)) ∧ (yN f ≤ B ∧ f 301 = nI (yN f) ∧ f 302 = nI (min (yN f) 4)) ∧ (rN f ≤ 9 ∧ f 303 = nI (rN f)) ∧ (∃ o, 1 ≤ o ∧ o ≤ 9 ∧ f 306 = nI o) ∧ rSn f (cN f) ∧ ∀ k, k < 4 → ∃ x, x ≤ 1000 ∧ f (328 + 5 * k + 1) = nI x ∧ (f (328 + 5 * k + 2) = 0 ∨ f (328 + 5 * k + 2) = 1)
def AV (A : AT) (B : Nat) : Prop := aN A ≤ 4 ∧ RV (aF A) B ∧ (∀ i, i < aN A → RV (aH A i) B) ∧ (aK A = 0 ∨ aK A = 1) ∧ (aK A = 1 → RV (aS A) B) ∧ aL A ≤ 60
def MR (G : GS) : Prop := G 239 2 = nI (aN (aOf G)) ∧ G 239 6 = nI (aL (aOf G))
def aRem (A : AT) : AT := (aF A, (if aN A = 4 then 3 else aN A) + 1, (fun i => if i = (if aN A = 4 then 3 else aN A) then aF A else if aN A = 4 then aH A (i + 1) else aH A i), aK A, aS A, aL A, aT A)
def aPut (A : AT) (f : Nat → Int32) : AT := (f, A.2)
/-- behind a call of the model -/
def PMq (G G' : GS) (A : AT) : Prop := aEq (aOf G') A ∧ MR G' ∧ ∀ q, q < 239 → G' q = G q
theorem aEq_rf (A : AT) : aEq A A := ⟨fun _ _ => rfl, rfl, fun _ _ _ _ => rfl, rfl, fun _ _ _ => rfl, rfl, fun _ _ => rfl⟩
theorem PMq_same {G G' : GS} (hR : MR G) (h : ∀ q, q ≠ 244 → G' q = G q) : PMq G G' (aOf G) := by
  have e : aOf G' = aOf G := by
    show (G' 240, (G' 239 2).toNatClampNeg, (fun i j => G' 241 (354 * i + j)), G' 239 4, G' 242, (G' 239 6).toNatClampNeg, G' 243) = _
    rw [h 240 (by omega), h 239 (by omega), h 241 (by omega), h 242 (by omega), h 243 (by omega)]
  refine ⟨by rw [e]; exact aEq_rf _, ?_, fun q hq => h q (by omega)⟩
  unfold MR
  rw [e, h 239 (by omega)]
  exact hR
theorem up2_r (G : GS) {k q : Nat} (i : Nat) (v : Int32) (h : q ≠ k) : up2 G k i v q = G q := if_neg h
theorem remG_q (G : GS) (n q : Nat) (h1 : q ≠ 239) (h2 : q ≠ 241) : remG G n q = G q := by
  unfold remG remT
  split
  · rw [up2_r _ _ _ h1, up1_n _ _ h2, up2_r _ _ _ h1, up1_n _ _ h2]
  · rw [up2_r _ _ _ h1, up1_n _ _ h2]
theorem rem_gm (G : GS) (n : Nat) : remG G n = GM (remG G n) 0 (G 240) (G 240) (G 244) := by
  have h := (gm_0 (remG G n)).symm
  rw [remG_q G n 240 (by omega) (by omega), remG_q G n 244 (by omega) (by omega)] at h
  exact h
theorem remT_239 (G : GS) (m i : Nat) (h : i ≠ 2) : remT G m 239 i = G 239 i := by
  unfold remT
  rw [up2_i _ _ _ _ h, up1_n _ _ (by omega)]
theorem remG_239 (G : GS) (n i : Nat) (h : i ≠ 2) : remG G n 239 i = G 239 i := by
  unfold remG
  split
  · rw [remT_239 _ _ _ h, up2_i _ _ _ _ h, up1_n _ _ (by omega)]
  · rw [remT_239 _ _ _ h]
theorem remG_n (G : GS) (n : Nat) : remG G n 239 2 = nI ((if n = 4 then 3 else n) + 1) := by
  unfold remG
  split
  · exact up2_s _ _ _ _
  · exact up2_s _ _ _ _
theorem remG_h (G : GS) (n : Nat) (hn : n ≤ 4) (i j : Nat) (hi : i < (if n = 4 then 3 else n) + 1) (hj : j < 354) : remG G n 241 (354 * i + j) = (if i = (if n = 4 then 3 else n) then G 240 j else if n = 4 then G 241 (354 * (i + 1) + j) else G 241 (354 * i + j)) := by
  unfold remG
  by_cases h4 : n = 4
  · rw [if_pos h4, if_pos h4]
    rw [if_pos h4] at hi
    unfold remT
    rw [up2_r _ _ _ (by omega), up1_s, up2_r _ _ _ (show 240 ≠ 239 by omega), up1_n _ _ (show 240 ≠ 241 by omega), up2_r _ _ _ (show 241 ≠ 239 by omega), up1_s]
    unfold cpRow
    by_cases e : i = 3
    · rw [if_pos (by omega), if_pos e, show 354 * i + j - 354 * 3 = j by omega]
    · rw [if_neg (by omega), if_neg e, if_pos h4]
      unfold shRow
      rw [if_pos (by omega), show 354 * i + j + 354 = 354 * (i + 1) + j by omega]
  · rw [if_neg h4, if_neg h4]
    rw [if_neg h4] at hi
    unfold remT
    rw [up2_r _ _ _ (by omega), up1_s]
    unfold cpRow
    by_cases e : i = n
    · rw [if_pos (by omega), if_pos e, show 354 * i + j - 354 * n = j by subst e; omega]
    · rw [if_neg (by omega), if_neg e, if_neg h4]
theorem PMq_act {G G' : GS} {f : Nat → Int32} (hR : MR G) (hn : aN (aOf G) ≤ 4) (h240 : ∀ i, i < 354 → G' 240 i = f i) (hq : ∀ q, q ≠ 240 → q ≠ 244 → G' q = remG G (aN (aOf G)) q) : PMq G G' (aPut (aRem (aOf G)) f) := by
  have h239 := hq 239 (by omega) (by omega)
  have hm : ((if aN (aOf G) = 4 then 3 else aN (aOf G)) + 1) ≤ 4 := by split <;> omega
  have hN : (aOf G').2.1 = (if aN (aOf G) = 4 then 3 else aN (aOf G)) + 1 := by
    show (G' 239 2).toNatClampNeg = _
    rw [h239, remG_n, nI_clamp (by omega)]
  have hL : (aOf G').2.2.2.2.2.1 = aL (aOf G) := by
    show (G' 239 6).toNatClampNeg = (G 239 6).toNatClampNeg
    rw [h239, remG_239 _ _ _ (by omega)]
  refine ⟨⟨h240, hN, fun i hi j hj => ?_, ?_, fun _ j _ => ?_, hL, fun i _ => ?_⟩, ⟨?_, ?_⟩, fun q hq2 => ?_⟩
  · show G' 241 (354 * i + j) = _
    rw [hq 241 (by omega) (by omega), remG_h G _ hn i j hi hj]
    show _ = (if i = (if aN (aOf G) = 4 then 3 else aN (aOf G)) then aF (aOf G) else if aN (aOf G) = 4 then aH (aOf G) (i + 1) else aH (aOf G) i) j
    by_cases e : i = (if aN (aOf G) = 4 then 3 else aN (aOf G))
    · rw [if_pos e, if_pos e]
    · rw [if_neg e, if_neg e]
      by_cases e4 : aN (aOf G) = 4
      · rw [if_pos e4, if_pos e4]
      · rw [if_neg e4, if_neg e4]
  · show G' 239 4 = G 239 4
    rw [h239, remG_239 _ _ _ (by omega)]
  · show G' 242 j = G 242 j
    rw [hq 242 (by omega) (by omega), remG_q _ _ _ (by omega) (by omega)]
  · show G' 243 i = G 243 i
    rw [hq 243 (by omega) (by omega), remG_q _ _ _ (by omega) (by omega)]
  · show G' 239 2 = nI ((aOf G').2.1)
    rw [hN, h239, remG_n]
  · show G' 239 6 = nI ((aOf G').2.2.2.2.2.1)
    rw [hL, h239, remG_239 _ _ _ (by omega), hR.2]
  · rw [hq q (by omega) (by omega), remG_q _ _ _ (by omega) (by omega)]
theorem PMq_gm {G : GS} {f s m : Nat → Int32} (hR : MR G) (hn : aN (aOf G) ≤ 4) : PMq G (GM (remG G (aN (aOf G))) 0 s f m) (aPut (aRem (aOf G)) f) := by
  refine PMq_act hR hn (fun i _ => ?_) (fun q h1 h2 => ?_)
  · show up1 (up1 _ 240 (lft 0 s f)) 244 m 240 i = f i
    rw [up1_n _ _ (by omega), up1_s, lft_0]
  · show up1 (up1 _ 240 _) 244 m q = _
    rw [up1_n _ _ h2, up1_n _ _ h1]
/-! THE ANSWERS, AND WHAT STANDS BEHIND THEM -/
def qMeasure (A : AT) (v : Int32) : Int32 := if inB v (-40) 40 = 0 then -2 else v - rTold (aF A) (dN (aF A)) + 1000
def tMeasure (A : AT) (v : Int32) : AT := if inB v (-40) 40 = 0 then A else aPut (aRem A) (rMeas (aF A) v (dN (aF A)) (rN (aF A)))
def qBase (A : AT) (x b : Int32) : Int32 := if inB x 0 19 = 0 then -1 else if inB b (-40) 40 = 0 then -2 else if x < aF A 300 then -4 else if aF A x.toNatClampNeg = b then -5 else aF A x.toNatClampNeg + 1000
def tBase (A : AT) (x b : Int32) : AT := if inB x 0 19 = 0 then A else if inB b (-40) 40 = 0 then A else if x < aF A 300 then A else if aF A x.toNatClampNeg = b then A else aPut (aRem A) (upd (aF A) x.toNatClampNeg b)
def rSaint (f : Nat → Int32) (c : Nat) (x b e t : Int32) : Nat → Int32 := upd (upd (upd (upd (upd f (308 + 4 * c) x) (308 + 4 * c + 1) b) (308 + 4 * c + 2) e) (308 + 4 * c + 3) t) 307 (nI (c + 1))
def bSaint (b e t : Int32) : Prop := inB b (-40) 40 = 0 ∨ inB e (-20) 20 = 0 ∨ inB t 1 9 = 0
def qSaint (A : AT) (x b e t : Int32) : Int32 := if inB x 0 19 = 0 then -1 else if inB b (-40) 40 = 0 then -2 else if inB e (-20) 20 = 0 then -2 else if inB t 1 9 = 0 then -2 else if cN (aF A) = 5 then -3 else nI (cN (aF A))
def tSaint (A : AT) (x b e t : Int32) : AT := if inB x 0 19 = 0 then A else if inB b (-40) 40 = 0 then A else if inB e (-20) 20 = 0 then A else if inB t 1 9 = 0 then A else if cN (aF A) = 5 then A else aPut (aRem A) (rSaint (aF A) (cN (aF A)) x b e t)
/-- whether x is a saint of c -/
def sB (x : Int32) (c : Nat) : Int32 := inB x 0 (nI c - 1)
def stRow (f : Nat → Int32) (i k : Nat) : Nat → Int32 := fun j => if 308 + 4 * i ≤ j ∧ j < k then f (j + 4) else f j
def rStrike (f : Nat → Int32) (i c : Nat) : Nat → Int32 := stRow (upd f 307 (nI (c - 1))) i (308 + 4 * (c - 1))
def qStrike (A : AT) (x : Int32) : Int32 := if sB x (cN (aF A)) = 0 then -1 else nI (cN (aF A) - 1)
def tStrike (A : AT) (x : Int32) : AT := if sB x (cN (aF A)) = 0 then A else aPut (aRem A) (rStrike (aF A) x.toNatClampNeg (cN (aF A)))
def canSet (x v : Int32) : Int32 := if x = 0 then inB v 0 9 else if x = 1 then inB v 0 100 else if x = 2 then inB v (-20) 20 else if x = 3 then inB v 1 9 else 0
def qSet (A : AT) (x v : Int32) : Int32 := if canSet x v = 0 then -2 else if aF A (303 + x.toNatClampNeg) = v then -5 else aF A (303 + x.toNatClampNeg) + 1000
def tSet (A : AT) (x v : Int32) : AT := if canSet x v = 0 then A else if aF A (303 + x.toNatClampNeg) = v then A else aPut (aRem A) (upd (aF A) (303 + x.toNatClampNeg) v)
def rBet (f : Nat → Int32) (k : Nat) (z n : Int32) : Nat → Int32 := upd (upd (upd f (328 + 5 * k + 0) (f (328 + 5 * k + 0) - n)) (328 + 5 * k + 1) n) (328 + 5 * k + 2) z
def qBet (A : AT) (x z n : Int32) : Int32 := if inB x 0 3 = 0 then -1 else if inB n 1 1000 = 0 then -2 else if 0 < aF A (328 + 5 * x.toNatClampNeg + 1) then -4 else if aF A (328 + 5 * x.toNatClampNeg + 0) < n then -4 else aF A (328 + 5 * x.toNatClampNeg + 0) - n
def tBet (A : AT) (x z n : Int32) : AT := if inB x 0 3 = 0 then A else if inB n 1 1000 = 0 then A else if 0 < aF A (328 + 5 * x.toNatClampNeg + 1) then A else if aF A (328 + 5 * x.toNatClampNeg + 0) < n then A else aPut (aRem A) (rBet (aF A) x.toNatClampNeg z n)
def rTake (f : Nat → Int32) (k : Nat) : Nat → Int32 := upd (upd (upd f (328 + 5 * k + 0) (f (328 + 5 * k + 0) + f (328 + 5 * k + 1))) (328 + 5 * k + 1) 0) (328 + 5 * k + 2) 0
def qTake (A : AT) (x : Int32) : Int32 := if inB x 0 3 = 0 then -1 else if aF A (328 + 5 * x.toNatClampNeg + 1) = 0 then -5 else aF A (328 + 5 * x.toNatClampNeg + 0) + aF A (328 + 5 * x.toNatClampNeg + 1)
def tTake (A : AT) (x : Int32) : AT := if inB x 0 3 = 0 then A else if aF A (328 + 5 * x.toNatClampNeg + 1) = 0 then A else aPut (aRem A) (rTake (aF A) x.toNatClampNeg)
def qUndo (A : AT) : Int32 := if aN A = 0 then -5 else nI (aN A - 1)
def tUndo (A : AT) : AT := if aN A = 0 then A else (aH A (aN A - 1), aN A - 1, A.2.2)
def qKeep (A : AT) : Int32 := aF A 353
def tKeep (A : AT) : AT := (aF A, aN A, aH A, 1, aF A, A.2.2.2.2.2)
def qRestore (A : AT) : Int32 := if aK A = 0 then -5 else aS A 353
def tRestore (A : AT) : AT := if aK A = 0 then A else aPut (aRem A) (aS A)
