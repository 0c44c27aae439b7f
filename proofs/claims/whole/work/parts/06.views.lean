/-! VIEWS: a world with one row, or one state, told apart -/
def up1 (G : GS) (k : Nat) (r : Nat → Int32) : GS := fun q => if q = k then r else G q
theorem up1_s (G : GS) (k : Nat) (r : Nat → Int32) : up1 G k r k = r := if_pos rfl
theorem up1_n (G : GS) {k q : Nat} (r : Nat → Int32) (h : q ≠ k) : up1 G k r q = G q := if_neg h
theorem up2_1 (G : GS) (k i : Nat) (v : Int32) : up2 G k i v = up1 G k (upd (G k) i v) := rfl
theorem upd_s (f : Nat → Int32) (i : Nat) (v : Int32) : upd f i v i = v := if_pos rfl
theorem upd_n (f : Nat → Int32) {i j : Nat} (v : Int32) (h : j ≠ i) : upd f i v j = f j := if_neg h
theorem upd_self (f : Nat → Int32) (i : Nat) : upd f i (f i) = f := by
  funext j
  unfold upd
  split
  · rename_i h; rw [h]
  · rfl
/-- the row behind place p -/
def lft (p : Nat) (s f : Nat → Int32) : Nat → Int32 := fun j => if j < p then s j else f (j - p)
theorem lft_at (p : Nat) (s f : Nat → Int32) (i : Nat) : lft p s f (p + i) = f i := by
  unfold lft
  rw [if_neg (by omega), Nat.add_sub_cancel_left]
theorem lft_up (p : Nat) (s f : Nat → Int32) (i : Nat) (v : Int32) : upd (lft p s f) (p + i) v = lft p s (upd f i v) := by
  funext j
  unfold upd lft
  by_cases h1 : j < p
  · rw [if_neg (by omega), if_pos h1, if_pos h1]
  · rw [if_neg h1, if_neg h1]
    by_cases h2 : j = p + i
    · rw [if_pos h2]; exact (if_pos (by omega)).symm
    · rw [if_neg h2]; exact (if_neg (by omega)).symm
theorem lft_0 (s f : Nat → Int32) : lft 0 s f = f := by
  funext j
  unfold lft
  rw [if_neg (by omega), Nat.sub_zero]
/-- the world with the model's row f behind p, and its row of mistakes -/
def GM (G0 : GS) (p : Nat) (s f m : Nat → Int32) : GS := up1 (up1 G0 240 (lft p s f)) 244 m
theorem gm_0 (G : GS) : GM G 0 (G 240) (G 240) (G 244) = G := by
  funext q
  unfold GM up1
  rw [lft_0]
  split
  · rename_i h; rw [h]
  · split
    · rename_i h; rw [h]
    · rfl
theorem gm_ld {G0 : GS} {p : Nat} {s f m : Nat → Int32} {n i : Nat} (hn : n < 2 ^ 31) (h : n = p + i) : GM G0 p s f m 240 (nI n).toNatClampNeg = f i := by
  rw [nI_clamp hn, h]
  show up1 (up1 G0 240 (lft p s f)) 244 m 240 (p + i) = f i
  rw [up1_n _ _ (by omega), up1_s, lft_at]
theorem gm_ldm {G0 : GS} {p : Nat} {s f m : Nat → Int32} {n : Nat} (hn : n < 2 ^ 31) : GM G0 p s f m 244 (nI n).toNatClampNeg = m n := by
  rw [nI_clamp hn]
  show up1 (up1 G0 240 (lft p s f)) 244 m 244 n = m n
  rw [up1_s]
theorem gm_st {G0 : GS} {p : Nat} {s f m : Nat → Int32} {n i : Nat} {v : Int32} (hn : n < 2 ^ 31) (h : n = p + i) : up2 (GM G0 p s f m) 240 (nI n).toNatClampNeg v = GM G0 p s (upd f i v) m := by
  rw [nI_clamp hn, h, up2_1]
  have e : GM G0 p s f m 240 = lft p s f := by
    show up1 (up1 G0 240 (lft p s f)) 244 m 240 = _
    rw [up1_n _ _ (by omega), up1_s]
  rw [e, lft_up]
  funext q
  unfold GM up1
  by_cases h1 : q = 240
  · rw [if_pos h1, if_neg (by omega), if_pos h1]
  · rw [if_neg h1, if_neg h1, if_neg h1]
theorem gm_stm {G0 : GS} {p : Nat} {s f m : Nat → Int32} {n : Nat} {v : Int32} (hn : n < 2 ^ 31) : up2 (GM G0 p s f m) 244 (nI n).toNatClampNeg v = GM G0 p s f (upd m n v) := by
  rw [nI_clamp hn, up2_1]
  have e : GM G0 p s f m 244 = m := up1_s _ _ _
  rw [e]
  funext q
  unfold GM up1
  by_cases h1 : q = 244
  · rw [if_pos h1, if_pos h1]
  · rw [if_neg h1, if_neg h1, if_neg h1]
/-- the world with the state g at place b -/
def GC (G0 : GS) (b : Nat) (g : GS) : GS := fun q => if b ≤ q ∧ q < b + 39 then g (q - b) else G0 q
theorem gc_in (G0 : GS) (b : Nat) (g : GS) {q c : Nat} (h : q = b + c) (hc : c < 39) : GC G0 b g q = g c := by
  subst h
  unfold GC
  rw [if_pos (by omega), Nat.add_sub_cancel_left]
theorem gc_out (G0 : GS) (b : Nat) (g : GS) {q : Nat} (h : q < b ∨ b + 39 ≤ q) : GC G0 b g q = G0 q := by
  unfold GC
  rw [if_neg (by omega)]
theorem gc_0 (G : GS) (b : Nat) : GC G b (fun c => G (b + c)) = G := by
  funext q
  unfold GC
  split
  · rename_i h
    show G (b + (q - b)) = G q
    rw [show b + (q - b) = q by omega]
  · rfl
theorem gc_at {G0 : GS} {b : Nat} {g : GS} {q c i : Nat} (h : q = b + c) (hc : c < 39) : GC G0 b g q i = g c i := by rw [gc_in _ _ _ h hc]
theorem gc_ld {G0 : GS} {b : Nat} {g : GS} {q c n : Nat} (h : q = b + c) (hc : c < 39) (hn : n < 2 ^ 31) : GC G0 b g q (nI n).toNatClampNeg = g c n := by rw [gc_in _ _ _ h hc, nI_clamp hn]
theorem gc_up1 {G0 : GS} {b : Nat} {g : GS} {q c : Nat} {r : Nat → Int32} (h : q = b + c) (hc : c < 39) : up1 (GC G0 b g) q r = GC G0 b (up1 g c r) := by
  subst h
  funext z
  unfold up1 GC
  by_cases h1 : z = b + c
  · rw [if_pos h1, if_pos (by omega)]; exact (if_pos (by omega)).symm
  · rw [if_neg h1]
    by_cases h2 : b ≤ z ∧ z < b + 39
    · rw [if_pos h2, if_pos h2]; exact (if_neg (by omega)).symm
    · rw [if_neg h2, if_neg h2]
theorem gc_up {G0 : GS} {b : Nat} {g : GS} {q c i : Nat} {v : Int32} (h : q = b + c) (hc : c < 39) : up2 (GC G0 b g) q i v = GC G0 b (up2 g c i v) := by
  rw [up2_1, up2_1, gc_up1 h hc, gc_in _ _ _ h hc]
theorem gc_st {G0 : GS} {b : Nat} {g : GS} {q c n : Nat} {v : Int32} (h : q = b + c) (hc : c < 39) (hn : n < 2 ^ 31) : up2 (GC G0 b g) q (nI n).toNatClampNeg v = GC G0 b (up2 g c n v) := by
  rw [nI_clamp hn, gc_up h hc]
theorem x_fn {w : WT} {K : KT} {nL : Nat} {pc : Nat} {L : List (Nat × Value)} {st : List Value} {α : Type} (V : α → GS) {f : α} (kk : ∀ f1 : α, f1 = f → XX w K nL (V f1) pc L st) : XX w K nL (V f) pc L st := kk f rfl
/-! THE MODEL'S ROW: what is foretold -/
def rFe (f : Nat → Int32) (i : Nat) : Nat := (f (308 + 4 * i)).toNatClampNeg
theorem rFe_eq {f : Nat → Int32} {i fe : Nat} (h : f (308 + 4 * i) = nI fe) (hf : fe < 2 ^ 31) : rFe f i = fe := by
  unfold rFe
  rw [h, nI_clamp hf]
abbrev rTells (f : Nat → Int32) (i : Nat) : Prop := f (308 + 4 * i) < f 300 ∧ f (40 + rFe f i) ≤ f (308 + 4 * i + 1)
abbrev rReach (f : Nat → Int32) (d i : Nat) : Prop := f (308 + 4 * i) < nI d ∧ nI d ≤ f (308 + 4 * i) + f (308 + 4 * i + 3)
def rAdd (f : Nat → Int32) (d i : Nat) : Int32 := if rTells f i ∧ rReach f d i then f (308 + 4 * i + 2) else 0
def rSum (f : Nat → Int32) (d : Nat) : Nat → Int32
  | 0 => f d
  | n + 1 => rSum f d n + rAdd f d n
def rTold (f : Nat → Int32) (d : Nat) : Int32 := bnd (rSum f d (f 307).toNatClampNeg)
/-! THE MEAN OF MISTAKES -/
def mSum (m : Nat → Int32) (d r : Nat) : Nat → Int32
  | 0 => 0
  | n + 1 => mSum m d r n + (if d ≤ n + r ∧ n ≤ d + r then m n else 0)
def mCnt (d r : Nat) : Nat → Nat
  | 0 => 0
  | n + 1 => mCnt d r n + (if d ≤ n + r ∧ n ≤ d + r then 1 else 0)
def mean (m : Nat → Int32) (d r : Nat) : Int32 := mSum m d r 20 / nI (mCnt d r 20)
theorem mCnt_le (d r : Nat) : ∀ n, mCnt d r n ≤ n
  | 0 => Nat.le_refl _
  | n + 1 => by
    have := mCnt_le d r n
    show mCnt d r n + _ ≤ n + 1
    split <;> omega
theorem mCnt_pos (d r : Nat) : ∀ n, d < n → 1 ≤ mCnt d r n
  | 0 => fun h => absurd h (by omega)
  | n + 1 => fun h => by
    show 1 ≤ mCnt d r n + _
    by_cases e : d = n
    · rw [if_pos (by omega)]; omega
    · have := mCnt_pos d r n (by omega)
      omega
theorem mSum_lo (m : Nat → Int32) (d r : Nat) : ∀ n, n + r ≤ d → mSum m d r n = 0 ∧ mCnt d r n = 0
  | 0 => fun _ => ⟨rfl, rfl⟩
  | n + 1 => fun h => by
    obtain ⟨h1, h2⟩ := mSum_lo m d r n (by omega)
    refine ⟨?_, ?_⟩
    · show mSum m d r n + _ = 0
      rw [h1, if_neg (by omega)]; rfl
    · show mCnt d r n + _ = 0
      rw [h2, if_neg (by omega)]
theorem mSum_hi (m : Nat → Int32) (d r n : Nat) (h : d + r < n) : ∀ k, mSum m d r (n + k) = mSum m d r n ∧ mCnt d r (n + k) = mCnt d r n
  | 0 => ⟨rfl, rfl⟩
  | k + 1 => by
    obtain ⟨h1, h2⟩ := mSum_hi m d r n h k
    refine ⟨?_, ?_⟩
    · show mSum m d r (n + k) + (if d ≤ (n + k) + r ∧ (n + k) ≤ d + r then m (n + k) else 0) = _
      rw [h1, if_neg (by omega), Int32.add_zero]
    · show mCnt d r (n + k) + (if d ≤ (n + k) + r ∧ (n + k) ≤ d + r then 1 else 0) = _
      rw [h2, if_neg (by omega), Nat.add_zero]
theorem mSum_end (m : Nat → Int32) (d r : Nat) (hd : d < 20) : mSum m d r (min 20 (d + r + 1)) = mSum m d r 20 ∧ mCnt d r (min 20 (d + r + 1)) = mCnt d r 20 := by
  by_cases h : 20 ≤ d + r + 1
  · rw [Nat.min_eq_left h]; exact ⟨rfl, rfl⟩
  · rw [Nat.min_eq_right (by omega)]
    have := mSum_hi m d r (d + r + 1) (by omega) (20 - (d + r + 1))
    rw [show d + r + 1 + (20 - (d + r + 1)) = 20 by omega] at this
    exact ⟨this.1.symm, this.2.symm⟩
/-- sums from the beginning on -/
def pSum (m : Nat → Int32) : Nat → Int32
  | 0 => 0
  | n + 1 => pSum m n + m n
def meanS (m : Nat → Int32) (d r : Nat) : Int32 := (pSum m (min 20 (d + r + 1)) - pSum m (d - r)) / nI (min 20 (d + r + 1) - (d - r))
theorem i32_add {x y : Int32} (h1 : -1000000000 ≤ x.toInt) (h2 : x.toInt ≤ 1000000000) (h3 : -1000000000 ≤ y.toInt) (h4 : y.toInt ≤ 1000000000) : (x + y).toInt = x.toInt + y.toInt := by
  rw [Int32.toInt_add]
  exact Int.bmod_eq_of_le (by omega) (by omega)
theorem i32_sub {x y : Int32} (h1 : -1000000000 ≤ x.toInt) (h2 : x.toInt ≤ 1000000000) (h3 : -1000000000 ≤ y.toInt) (h4 : y.toInt ≤ 1000000000) : (x - y).toInt = x.toInt - y.toInt := by
  rw [Int32.toInt_sub]
  exact Int.bmod_eq_of_le (by omega) (by omega)
theorem i32_nat {x : Int32} {n : Nat} (h : x.toInt = (n : Int)) : x = nI n := by
  have hb : x.toInt < 2 ^ 31 := by have := x.toInt_lt; omega
  apply Int32.toInt_inj.mp
  rw [nI_toInt (by omega), h]
theorem b01_f {p : Prop} [Decidable p] (h : ¬ b01 p = 0) : p := by
  unfold b01 at h
  split at h
  · assumption
  · exact absurd rfl h
theorem b01_t {p : Prop} [Decidable p] (h : b01 p = 0) : ¬ p := by
  unfold b01 at h
  split at h
  · exact absurd h (by decide)
  · assumption
theorem b01_pos {p : Prop} [Decidable p] (h : p) : b01 p = 1 := if_pos h
theorem b01_neg {p : Prop} [Decidable p] (h : ¬ p) : b01 p = 0 := if_neg h
theorem b01_iff {p q : Prop} [Decidable p] [Decidable q] (h : p ↔ q) : b01 p = b01 q := by
  unfold b01
  by_cases hp : p
  · rw [if_pos hp, if_pos (h.mp hp)]
  · rw [if_neg hp, if_neg (fun z => hp (h.mpr z))]
theorem inB_t {v lo hi : Int32} (h : inB v lo hi = 0) : ¬ (lo.toInt ≤ v.toInt ∧ v.toInt ≤ hi.toInt) := by
  have := b01_t h
  simpa only [Int32.le_iff_toInt_le] using this
theorem inB_f {v lo hi : Int32} (h : ¬ inB v lo hi = 0) : lo.toInt ≤ v.toInt ∧ v.toInt ≤ hi.toInt := by
  have := b01_f h
  simpa only [Int32.le_iff_toInt_le] using this
/-- what a day in range is -/
theorem inB_nat {v hi : Int32} {n : Nat} (hn : hi.toInt = n) (h : ¬ inB v 0 hi = 0) : ∃ d, d ≤ n ∧ v = nI d := by
  obtain ⟨h1, h2⟩ := inB_f h
  have h0 : (0 : Int32).toInt = 0 := rfl
  exact ⟨v.toInt.toNat, by omega, i32_nat (by omega)⟩
