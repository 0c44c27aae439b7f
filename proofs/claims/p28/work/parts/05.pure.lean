-- 05.pure.lean.txt
def inB (v lo hi : Int32) : Int32 := b01 (lo ≤ v ∧ v ≤ hi)
def bnd (v : Int32) : Int32 := if v < -40 then -40 else if 40 < v then 40 else v
def szI (v : Int32) : Int32 := if v < 0 then -v else v
theorem clamp_eq (v : Int32) : (if (-40 : Int32) < (if v < 40 then v else 40) then (if v < 40 then v else 40) else -40) = bnd v := by
  unfold bnd
  by_cases h1 : v < 40
  · rw [if_pos h1]
    by_cases h2 : v < -40
    · rw [if_pos h2, if_neg (by rw [Int32.lt_iff_toInt_lt] at *; omega)]
    · rw [if_neg h2]
      by_cases h3 : (-40 : Int32) < v
      · rw [if_pos h3, if_neg (by rw [Int32.lt_iff_toInt_lt] at *; omega)]
      · rw [if_neg h3, if_neg (by rw [Int32.lt_iff_toInt_lt] at *; omega)]
        apply Int32.toInt_inj.mp
        rw [Int32.lt_iff_toInt_lt] at *
        omega
  · rw [if_neg h1, if_pos (by decide), if_neg (by
      rw [Int32.lt_iff_toInt_lt] at *
      have : (40 : Int32).toInt = 40 := rfl
      have : (-40 : Int32).toInt = -40 := rfl
      omega)]
    by_cases h3 : (40 : Int32) < v
    · rw [if_pos h3]
    · rw [if_neg h3]
      apply Int32.toInt_inj.mp
      rw [Int32.lt_iff_toInt_lt] at *
      omega
theorem b01_le (p : Prop) [Decidable p] : b01 p = 0 ∨ b01 p = 1 := by
  unfold b01
  split
  · exact Or.inr rfl
  · exact Or.inl rfl
set_option maxHeartbeats 4000000 in
set_option maxRecDepth 100000 in
theorem m_X5_isIndex {w : WT} (hI : xI w) (l : Launch) (G : GS) (v n : Int32) : Mi w l yX5_isIndex cX5_isIndex 2 (some .boolean) ⟨0, 0, 0, 0⟩ [.int v, .int n] G (fun r G' => r = b01 (0 ≤ v ∧ v < n) ∧ G' = G) := by
  refine mk_i (L0 := [(0, .int v), (1, .int n)]) hI (by decide +kernel) rfl (Nat.le_of_ble_eq_true rfl) (fun v G9 h => by rw [h.1]; exact nz_b01 _) (fun K hc hret => ?_)
  refine x_iload_n (pc := 0) hc dX5_isIndex_0 0 rfl ?_
  refine x_if_lt (pc := 1) hc dX5_isIndex_1 13 (by decide) (fun c1 => ?_) (fun c1 => ?_)
  · refine x_iconst (v := 0) (pc := 13) hc dX5_isIndex_13 (by decide) ?_
    exact hret _ _ _ _ dX5_isIndex_14 ⟨by simp only [b01, Int32.lt_iff_toInt_lt, Int32.le_iff_toInt_le] at *; (repeat' split) <;> first | rfl | omega, rfl⟩
  · refine x_iload_n (pc := 4) hc dX5_isIndex_4 0 rfl ?_
    refine x_iload_n (pc := 5) hc dX5_isIndex_5 1 rfl ?_
    refine x_icmp_ge (pc := 6) hc dX5_isIndex_6 13 (by decide) (fun c6 => ?_) (fun c6 => ?_)
    · refine x_iconst (v := 0) (pc := 13) hc dX5_isIndex_13 (by decide) ?_
      exact hret _ _ _ _ dX5_isIndex_14 ⟨by simp only [b01, Int32.lt_iff_toInt_lt, Int32.le_iff_toInt_le] at *; (repeat' split) <;> first | rfl | omega, rfl⟩
    · refine x_iconst (v := 1) (pc := 9) hc dX5_isIndex_9 (by decide) ?_
      refine x_goto (pc := 10) hc dX5_isIndex_10 14 (by decide) ?_
      exact hret _ _ _ _ dX5_isIndex_14 ⟨by simp only [b01, Int32.lt_iff_toInt_lt, Int32.le_iff_toInt_le] at *; (repeat' split) <;> first | rfl | omega, rfl⟩
set_option maxHeartbeats 4000000 in
set_option maxRecDepth 100000 in
theorem m_X5_isWithin {w : WT} (hI : xI w) (l : Launch) (G : GS) (v n : Int32) : Mi w l yX5_isWithin cX5_isWithin 2 (some .boolean) ⟨0, 0, 0, 0⟩ [.int v, .int n] G (fun r G' => r = inB v (-n) n ∧ G' = G) := by
  refine mk_i (L0 := [(0, .int v), (1, .int n)]) hI (by decide +kernel) rfl (Nat.le_of_ble_eq_true rfl) (fun v G9 h => by rw [h.1]; exact nz_b01 _) (fun K hc hret => ?_)
  refine x_iload_n (pc := 0) hc dX5_isWithin_0 0 rfl ?_
  refine x_iload_n (pc := 1) hc dX5_isWithin_1 1 rfl ?_
  refine x_ineg (pc := 2) hc dX5_isWithin_2 ?_
  refine x_icmp_lt (pc := 3) hc dX5_isWithin_3 15 (by decide) (fun c3 => ?_) (fun c3 => ?_)
  · refine x_iconst (v := 0) (pc := 15) hc dX5_isWithin_15 (by decide) ?_
    exact hret _ _ _ _ dX5_isWithin_16 ⟨by simp only [inB, b01, Int32.lt_iff_toInt_lt, Int32.le_iff_toInt_le] at *; (repeat' split) <;> first | rfl | omega, rfl⟩
  · refine x_iload_n (pc := 6) hc dX5_isWithin_6 0 rfl ?_
    refine x_iload_n (pc := 7) hc dX5_isWithin_7 1 rfl ?_
    refine x_icmp_gt (pc := 8) hc dX5_isWithin_8 15 (by decide) (fun c8 => ?_) (fun c8 => ?_)
    · refine x_iconst (v := 0) (pc := 15) hc dX5_isWithin_15 (by decide) ?_
      exact hret _ _ _ _ dX5_isWithin_16 ⟨by simp only [inB, b01, Int32.lt_iff_toInt_lt, Int32.le_iff_toInt_le] at *; (repeat' split) <;> first | rfl | omega, rfl⟩
    · refine x_iconst (v := 1) (pc := 11) hc dX5_isWithin_11 (by decide) ?_
      refine x_goto (pc := 12) hc dX5_isWithin_12 16 (by decide) ?_
      exact hret _ _ _ _ dX5_isWithin_16 ⟨by simp only [inB, b01, Int32.lt_iff_toInt_lt, Int32.le_iff_toInt_le] at *; (repeat' split) <;> first | rfl | omega, rfl⟩
set_option maxHeartbeats 4000000 in
set_option maxRecDepth 100000 in
theorem m_X5_isFrost {w : WT} (hI : xI w) (l : Launch) (G : GS) (v : Int32) : Mi w l yX5_isFrost cX5_isFrost 1 (some .boolean) ⟨0, 0, 0, 0⟩ [.int v] G (fun r G' => r = b01 (v ≤ 0) ∧ G' = G) := by
  refine mk_i (L0 := [(0, .int v)]) hI (by decide +kernel) rfl (Nat.le_of_ble_eq_true rfl) (fun v G9 h => by rw [h.1]; exact nz_b01 _) (fun K hc hret => ?_)
  refine x_iload_n (pc := 0) hc dX5_isFrost_0 0 rfl ?_
  refine x_if_gt (pc := 1) hc dX5_isFrost_1 8 (by decide) (fun c1 => ?_) (fun c1 => ?_)
  · refine x_iconst (v := 0) (pc := 8) hc dX5_isFrost_8 (by decide) ?_
    exact hret _ _ _ _ dX5_isFrost_9 ⟨by simp only [b01, Int32.lt_iff_toInt_lt, Int32.le_iff_toInt_le] at *; (repeat' split) <;> first | rfl | omega, rfl⟩
  · refine x_iconst (v := 1) (pc := 4) hc dX5_isFrost_4 (by decide) ?_
    refine x_goto (pc := 5) hc dX5_isFrost_5 9 (by decide) ?_
    exact hret _ _ _ _ dX5_isFrost_9 ⟨by simp only [b01, Int32.lt_iff_toInt_lt, Int32.le_iff_toInt_le] at *; (repeat' split) <;> first | rfl | omega, rfl⟩
set_option maxHeartbeats 4000000 in
set_option maxRecDepth 100000 in
theorem m_X5_oneIf {w : WT} (hI : xI w) (l : Launch) (G : GS) (v : Int32) (hv : v = 0 ∨ v = 1) : Mi w l yX5_oneIf cX5_oneIf 1 (some .int) ⟨0, 0, 0, 0⟩ [.int v] G (fun r G' => r = v ∧ G' = G) := by
  refine mk_i (L0 := [(0, .int v)]) hI (by decide +kernel) rfl (Nat.le_of_ble_eq_true rfl) (fun _ _ _ => rfl) (fun K hc hret => ?_)
  refine x_iload_n (pc := 0) hc dX5_oneIf_0 0 rfl ?_
  refine x_if_eq (pc := 1) hc dX5_oneIf_1 8 (by decide) (fun c1 => ?_) (fun c1 => ?_)
  · refine x_iconst (v := 0) (pc := 8) hc dX5_oneIf_8 (by decide) ?_
    exact hret _ _ _ _ dX5_oneIf_9 ⟨by rcases hv with rfl | rfl <;> simp_all, rfl⟩
  · refine x_iconst (v := 1) (pc := 4) hc dX5_oneIf_4 (by decide) ?_
    refine x_goto (pc := 5) hc dX5_oneIf_5 9 (by decide) ?_
    exact hret _ _ _ _ dX5_oneIf_9 ⟨by rcases hv with rfl | rfl <;> simp_all, rfl⟩
set_option maxHeartbeats 4000000 in
set_option maxRecDepth 100000 in
theorem m_X5_clampWarmth {w : WT} (hI : xI w) (l : Launch) (G : GS) (v : Int32) : Mi w l yX5_clampWarmth cX5_clampWarmth 1 (some .int) ⟨1, 0, 0, 30⟩ [.int v] G (fun r G' => r = bnd v ∧ G' = G) := by
  refine mk_i (L0 := [(0, .int v)]) hI (by decide +kernel) rfl (Nat.le_of_ble_eq_true rfl) (fun _ _ _ => rfl) (fun K hc hret => ?_)
  refine x_bipush (v := (-40)) (pc := 0) hc dX5_clampWarmth_0 (by decide) ?_
  refine x_bipush (v := 40) (pc := 2) hc dX5_clampWarmth_2 (by decide) ?_
  refine x_iload_n (pc := 4) hc dX5_clampWarmth_4 0 rfl ?_
  refine x_min (pc := 5) hc ml_X5_234 (by decide) (by simp [Value.category]) dX5_clampWarmth_5 ?_
  refine x_max (pc := 8) hc ml_X5_237 (by decide) (by simp [Value.category]) dX5_clampWarmth_8 ?_
  exact hret _ _ _ _ dX5_clampWarmth_11 ⟨clamp_eq v, rfl⟩
set_option maxHeartbeats 4000000 in
set_option maxRecDepth 100000 in
theorem m_X5_mended {w : WT} (hI : xI w) (l : Launch) (G : GS) (b m t : Int32) : Mi w l yX5_mended cX5_mended 3 (some .int) ⟨2, 0, 0, 50⟩ [.int b, .int m, .int t] G (fun r G' => r = bnd (b + m * t / 100) ∧ G' = G) := by
  refine mk_i (L0 := [(0, .int b), (1, .int m), (2, .int t)]) hI (by decide +kernel) rfl (Nat.le_of_ble_eq_true rfl) (fun _ _ _ => rfl) (fun K hc hret => ?_)
  refine x_iload_n (pc := 0) hc dX5_mended_0 0 rfl ?_
  refine x_iload_n (pc := 1) hc dX5_mended_1 1 rfl ?_
  refine x_iload_n (pc := 2) hc dX5_mended_2 2 rfl ?_
  refine x_imul (pc := 3) hc dX5_mended_3 ?_
  refine x_bipush (v := 100) (pc := 4) hc dX5_mended_4 (by decide) ?_
  refine x_idiv (pc := 6) hc dX5_mended_6 (by decide) ?_
  refine x_iadd (pc := 7) hc dX5_mended_7 ?_
  refine x_callSi (pc := 8) hc cl_X5_240 [.int (b + ((m * t) / 100))] (m_X5_clampWarmth hI (kl K) G (b + ((m * t) / 100))) rfl rfl (by simp [Value.category]) rfl rfl ⟨by decide, by decide⟩ dX5_mended_8 (fun r8 Gc8 q8 => ?_)
  obtain ⟨er8, eGc8⟩ := q8
  rw [eGc8]
  subst er8
  exact hret _ _ _ _ dX5_mended_11 ⟨rfl, rfl⟩
-- 06.views.lean.txt
/-! VIEWS: a world with one row, or one state, told apart -/
def up1 (G : GS) (k : Nat) (r : Nat → Int32) : GS := fun q => if q = k then r else G q
theorem up1_s (G : GS) (k : Nat) (r : Nat → Int32) : up1 G k r k = r := if_pos rfl
theorem up1_n (G : GS) {k q : Nat} (r : Nat → Int32) (h : q ≠ k) : up1 G k r q = G q := if_neg h
theorem up2_1 (G : GS) (k i : Nat) (v : Int32) : up2 G k i v = up1 G k (upd (G k) i v) := rfl
theorem upd_s (f : Nat → Int32) (i : Nat) (v : Int32) : upd f i v i = v := if_pos rfl
theorem upd_n (f : Nat → Int32) {i j : Nat} (v : Int32) (h : j ≠ i) : upd f i v j = f j := if_neg h
theorem upd_self (f : Nat → Int32) (i : Nat) : upd f i (f i) = f := by
  funext j
  unfold upd
  split
  · rename_i h; rw [h]
  · rfl
/-- the row behind place p -/
def lft (p : Nat) (s f : Nat → Int32) : Nat → Int32 := fun j => if j < p then s j else f (j - p)
theorem lft_at (p : Nat) (s f : Nat → Int32) (i : Nat) : lft p s f (p + i) = f i := by
  unfold lft
  rw [if_neg (by omega), Nat.add_sub_cancel_left]
theorem lft_up (p : Nat) (s f : Nat → Int32) (i : Nat) (v : Int32) : upd (lft p s f) (p + i) v = lft p s (upd f i v) := by
  funext j
  unfold upd lft
  by_cases h1 : j < p
  · rw [if_neg (by omega), if_pos h1, if_pos h1]
  · rw [if_neg h1, if_neg h1]
    by_cases h2 : j = p + i
    · rw [if_pos h2]; exact (if_pos (by omega)).symm
    · rw [if_neg h2]; exact (if_neg (by omega)).symm
theorem lft_0 (s f : Nat → Int32) : lft 0 s f = f := by
  funext j
  unfold lft
  rw [if_neg (by omega), Nat.sub_zero]
/-- the world with the state g at place b -/
def GC (G0 : GS) (b : Nat) (g : GS) : GS := fun q => if b ≤ q ∧ q < b + 39 then g (q - b) else G0 q
theorem gc_in (G0 : GS) (b : Nat) (g : GS) {q c : Nat} (h : q = b + c) (hc : c < 39) : GC G0 b g q = g c := by
  subst h
  unfold GC
  rw [if_pos (by omega), Nat.add_sub_cancel_left]
theorem gc_out (G0 : GS) (b : Nat) (g : GS) {q : Nat} (h : q < b ∨ b + 39 ≤ q) : GC G0 b g q = G0 q := by
  unfold GC
  rw [if_neg (by omega)]
theorem gc_0 (G : GS) (b : Nat) : GC G b (fun c => G (b + c)) = G := by
  funext q
  unfold GC
  split
  · rename_i h
    show G (b + (q - b)) = G q
    rw [show b + (q - b) = q by omega]
  · rfl
theorem gc_at {G0 : GS} {b : Nat} {g : GS} {q c i : Nat} (h : q = b + c) (hc : c < 39) : GC G0 b g q i = g c i := by rw [gc_in _ _ _ h hc]
theorem gc_ld {G0 : GS} {b : Nat} {g : GS} {q c n : Nat} (h : q = b + c) (hc : c < 39) (hn : n < 2 ^ 31) : GC G0 b g q (nI n).toNatClampNeg = g c n := by rw [gc_in _ _ _ h hc, nI_clamp hn]
theorem gc_up1 {G0 : GS} {b : Nat} {g : GS} {q c : Nat} {r : Nat → Int32} (h : q = b + c) (hc : c < 39) : up1 (GC G0 b g) q r = GC G0 b (up1 g c r) := by
  subst h
  funext z
  unfold up1 GC
  by_cases h1 : z = b + c
  · rw [if_pos h1, if_pos (by omega)]; exact (if_pos (by omega)).symm
  · rw [if_neg h1]
    by_cases h2 : b ≤ z ∧ z < b + 39
    · rw [if_pos h2, if_pos h2]; exact (if_neg (by omega)).symm
    · rw [if_neg h2, if_neg h2]
theorem gc_up {G0 : GS} {b : Nat} {g : GS} {q c i : Nat} {v : Int32} (h : q = b + c) (hc : c < 39) : up2 (GC G0 b g) q i v = GC G0 b (up2 g c i v) := by
  rw [up2_1, up2_1, gc_up1 h hc, gc_in _ _ _ h hc]
theorem gc_st {G0 : GS} {b : Nat} {g : GS} {q c n : Nat} {v : Int32} (h : q = b + c) (hc : c < 39) (hn : n < 2 ^ 31) : up2 (GC G0 b g) q (nI n).toNatClampNeg v = GC G0 b (up2 g c n v) := by
  rw [nI_clamp hn, gc_up h hc]
theorem x_fn {w : WT} {K : KT} {nL : Nat} {pc : Nat} {L : List (Nat × Value)} {st : List Value} {α : Type} (V : α → GS) {f : α} (kk : ∀ f1 : α, f1 = f → XX w K nL (V f1) pc L st) : XX w K nL (V f) pc L st := kk f rfl
/-! THE MODEL'S ROW: what is foretold -/
def rFe (f : Nat → Int32) (i : Nat) : Nat := (f (308 + 4 * i)).toNatClampNeg
theorem rFe_eq {f : Nat → Int32} {i fe : Nat} (h : f (308 + 4 * i) = nI fe) (hf : fe < 2 ^ 31) : rFe f i = fe := by
  unfold rFe
  rw [h, nI_clamp hf]
abbrev rTells (f : Nat → Int32) (i : Nat) : Prop := f (308 + 4 * i) < f 300 ∧ f (40 + rFe f i) ≤ f (308 + 4 * i + 1)
abbrev rReach (f : Nat → Int32) (d i : Nat) : Prop := f (308 + 4 * i) < nI d ∧ nI d ≤ f (308 + 4 * i) + f (308 + 4 * i + 3)
def rAdd (f : Nat → Int32) (d i : Nat) : Int32 := if rTells f i ∧ rReach f d i then f (308 + 4 * i + 2) else 0
def rSum (f : Nat → Int32) (d : Nat) : Nat → Int32
  | 0 => f d
  | n + 1 => rSum f d n + rAdd f d n
def rTold (f : Nat → Int32) (d : Nat) : Int32 := bnd (rSum f d (f 307).toNatClampNeg)
/-! THE MEAN OF MISTAKES -/
def mSum (m : Nat → Int32) (d r : Nat) : Nat → Int32
  | 0 => 0
  | n + 1 => mSum m d r n + (if d ≤ n + r ∧ n ≤ d + r then m n else 0)
def mCnt (d r : Nat) : Nat → Nat
  | 0 => 0
  | n + 1 => mCnt d r n + (if d ≤ n + r ∧ n ≤ d + r then 1 else 0)
def mean (m : Nat → Int32) (d r : Nat) : Int32 := mSum m d r 20 / nI (mCnt d r 20)
theorem mCnt_le (d r : Nat) : ∀ n, mCnt d r n ≤ n
  | 0 => Nat.le_refl _
  | n + 1 => by
    have := mCnt_le d r n
    show mCnt d r n + _ ≤ n + 1
    split <;> omega
theorem mCnt_pos (d r : Nat) : ∀ n, d < n → 1 ≤ mCnt d r n
  | 0 => fun h => absurd h (by omega)
  | n + 1 => fun h => by
    show 1 ≤ mCnt d r n + _
    by_cases e : d = n
    · rw [if_pos (by omega)]; omega
    · have := mCnt_pos d r n (by omega)
      omega
theorem mSum_lo (m : Nat → Int32) (d r : Nat) : ∀ n, n + r ≤ d → mSum m d r n = 0 ∧ mCnt d r n = 0
  | 0 => fun _ => ⟨rfl, rfl⟩
  | n + 1 => fun h => by
    obtain ⟨h1, h2⟩ := mSum_lo m d r n (by omega)
    refine ⟨?_, ?_⟩
    · show mSum m d r n + _ = 0
      rw [h1, if_neg (by omega)]; rfl
    · show mCnt d r n + _ = 0
      rw [h2, if_neg (by omega)]
theorem mSum_hi (m : Nat → Int32) (d r n : Nat) (h : d + r < n) : ∀ k, mSum m d r (n + k) = mSum m d r n ∧ mCnt d r (n + k) = mCnt d r n
  | 0 => ⟨rfl, rfl⟩
  | k + 1 => by
    obtain ⟨h1, h2⟩ := mSum_hi m d r n h k
    refine ⟨?_, ?_⟩
    · show mSum m d r (n + k) + (if d ≤ (n + k) + r ∧ (n + k) ≤ d + r then m (n + k) else 0) = _
      rw [h1, if_neg (by omega), Int32.add_zero]
    · show mCnt d r (n + k) + (if d ≤ (n + k) + r ∧ (n + k) ≤ d + r then 1 else 0) = _
      rw [h2, if_neg (by omega), Nat.add_zero]
theorem mSum_end (m : Nat → Int32) (d r : Nat) (hd : d < 20) : mSum m d r (min 20 (d + r + 1)) = mSum m d r 20 ∧ mCnt d r (min 20 (d + r + 1)) = mCnt d r 20 := by
  by_cases h : 20 ≤ d + r + 1
  · rw [Nat.min_eq_left h]; exact ⟨rfl, rfl⟩
  · rw [Nat.min_eq_right (by omega)]
    have := mSum_hi m d r (d + r + 1) (by omega) (20 - (d + r + 1))
    rw [show d + r + 1 + (20 - (d + r + 1)) = 20 by omega] at this
    exact ⟨this.1.symm, this.2.symm⟩
/-- sums from the beginning on -/
def pSum (m : Nat → Int32) : Nat → Int32
  | 0 => 0
  | n + 1 => pSum m n + m n
def meanS (m : Nat → Int32) (d r : Nat) : Int32 := (pSum m (min 20 (d + r + 1)) - pSum m (d - r)) / nI (min 20 (d + r + 1) - (d - r))
theorem i32_add {x y : Int32} (h1 : -1000000000 ≤ x.toInt) (h2 : x.toInt ≤ 1000000000) (h3 : -1000000000 ≤ y.toInt) (h4 : y.toInt ≤ 1000000000) : (x + y).toInt = x.toInt + y.toInt := by
  rw [Int32.toInt_add]
  exact Int.bmod_eq_of_le (by omega) (by omega)
theorem i32_sub {x y : Int32} (h1 : -1000000000 ≤ x.toInt) (h2 : x.toInt ≤ 1000000000) (h3 : -1000000000 ≤ y.toInt) (h4 : y.toInt ≤ 1000000000) : (x - y).toInt = x.toInt - y.toInt := by
  rw [Int32.toInt_sub]
  exact Int.bmod_eq_of_le (by omega) (by omega)
theorem i32_nat {x : Int32} {n : Nat} (h : x.toInt = (n : Int)) : x = nI n := by
  have hb : x.toInt < 2 ^ 31 := by have := x.toInt_lt; omega
  apply Int32.toInt_inj.mp
  rw [nI_toInt (by omega), h]
theorem b01_f {p : Prop} [Decidable p] (h : ¬ b01 p = 0) : p := by
  unfold b01 at h
  split at h
  · assumption
  · exact absurd rfl h
theorem b01_t {p : Prop} [Decidable p] (h : b01 p = 0) : ¬ p := by
  unfold b01 at h
  split at h
  · exact absurd h (by decide)
  · assumption
theorem b01_pos {p : Prop} [Decidable p] (h : p) : b01 p = 1 := if_pos h
theorem b01_neg {p : Prop} [Decidable p] (h : ¬ p) : b01 p = 0 := if_neg h
theorem b01_iff {p q : Prop} [Decidable p] [Decidable q] (h : p ↔ q) : b01 p = b01 q := by
  unfold b01
  by_cases hp : p
  · rw [if_pos hp, if_pos (h.mp hp)]
  · rw [if_neg hp, if_neg (fun z => hp (h.mpr z))]
theorem inB_t {v lo hi : Int32} (h : inB v lo hi = 0) : ¬ (lo.toInt ≤ v.toInt ∧ v.toInt ≤ hi.toInt) := by
  have := b01_t h
  simpa only [Int32.le_iff_toInt_le] using this
theorem inB_f {v lo hi : Int32} (h : ¬ inB v lo hi = 0) : lo.toInt ≤ v.toInt ∧ v.toInt ≤ hi.toInt := by
  have := b01_f h
  simpa only [Int32.le_iff_toInt_le] using this
/-- what a day in range is -/
theorem inB_nat {v hi : Int32} {n : Nat} (hn : hi.toInt = n) (h : ¬ inB v 0 hi = 0) : ∃ d, d ≤ n ∧ v = nI d := by
  obtain ⟨h1, h2⟩ := inB_f h
  have h0 : (0 : Int32).toInt = 0 := rfl
  exact ⟨v.toInt.toNat, by omega, i32_nat (by omega)⟩
-- 07.mread.lean.txt
/-- the saints of a row: how many, and where their feasts are -/
def rSn (f : Nat → Int32) (c : Nat) : Prop := c ≤ 5 ∧ f 307 = nI c ∧ ∀ i, i < c → ∃ e, e < 20 ∧ f (308 + 4 * i) = nI e
-- 08.mmean.lean.txt
def lkRow (f m : Nat → Int32) (a : Nat) (k : Nat) : Nat → Int32 := fun j => if j < k then f (80 + 60 * a + j) else m j
theorem lkRow_up (f m : Nat → Int32) (a k : Nat) : upd (lkRow f m a k) k (f (80 + 60 * a + k)) = lkRow f m a (k + 1) := by
  funext j
  unfold upd lkRow
  by_cases h : j = k
  · subst h; rw [if_pos rfl, if_pos (by omega)]
  · rw [if_neg h]
    by_cases h2 : j < k
    · rw [if_pos h2, if_pos (by omega)]
    · rw [if_neg h2, if_neg (by omega)]
def lnRow (f m : Nat → Int32) (d : Nat) (k : Nat) : Nat → Int32 := fun j => if j < k then (if j < d then f (40 + j) - f (20 + j) else 0) else m j
theorem lnRow_up (f m : Nat → Int32) (d k : Nat) {v : Int32} (hv : v = if k < d then f (40 + k) - f (20 + k) else 0) : upd (lnRow f m d k) k v = lnRow f m d (k + 1) := by
  funext j
  unfold upd lnRow
  by_cases h : j = k
  · subst h; rw [if_pos rfl, if_pos (by omega), hv]
  · rw [if_neg h]
    by_cases h2 : j < k
    · rw [if_pos h2]; exact (if_pos (show j < k + 1 by omega)).symm
    · rw [if_neg h2]; exact (if_neg (show ¬ j < k + 1 by omega)).symm
-- 09.msettle.lean.txt
def rWin (f : Nat → Int32) (k : Nat) (t : Int32) : Int32 := f (328 + 5 * k + 1) * (if t = b01 (f (328 + 5 * k + 2) = 1) then 1 else f (303 + 3))
def rSetA (f : Nat → Int32) (k : Nat) (t : Int32) : Nat → Int32 :=
  upd (upd (upd f (328 + 5 * k + 0) (f (328 + 5 * k + 0) + (f (328 + 5 * k + 1) + rWin f k t))) 351 (upd f (328 + 5 * k + 0) (f (328 + 5 * k + 0) + (f (328 + 5 * k + 1) + rWin f k t)) 351 - rWin f k t)) (328 + 5 * k + 3)
    (upd (upd f (328 + 5 * k + 0) (f (328 + 5 * k + 0) + (f (328 + 5 * k + 1) + rWin f k t))) 351 (upd f (328 + 5 * k + 0) (f (328 + 5 * k + 0) + (f (328 + 5 * k + 1) + rWin f k t)) 351 - rWin f k t) (328 + 5 * k + 3) + 1)
def rSetB (f : Nat → Int32) (k : Nat) : Nat → Int32 := upd (upd f 351 (f 351 + f (328 + 5 * k + 1))) (328 + 5 * k + 4) (upd f 351 (f 351 + f (328 + 5 * k + 1)) (328 + 5 * k + 4) + 1)
def rSetE (f : Nat → Int32) (k : Nat) : Nat → Int32 := upd (upd f (328 + 5 * k + 1) 0) (328 + 5 * k + 2) 0
def rSet (f : Nat → Int32) (k : Nat) (t z : Int32) : Nat → Int32 :=
  if 0 < f (328 + 5 * k + 1) then (if b01 (f (328 + 5 * k + 2) = 1) = z then rSetE (rSetA f k t) k else rSetE (rSetB f k) k) else rSetE f k
-- 10.mends.lean.txt
def e1Row (f : Nat → Int32) (k : Nat) : Nat → Int32 := fun i => if 60 + k < i ∧ i < 300 then f (i - 60) else f i
theorem e1Row_up (f : Nat → Int32) (k : Nat) (hk : 60 ≤ k + 1) (hk2 : k < 239) : upd (e1Row f (k + 1)) (60 + (k + 1)) (e1Row f (k + 1) (k + 1)) = e1Row f k := by
  funext i
  unfold upd e1Row
  by_cases h : i = 60 + (k + 1)
  · rw [if_pos h, if_neg (by omega), if_pos (by omega), show i - 60 = k + 1 by omega]
  · rw [if_neg h]
    by_cases h2 : 60 + (k + 1) < i ∧ i < 300
    · rw [if_pos h2, if_pos (by omega)]
    · rw [if_neg h2, if_neg (by omega)]
theorem e1Row_0 (f : Nat → Int32) : e1Row f 239 = f := by
  funext i
  unfold e1Row
  rw [if_neg (by omega)]
def e2Row (g m : Nat → Int32) (k : Nat) : Nat → Int32 := fun i => if 60 ≤ i ∧ i < 60 + k then g (i - 20) else if 80 ≤ i ∧ i < 80 + k then m (i - 80) else if 100 ≤ i ∧ i < 100 + k then g (i - 100) else g i
theorem e2Row_up (g m : Nat → Int32) (k : Nat) (hk : k < 20) : upd (upd (upd (e2Row g m k) (60 + k) (g (40 + k))) (60 + 20 + k) (m k)) (60 + 40 + k) (g (0 + k)) = e2Row g m (k + 1) := by
  funext i
  unfold upd e2Row
  by_cases h : i = 60 + 40 + k
  · rw [if_pos h, if_neg (by omega), if_neg (by omega), if_pos (by omega), show i - 100 = 0 + k by omega]
  · rw [if_neg h]
    by_cases h2 : i = 60 + 20 + k
    · rw [if_pos h2, if_neg (by omega), if_pos (by omega), show i - 80 = k by omega]
    · rw [if_neg h2]
      by_cases h3 : i = 60 + k
      · rw [if_pos h3, if_pos (by omega), show i - 20 = 40 + k by omega]
      · rw [if_neg h3]
        by_cases h4 : 60 ≤ i ∧ i < 60 + k
        · rw [if_pos h4, if_pos (by omega)]
        · rw [if_neg h4, if_neg (show ¬ (60 ≤ i ∧ i < 60 + (k + 1)) by omega)]
          by_cases h5 : 80 ≤ i ∧ i < 80 + k
          · rw [if_pos h5, if_pos (by omega)]
          · rw [if_neg h5, if_neg (show ¬ (80 ≤ i ∧ i < 80 + (k + 1)) by omega)]
            by_cases h6 : 100 ≤ i ∧ i < 100 + k
            · rw [if_pos h6, if_pos (by omega)]
            · rw [if_neg h6, if_neg (by omega)]
theorem e2Row_n (g m : Nat → Int32) (k i : Nat) (hk : k ≤ 20) (h : i < 60 ∨ 120 ≤ i) : e2Row g m k i = g i := by
  unfold e2Row
  rw [if_neg (by omega), if_neg (by omega), if_neg (by omega)]
def e3Row (h m : Nat → Int32) (r k : Nat) : Nat → Int32 := fun i => if i < k then bnd (h i + mean m i r * h (303 + 1) / 100) else h i
theorem e3Row_up (h m : Nat → Int32) (r k : Nat) : upd (e3Row h m r k) (0 + k) (bnd (h (0 + k) + mean m k r * h (303 + 1) / 100)) = e3Row h m r (k + 1) := by
  funext i
  unfold upd e3Row
  by_cases e : i = 0 + k
  · rw [if_pos e, if_pos (by omega), show 0 + k = i by omega, show k = i by omega]
  · rw [if_neg e]
    by_cases e2 : i < k
    · rw [if_pos e2, if_pos (by omega)]
    · rw [if_neg e2, if_neg (by omega)]
theorem e3Row_n (h m : Nat → Int32) (r k i : Nat) (e : k ≤ i) : e3Row h m r k i = h i := if_neg (by omega)
def mm (f : Nat → Int32) : Nat → Int32 := fun j => f (40 + j) - f (20 + j)
theorem mSum_congr {m m' : Nat → Int32} (d r : Nat) : ∀ n, (∀ j, j < n → m j = m' j) → mSum m d r n = mSum m' d r n
  | 0 => fun _ => rfl
  | n + 1 => fun h => by
    show mSum m d r n + _ = mSum m' d r n + _
    rw [mSum_congr d r n (fun j hj => h j (by omega)), h n (by omega)]
theorem mean_congr {m m' : Nat → Int32} (d r : Nat) (h : ∀ j, j < 20 → m j = m' j) : mean m d r = mean m' d r := by
  unfold mean
  rw [mSum_congr d r 20 h]
theorem lnRow_in (f m : Nat → Int32) {j : Nat} (h : j < 20) : lnRow f m 20 20 j = mm f j := by
  unfold lnRow mm
  rw [if_pos h, if_pos h]
def rEnd1 (f : Nat → Int32) : Nat → Int32 := e1Row f 59
def rEnd2 (f : Nat → Int32) : Nat → Int32 := e2Row (rEnd1 f) (mm f) 20
def rEnd3 (f : Nat → Int32) (r : Nat) : Nat → Int32 := e3Row (rEnd2 f) (mm f) r 20
def rEnds (f : Nat → Int32) (r : Nat) : Nat → Int32 := upd (upd (upd (rEnd3 f r) 302 (rEnd3 f r 302 + (if rEnd3 f r 302 < 4 then 1 else 0))) 300 0) 301 (upd (upd (rEnd3 f r) 302 (rEnd3 f r 302 + (if rEnd3 f r 302 < 4 then 1 else 0))) 300 0 301 + 1)
/-- the reach, which is read in the first row -/
def h303 (p : Nat) (s f : Nat → Int32) (r : Nat) : Prop := r ≤ 9 ∧ ((p = 0 ∧ f 303 = nI r) ∨ (p = 354 ∧ s 303 = nI r))
-- 11.mmeas.lean.txt
theorem rSet_n (f : Nat → Int32) (k : Nat) (t z : Int32) (i : Nat) (h : i < 328 ∨ (328 + 5 * k + 5 ≤ i ∧ i ≠ 351) ∨ (328 ≤ i ∧ i < 328 + 5 * k)) : i ≠ 351 → rSet f k t z i = f i := by
  intro h2
  unfold rSet
  split
  · split
    · unfold rSetE rSetA
      rw [upd_n _ _ (by omega), upd_n _ _ (by omega), upd_n _ _ (by omega), upd_n _ _ (by omega), upd_n _ _ (by omega)]
    · unfold rSetE rSetB
      rw [upd_n _ _ (by omega), upd_n _ _ (by omega), upd_n _ _ (by omega), upd_n _ _ (by omega)]
  · unfold rSetE
    rw [upd_n _ _ (by omega), upd_n _ _ (by omega)]
def rSets (f : Nat → Int32) (t z : Int32) : Nat → Nat → Int32
  | 0 => f
  | k + 1 => rSet (rSets f t z k) k t z
theorem rSets_n (f : Nat → Int32) (t z : Int32) (i : Nat) (h : i < 328) : ∀ k, k ≤ 4 → rSets f t z k i = f i
  | 0 => fun _ => rfl
  | k + 1 => fun hk => by
    show rSet (rSets f t z k) k t z i = f i
    rw [rSet_n _ _ _ _ _ (Or.inl h) (by omega), rSets_n f t z i h k (by omega)]
def rPre (f : Nat → Int32) (w told : Int32) (d : Nat) (t z : Int32) : Nat → Int32 :=
  upd (upd (upd (upd (upd f (20 + d) told) (40 + d) w) 348 (upd (upd f (20 + d) told) (40 + d) w 348 + (if z = 0 then 0 else if t = 0 then 0 else 1))) (348 + 1) (upd (upd (upd f (20 + d) told) (40 + d) w) 348 (upd (upd f (20 + d) told) (40 + d) w 348 + (if z = 0 then 0 else if t = 0 then 0 else 1)) (348 + 1) + (if z = 0 then 0 else if t = 0 then 1 else 0))) (348 + 2)
    (upd (upd (upd (upd f (20 + d) told) (40 + d) w) 348 (upd (upd f (20 + d) told) (40 + d) w 348 + (if z = 0 then 0 else if t = 0 then 0 else 1))) (348 + 1) (upd (upd (upd f (20 + d) told) (40 + d) w) 348 (upd (upd f (20 + d) told) (40 + d) w 348 + (if z = 0 then 0 else if t = 0 then 0 else 1)) (348 + 1) + (if z = 0 then 0 else if t = 0 then 1 else 0)) (348 + 2) + (if z = 0 then (if t = 0 then 0 else 1) else 0))
theorem rPre_n (f : Nat → Int32) (w told : Int32) (d : Nat) (t z : Int32) (i : Nat) (hd : d < 20) (h : i < 20 ∨ 60 ≤ i) (h2 : i < 348 ∨ 351 ≤ i) : rPre f w told d t z i = f i := by
  unfold rPre
  rw [upd_n _ _ (by omega), upd_n _ _ (by omega), upd_n _ _ (by omega), upd_n _ _ (by omega), upd_n _ _ (by omega)]
def rSettled (f : Nat → Int32) (w told : Int32) (d : Nat) (t z : Int32) : Nat → Int32 := rSets (rPre f w told d t z) t z 4
def rMid (f : Nat → Int32) (w told : Int32) (d : Nat) (t z : Int32) : Nat → Int32 :=
  upd (upd (upd (rSettled f w told d t z) 352 (rSettled f w told d t z 352 + szI (w - told))) 353 (upd (rSettled f w told d t z) 352 (rSettled f w told d t z 352 + szI (w - told)) 353 + 1)) 300 (nI (d + 1))
theorem rMid_n (f : Nat → Int32) (w told : Int32) (d : Nat) (t z : Int32) (i : Nat) (hd : d < 20) (h : i < 20 ∨ 60 ≤ i) (h2 : i < 328) (h3 : i ≠ 300) : rMid f w told d t z i = f i := by
  unfold rMid
  rw [upd_n _ _ (by omega), upd_n _ _ (by omega), upd_n _ _ (by omega)]
  unfold rSettled
  rw [rSets_n _ _ _ _ h2 4 (by omega), rPre_n _ _ _ _ _ _ _ hd h (by omega)]
def rT (f : Nat → Int32) (d : Nat) : Int32 := b01 (rTold f d ≤ f (303 + 2))
def rGo (f : Nat → Int32) (w : Int32) (d : Nat) : Nat → Int32 := rMid f w (rTold f d) d (rT f d) (b01 (w ≤ 0))
def rMeas (f : Nat → Int32) (w : Int32) (d r : Nat) : Nat → Int32 := if d + 1 = 20 then rEnds (rGo f w d) r else rGo f w d
def rMis (f m : Nat → Int32) (w : Int32) (d : Nat) : Nat → Int32 := if d + 1 = 20 then lnRow (rGo f w d) m 20 20 else m
-- 12.mrem.lean.txt
theorem up1_up1 (G : GS) (k : Nat) (r r' : Nat → Int32) : up1 (up1 G k r) k r' = up1 G k r' := by
  funext q
  unfold up1
  split <;> rfl
theorem up1_self (G : GS) (k : Nat) : up1 G k (G k) = G := by
  funext q
  unfold up1
  split
  · rename_i h; rw [h]
  · rfl
theorem up2_up1 (G : GS) (k i : Nat) (r : Nat → Int32) (v : Int32) : up2 (up1 G k r) k i v = up1 G k (upd r i v) := by
  rw [up2_1, up1_s, up1_up1]
/-- a row that is being written from its beginning on -/
def cpRow (src dst : Nat → Int32) (a n : Nat) : Nat → Int32 := fun j => if a ≤ j ∧ j < a + n then src (j - a) else dst j
theorem cpRow_0 (src dst : Nat → Int32) (a : Nat) : cpRow src dst a 0 = dst := by
  funext j
  unfold cpRow
  rw [if_neg (by omega)]
theorem cpRow_up (src dst : Nat → Int32) (a n : Nat) : upd (cpRow src dst a n) (a + n) (src n) = cpRow src dst a (n + 1) := by
  funext j
  unfold upd cpRow
  by_cases h : j = a + n
  · rw [if_pos h, if_pos (by omega), show j - a = n by omega]
  · rw [if_neg h]
    by_cases h2 : a ≤ j ∧ j < a + n
    · rw [if_pos h2, if_pos (by omega)]
    · rw [if_neg h2, if_neg (by omega)]
def shRow (p : Nat → Int32) (n : Nat) : Nat → Int32 := fun j => if j < n then p (j + 354) else p j
theorem shRow_up (p : Nat → Int32) (n : Nat) : upd (shRow p n) n (p (354 + n)) = shRow p (n + 1) := by
  funext j
  unfold upd shRow
  by_cases h : j = n
  · rw [if_pos h, if_pos (by omega), show j + 354 = 354 + n by omega]
  · rw [if_neg h]
    by_cases h2 : j < n
    · rw [if_pos h2, if_pos (by omega)]
    · rw [if_neg h2, if_neg (by omega)]
/-- what remembering leaves -/
def remT (G : GS) (m : Nat) : GS := up2 (up1 G 241 (cpRow (G 240) (G 241) (354 * m) 354)) 239 2 (nI (m + 1))
def remG (G : GS) (n : Nat) : GS := if n = 4 then remT (up2 (up1 G 241 (shRow (G 241) 1062)) 239 2 (nI 3)) 3 else remT G n
-- 13.abs.lean.txt
/-! THE ABSTRACT STATE: the row, how many are known behind it, these, whether there is a snapshot, it, the text's length, the text -/
abbrev AT : Type := (Nat → Int32) × Nat × (Nat → Nat → Int32) × Int32 × (Nat → Int32) × Nat × (Nat → Int32)
abbrev aF (A : AT) : Nat → Int32 := A.1
abbrev aN (A : AT) : Nat := A.2.1
abbrev aH (A : AT) : Nat → Nat → Int32 := A.2.2.1
abbrev aK (A : AT) : Int32 := A.2.2.2.1
abbrev aS (A : AT) : Nat → Int32 := A.2.2.2.2.1
abbrev aL (A : AT) : Nat := A.2.2.2.2.2.1
abbrev aT (A : AT) : Nat → Int32 := A.2.2.2.2.2.2
def aEq (A B : AT) : Prop := (∀ i, i < 354 → aF A i = aF B i) ∧ aN A = aN B ∧ (∀ i, i < aN B → ∀ j, j < 354 → aH A i j = aH B i j) ∧ aK A = aK B ∧ (aK B ≠ 0 → ∀ j, j < 354 → aS A j = aS B j) ∧ aL A = aL B ∧ ∀ i, i < aL B → aT A i = aT B i
def dN (f : Nat → Int32) : Nat := (f 300).toNatClampNeg
def yN (f : Nat → Int32) : Nat := (f 301).toNatClampNeg
def rN (f : Nat → Int32) : Nat := (f 303).toNatClampNeg
def cN (f : Nat → Int32) : Nat := (f 307).toNatClampNeg
/-- a row is good: B bounds its year -/
def RV (f : Nat → Int32) (B : Nat) : Prop := (dN f < 20 ∧ f 300 = nI (dN f)) ∧ (yN f ≤ B ∧ f 301 = nI (yN f) ∧ f 302 = nI (min (yN f) 4)) ∧ (rN f ≤ 9 ∧ f 303 = nI (rN f)) ∧ (∃ o, 1 ≤ o ∧ o ≤ 9 ∧ f 306 = nI o) ∧ rSn f (cN f) ∧ ∀ k, k < 4 → ∃ x, x ≤ 1000 ∧ f (328 + 5 * k + 1) = nI x ∧ (f (328 + 5 * k + 2) = 0 ∨ f (328 + 5 * k + 2) = 1)
def AV (A : AT) (B : Nat) : Prop := aN A ≤ 4 ∧ RV (aF A) B ∧ (∀ i, i < aN A → RV (aH A i) B) ∧ (aK A = 0 ∨ aK A = 1) ∧ (aK A = 1 → RV (aS A) B) ∧ aL A ≤ 60
def aRem (A : AT) : AT := (aF A, (if aN A = 4 then 3 else aN A) + 1, (fun i => if i = (if aN A = 4 then 3 else aN A) then aF A else if aN A = 4 then aH A (i + 1) else aH A i), aK A, aS A, aL A, aT A)
def aPut (A : AT) (f : Nat → Int32) : AT := (f, A.2)
theorem aEq_rf (A : AT) : aEq A A := ⟨fun _ _ => rfl, rfl, fun _ _ _ _ => rfl, rfl, fun _ _ _ => rfl, rfl, fun _ _ => rfl⟩
theorem up2_r (G : GS) {k q : Nat} (i : Nat) (v : Int32) (h : q ≠ k) : up2 G k i v q = G q := if_neg h
theorem remG_q (G : GS) (n q : Nat) (h1 : q ≠ 239) (h2 : q ≠ 241) : remG G n q = G q := by
  unfold remG remT
  split
  · rw [up2_r _ _ _ h1, up1_n _ _ h2, up2_r _ _ _ h1, up1_n _ _ h2]
  · rw [up2_r _ _ _ h1, up1_n _ _ h2]
theorem remT_239 (G : GS) (m i : Nat) (h : i ≠ 2) : remT G m 239 i = G 239 i := by
  unfold remT
  rw [up2_i _ _ _ _ h, up1_n _ _ (by omega)]
theorem remG_239 (G : GS) (n i : Nat) (h : i ≠ 2) : remG G n 239 i = G 239 i := by
  unfold remG
  split
  · rw [remT_239 _ _ _ h, up2_i _ _ _ _ h, up1_n _ _ (by omega)]
  · rw [remT_239 _ _ _ h]
theorem remG_n (G : GS) (n : Nat) : remG G n 239 2 = nI ((if n = 4 then 3 else n) + 1) := by
  unfold remG
  split
  · exact up2_s _ _ _ _
  · exact up2_s _ _ _ _
theorem remG_h (G : GS) (n : Nat) (hn : n ≤ 4) (i j : Nat) (hi : i < (if n = 4 then 3 else n) + 1) (hj : j < 354) : remG G n 241 (354 * i + j) = (if i = (if n = 4 then 3 else n) then G 240 j else if n = 4 then G 241 (354 * (i + 1) + j) else G 241 (354 * i + j)) := by
  unfold remG
  by_cases h4 : n = 4
  · rw [if_pos h4, if_pos h4]
    rw [if_pos h4] at hi
    unfold remT
    rw [up2_r _ _ _ (by omega), up1_s, up2_r _ _ _ (show 240 ≠ 239 by omega), up1_n _ _ (show 240 ≠ 241 by omega), up2_r _ _ _ (show 241 ≠ 239 by omega), up1_s]
    unfold cpRow
    by_cases e : i = 3
    · rw [if_pos (by omega), if_pos e, show 354 * i + j - 354 * 3 = j by omega]
    · rw [if_neg (by omega), if_neg e, if_pos h4]
      unfold shRow
      rw [if_pos (by omega), show 354 * i + j + 354 = 354 * (i + 1) + j by omega]
  · rw [if_neg h4, if_neg h4]
    rw [if_neg h4] at hi
    unfold remT
    rw [up2_r _ _ _ (by omega), up1_s]
    unfold cpRow
    by_cases e : i = n
    · rw [if_pos (by omega), if_pos e, show 354 * i + j - 354 * n = j by subst e; omega]
    · rw [if_neg (by omega), if_neg e, if_neg h4]
/-! THE ANSWERS, AND WHAT STANDS BEHIND THEM -/
def qMeasure (A : AT) (v : Int32) : Int32 := if inB v (-40) 40 = 0 then -2 else v - rTold (aF A) (dN (aF A)) + 1000
def tMeasure (A : AT) (v : Int32) : AT := if inB v (-40) 40 = 0 then A else aPut (aRem A) (rMeas (aF A) v (dN (aF A)) (rN (aF A)))
def qBase (A : AT) (x b : Int32) : Int32 := if inB x 0 19 = 0 then -1 else if inB b (-40) 40 = 0 then -2 else if x < aF A 300 then -4 else if aF A x.toNatClampNeg = b then -5 else aF A x.toNatClampNeg + 1000
def tBase (A : AT) (x b : Int32) : AT := if inB x 0 19 = 0 then A else if inB b (-40) 40 = 0 then A else if x < aF A 300 then A else if aF A x.toNatClampNeg = b then A else aPut (aRem A) (upd (aF A) x.toNatClampNeg b)
def rSaint (f : Nat → Int32) (c : Nat) (x b e t : Int32) : Nat → Int32 := upd (upd (upd (upd (upd f (308 + 4 * c) x) (308 + 4 * c + 1) b) (308 + 4 * c + 2) e) (308 + 4 * c + 3) t) 307 (nI (c + 1))
def bSaint (b e t : Int32) : Prop := inB b (-40) 40 = 0 ∨ inB e (-20) 20 = 0 ∨ inB t 1 9 = 0
def qSaint (A : AT) (x b e t : Int32) : Int32 := if inB x 0 19 = 0 then -1 else if inB b (-40) 40 = 0 then -2 else if inB e (-20) 20 = 0 then -2 else if inB t 1 9 = 0 then -2 else if cN (aF A) = 5 then -3 else nI (cN (aF A))
def tSaint (A : AT) (x b e t : Int32) : AT := if inB x 0 19 = 0 then A else if inB b (-40) 40 = 0 then A else if inB e (-20) 20 = 0 then A else if inB t 1 9 = 0 then A else if cN (aF A) = 5 then A else aPut (aRem A) (rSaint (aF A) (cN (aF A)) x b e t)
/-- whether x is a saint of c -/
def sB (x : Int32) (c : Nat) : Int32 := inB x 0 (nI c - 1)
def stRow (f : Nat → Int32) (i k : Nat) : Nat → Int32 := fun j => if 308 + 4 * i ≤ j ∧ j < k then f (j + 4) else f j
def rStrike (f : Nat → Int32) (i c : Nat) : Nat → Int32 := stRow (upd f 307 (nI (c - 1))) i (308 + 4 * (c - 1))
def qStrike (A : AT) (x : Int32) : Int32 := if sB x (cN (aF A)) = 0 then -1 else nI (cN (aF A) - 1)
def tStrike (A : AT) (x : Int32) : AT := if sB x (cN (aF A)) = 0 then A else aPut (aRem A) (rStrike (aF A) x.toNatClampNeg (cN (aF A)))
def canSet (x v : Int32) : Int32 := if x = 0 then inB v 0 9 else if x = 1 then inB v 0 100 else if x = 2 then inB v (-20) 20 else if x = 3 then inB v 1 9 else 0
def qSet (A : AT) (x v : Int32) : Int32 := if canSet x v = 0 then -2 else if aF A (303 + x.toNatClampNeg) = v then -5 else aF A (303 + x.toNatClampNeg) + 1000
def tSet (A : AT) (x v : Int32) : AT := if canSet x v = 0 then A else if aF A (303 + x.toNatClampNeg) = v then A else aPut (aRem A) (upd (aF A) (303 + x.toNatClampNeg) v)
def rBet (f : Nat → Int32) (k : Nat) (z n : Int32) : Nat → Int32 := upd (upd (upd f (328 + 5 * k + 0) (f (328 + 5 * k + 0) - n)) (328 + 5 * k + 1) n) (328 + 5 * k + 2) z
def qBet (A : AT) (x z n : Int32) : Int32 := if inB x 0 3 = 0 then -1 else if inB n 1 1000 = 0 then -2 else if 0 < aF A (328 + 5 * x.toNatClampNeg + 1) then -4 else if aF A (328 + 5 * x.toNatClampNeg + 0) < n then -4 else aF A (328 + 5 * x.toNatClampNeg + 0) - n
def tBet (A : AT) (x z n : Int32) : AT := if inB x 0 3 = 0 then A else if inB n 1 1000 = 0 then A else if 0 < aF A (328 + 5 * x.toNatClampNeg + 1) then A else if aF A (328 + 5 * x.toNatClampNeg + 0) < n then A else aPut (aRem A) (rBet (aF A) x.toNatClampNeg z n)
def rTake (f : Nat → Int32) (k : Nat) : Nat → Int32 := upd (upd (upd f (328 + 5 * k + 0) (f (328 + 5 * k + 0) + f (328 + 5 * k + 1))) (328 + 5 * k + 1) 0) (328 + 5 * k + 2) 0
def qTake (A : AT) (x : Int32) : Int32 := if inB x 0 3 = 0 then -1 else if aF A (328 + 5 * x.toNatClampNeg + 1) = 0 then -5 else aF A (328 + 5 * x.toNatClampNeg + 0) + aF A (328 + 5 * x.toNatClampNeg + 1)
def tTake (A : AT) (x : Int32) : AT := if inB x 0 3 = 0 then A else if aF A (328 + 5 * x.toNatClampNeg + 1) = 0 then A else aPut (aRem A) (rTake (aF A) x.toNatClampNeg)
def qUndo (A : AT) : Int32 := if aN A = 0 then -5 else nI (aN A - 1)
def tUndo (A : AT) : AT := if aN A = 0 then A else (aH A (aN A - 1), aN A - 1, A.2.2)
def qKeep (A : AT) : Int32 := aF A 353
def tKeep (A : AT) : AT := (aF A, aN A, aH A, 1, aF A, A.2.2.2.2.2)
def qRestore (A : AT) : Int32 := if aK A = 0 then -5 else aS A 353
def tRestore (A : AT) : AT := if aK A = 0 then A else aPut (aRem A) (aS A)
-- 14.macts.lean.txt
theorem sB_f {x : Int32} {c : Nat} (hc : c ≤ 5) (h : ¬ sB x c = 0) : ∃ i, i < c ∧ x = nI i := by
  obtain ⟨h1, h2⟩ := inB_f h
  rw [i32_sub (by rw [nI_toInt (by omega)]; omega) (by rw [nI_toInt (by omega)]; omega) (by decide) (by decide), nI_toInt (by omega), show (1 : Int32).toInt = 1 from rfl] at h2
  have h0 : (0 : Int32).toInt = 0 := rfl
  exact ⟨x.toInt.toNat, by omega, i32_nat (by omega)⟩
theorem sB_t {x : Int32} {c : Nat} (hc : c ≤ 5) (h : sB x c = 0) (i : Nat) (hi : i < c) : x ≠ nI i := by
  intro e
  subst e
  have := inB_t h
  rw [i32_sub (by rw [nI_toInt (by omega)]; omega) (by rw [nI_toInt (by omega)]; omega) (by decide) (by decide), nI_toInt (by omega), nI_toInt (by omega), show (1 : Int32).toInt = 1 from rfl, show (0 : Int32).toInt = 0 from rfl] at this
  omega
theorem stRow_up (f : Nat → Int32) (i k : Nat) (h : 308 + 4 * i ≤ k) : upd (stRow f i k) k (stRow f i k (k + 4)) = stRow f i (k + 1) := by
  funext j
  unfold upd stRow
  by_cases e : j = k
  · rw [if_pos e, if_neg (by omega), if_pos (by omega), e]
  · rw [if_neg e]
    by_cases h2 : 308 + 4 * i ≤ j ∧ j < k
    · rw [if_pos h2, if_pos (by omega)]
    · rw [if_neg h2, if_neg (by omega)]
theorem stRow_0 (f : Nat → Int32) (i : Nat) : stRow f i (308 + 4 * i) = f := by
  funext j
  unfold stRow
  rw [if_neg (by omega)]
theorem stRow_n (f : Nat → Int32) (i k j : Nat) (h : j < 308 ∨ k ≤ j) : stRow f i k j = f j := by
  unfold stRow
  rw [if_neg (by omega)]
-- 15.macts2.lean.txt
theorem canSet_01 (x v : Int32) : canSet x v = 0 ∨ canSet x v = 1 := by
  unfold canSet
  repeat' split
  all_goals first | exact b01_le _ | exact Or.inl rfl
theorem canSet_f {x v : Int32} (h : ¬ canSet x v = 0) : ∃ i, i < 4 ∧ x = nI i := by
  unfold canSet at h
  by_cases h0 : x = 0
  · exact ⟨0, by omega, h0⟩
  by_cases h1 : x = 1
  · exact ⟨1, by omega, h1⟩
  by_cases h2 : x = 2
  · exact ⟨2, by omega, h2⟩
  by_cases h3 : x = 3
  · exact ⟨3, by omega, h3⟩
  rw [if_neg h0, if_neg h1, if_neg h2, if_neg h3] at h
  exact absurd rfl h
-- 16.macts3.lean.txt
theorem cp_at (src dst : Nat → Int32) (n i : Nat) (h : i < n) : cpRow src dst 0 n i = src i := by
  unfold cpRow
  rw [if_pos (by omega), Nat.sub_zero]
theorem cp_n (src dst : Nat → Int32) (n i : Nat) (h : n ≤ i) : cpRow src dst 0 n i = dst i := by
  unfold cpRow
  rw [if_neg (by omega)]
theorem cp_up0 (src dst : Nat → Int32) (n : Nat) : upd (cpRow src dst 0 n) n (src n) = cpRow src dst 0 (n + 1) := by
  have := cpRow_up src dst 0 n
  rw [Nat.zero_add] at this
  exact this
-- 17.rv.lean.txt
theorem dN_eq {f : Nat → Int32} {n : Nat} (h : f 300 = nI n) (hn : n < 2 ^ 31) : dN f = n := by
  unfold dN
  rw [h, nI_clamp hn]
theorem RV_of {f : Nat → Int32} {B d y r c : Nat} (hd : d < 20) (h0 : f 300 = nI d) (hy : y ≤ B) (hB : B < 2 ^ 31) (h1 : f 301 = nI y) (h2 : f 302 = nI (min y 4)) (hr : r ≤ 9) (h3 : f 303 = nI r) (ho : ∃ o, 1 ≤ o ∧ o ≤ 9 ∧ f 306 = nI o) (hs : rSn f c) (hb : ∀ k, k < 4 → ∃ x, x ≤ 1000 ∧ f (328 + 5 * k + 1) = nI x ∧ (f (328 + 5 * k + 2) = 0 ∨ f (328 + 5 * k + 2) = 1)) : RV f B := by
  have e1 : dN f = d := dN_eq h0 (by omega)
  have e2 : yN f = y := by unfold yN; rw [h1, nI_clamp (by omega)]
  have e3 : rN f = r := by unfold rN; rw [h3, nI_clamp (by omega)]
  have hc := hs.1
  have e4 : cN f = c := by unfold cN; rw [hs.2.1, nI_clamp (by omega)]
  unfold RV
  rw [e1, e2, e3, e4]
  exact ⟨⟨hd, h0⟩, ⟨hy, h1, h2⟩, ⟨hr, h3⟩, ho, hs, hb⟩
theorem rSn_congr {f f' : Nat → Int32} {c : Nat} (h : ∀ i, 307 ≤ i → i < 328 → f' i = f i) (hs : rSn f c) : rSn f' c := by
  refine ⟨hs.1, by rw [h 307 (by omega) (by omega)]; exact hs.2.1, fun i hi => ?_⟩
  have hc := hs.1
  rw [h (308 + 4 * i) (by omega) (by omega)]
  exact hs.2.2 i hi
theorem RV_congr {f f' : Nat → Int32} {B : Nat} (hB : B < 2 ^ 31) (h : ∀ i, i < 354 → f' i = f i) (hv : RV f B) : RV f' B := by
  obtain ⟨⟨a1, a2⟩, ⟨b1, b2, b3⟩, ⟨c1, c2⟩, ho, hs, hb⟩ := hv
  refine RV_of a1 (by rw [h 300 (by omega)]; exact a2) b1 hB (by rw [h 301 (by omega)]; exact b2) (by rw [h 302 (by omega)]; exact b3) c1 (by rw [h 303 (by omega)]; exact c2) (by rw [h 306 (by omega)]; exact ho) (rSn_congr (fun i _ h2 => h i (by omega)) hs) (fun k hk => ?_)
  rw [h (328 + 5 * k + 1) (by omega), h (328 + 5 * k + 2) (by omega)]
  exact hb k hk
theorem RV_mono {f : Nat → Int32} {B B' : Nat} (h : B ≤ B') (hv : RV f B) : RV f B' := ⟨hv.1, ⟨by have := hv.2.1.1; omega, hv.2.1.2⟩, hv.2.2⟩
theorem rSet_z (f : Nat → Int32) (k : Nat) (t z : Int32) : rSet f k t z (328 + 5 * k + 1) = 0 ∧ rSet f k t z (328 + 5 * k + 2) = 0 := by
  have key : ∀ g : Nat → Int32, rSetE g k (328 + 5 * k + 1) = 0 ∧ rSetE g k (328 + 5 * k + 2) = 0 := fun g => by
    unfold rSetE
    exact ⟨by rw [upd_n _ _ (by omega), upd_s], upd_s _ _ _⟩
  unfold rSet
  split
  · split
    · exact key _
    · exact key _
  · exact key _
theorem rSets_z (f : Nat → Int32) (t z : Int32) (k : Nat) : ∀ n, k < n → n ≤ 4 → rSets f t z n (328 + 5 * k + 1) = 0 ∧ rSets f t z n (328 + 5 * k + 2) = 0
  | 0 => fun h _ => absurd h (by omega)
  | n + 1 => fun h hn => by
    show rSet (rSets f t z n) n t z _ = 0 ∧ rSet (rSets f t z n) n t z _ = 0
    by_cases e : k = n
    · subst e; exact rSet_z _ _ _ _
    · rw [rSet_n _ _ _ _ _ (by omega) (by omega), rSet_n _ _ _ _ _ (by omega) (by omega)]
      exact rSets_z f t z k n (by omega) (by omega)
theorem rMid_z (f : Nat → Int32) (w told : Int32) (d : Nat) (t z : Int32) (k : Nat) (hk : k < 4) : rMid f w told d t z (328 + 5 * k + 1) = 0 ∧ rMid f w told d t z (328 + 5 * k + 2) = 0 := by
  unfold rMid
  rw [upd_n _ _ (by omega), upd_n _ _ (by omega), upd_n _ _ (by omega), upd_n _ _ (by omega), upd_n _ _ (by omega), upd_n _ _ (by omega)]
  exact rSets_z _ _ _ _ 4 hk (by omega)
theorem rEnd3_n (f : Nat → Int32) (r i : Nat) (h : 300 ≤ i) : rEnd3 f r i = f i := by
  unfold rEnd3
  rw [e3Row_n _ _ _ _ _ (by omega)]
  unfold rEnd2
  rw [e2Row_n _ _ _ _ (by omega) (by omega)]
  unfold rEnd1 e1Row
  rw [if_neg (by omega)]
theorem rEnds_n (f : Nat → Int32) (r i : Nat) (h : 303 ≤ i) : rEnds f r i = f i := by
  unfold rEnds
  rw [upd_n _ _ (by omega), upd_n _ _ (by omega), upd_n _ _ (by omega), rEnd3_n _ _ _ (by omega)]
theorem rEnds_300 (f : Nat → Int32) (r : Nat) : rEnds f r 300 = 0 := by
  unfold rEnds
  rw [upd_n _ _ (by omega), upd_s]
theorem rEnds_301 (f : Nat → Int32) (r : Nat) : rEnds f r 301 = f 301 + 1 := by
  unfold rEnds
  rw [upd_s, upd_n _ _ (by omega), upd_n _ _ (by omega), rEnd3_n _ _ _ (by omega)]
theorem rEnds_302 (f : Nat → Int32) (r : Nat) : rEnds f r 302 = f 302 + (if f 302 < 4 then 1 else 0) := by
  unfold rEnds
  rw [upd_n _ _ (by omega), upd_n _ _ (by omega), upd_s, rEnd3_n _ _ _ (by omega)]
theorem rMid_300 (f : Nat → Int32) (w told : Int32) (d : Nat) (t z : Int32) : rMid f w told d t z 300 = nI (d + 1) := upd_s _ _ _
theorem RV_meas {f : Nat → Int32} {B : Nat} (hB : B + 1 < 2 ^ 31) (hv : RV f B) (w : Int32) : RV (rMeas f w (dN f) (rN f)) (B + 1) := by
  obtain ⟨⟨a1, a2⟩, ⟨b1, b2, b3⟩, ⟨c1, c2⟩, ho, hs, hb⟩ := hv
  have hm : ∀ i, 60 ≤ i → i < 328 → i ≠ 300 → rGo f w (dN f) i = f i := fun i h1 h2 h3 => rMid_n _ _ _ _ _ _ _ a1 (by omega) h2 h3
  have hz : ∀ k, k < 4 → rGo f w (dN f) (328 + 5 * k + 1) = 0 ∧ rGo f w (dN f) (328 + 5 * k + 2) = 0 := fun k hk => rMid_z _ _ _ _ _ _ _ hk
  have h3 : rGo f w (dN f) 300 = nI (dN f + 1) := rMid_300 _ _ _ _ _ _
  unfold rMeas
  split
  · rename_i e
    refine RV_of (d := 0) (y := yN f + 1) (r := rN f) (c := cN f) (by omega) (by rw [rEnds_300]; rfl) (by omega) (by omega) (by rw [rEnds_301, hm 301 (by omega) (by omega) (by omega), b2]; exact nI_1 _) ?_ c1 (by rw [rEnds_n _ _ _ (by omega), hm 303 (by omega) (by omega) (by omega)]; exact c2) ?_ (rSn_congr (fun i h1 h2 => by rw [rEnds_n _ _ _ (by omega), hm i (by omega) (by omega) (by omega)]) hs) (fun k hk => ⟨0, by omega, ?_, Or.inl ?_⟩)
    · rw [rEnds_302, hm 302 (by omega) (by omega) (by omega), b3]
      by_cases e4 : yN f < 4
      · rw [if_pos (show nI (min (yN f) 4) < 4 from (nI_ltI (b := 4) (by omega) (by omega)).mpr (by omega)), show min (yN f) 4 = yN f by omega, show min (yN f + 1) 4 = yN f + 1 by omega]
        exact nI_1 _
      · rw [if_neg (fun z => e4 (by have := (nI_ltI (a := min (yN f) 4) (b := 4) (by omega) (by omega)).mp z; omega)), show min (yN f) 4 = 4 by omega, show min (yN f + 1) 4 = 4 by omega]
        rfl
    · rw [rEnds_n _ _ _ (by omega), hm 306 (by omega) (by omega) (by omega)]; exact ho
    · rw [rEnds_n _ _ _ (by omega)]; exact (hz k hk).1
    · rw [rEnds_n _ _ _ (by omega)]; exact (hz k hk).2
  · rename_i e
    exact RV_of (d := dN f + 1) (y := yN f) (r := rN f) (c := cN f) (by omega) h3 (by omega) (by omega) (by rw [hm 301 (by omega) (by omega) (by omega)]; exact b2) (by rw [hm 302 (by omega) (by omega) (by omega)]; exact b3) c1 (by rw [hm 303 (by omega) (by omega) (by omega)]; exact c2) (by rw [hm 306 (by omega) (by omega) (by omega)]; exact ho) (rSn_congr (fun i h1 h2 => hm i (by omega) (by omega) (by omega)) hs) (fun k hk => ⟨0, by omega, (hz k hk).1, Or.inl (hz k hk).2⟩)
/-! THE TEXT -/
def sg (tx : Nat → Int32) (ln i : Nat) : Int32 := if i < ln then tx i else -1
def dg (tx : Nat → Int32) (ln i : Nat) : Int32 := if inB (sg tx ln i) 48 57 = 0 then -1 else sg tx ln i - 48
abbrev nTwo (tx : Nat → Int32) (ln pl : Nat) (hi : Int32) : Prop := 0 < dg tx ln pl ∧ 0 ≤ dg tx ln (pl + 1) ∧ 10 * dg tx ln pl + dg tx ln (pl + 1) ≤ hi
def nEnd (tx : Nat → Int32) (ln pl : Nat) (lo hi : Int32) : Bool × Nat := if dg tx ln pl < 0 then (false, pl) else if dg tx ln pl = 0 ∧ 0 < lo then (false, pl) else if nTwo tx ln pl hi then (true, pl + 2) else (true, pl + 1)
def enc (x : Bool × Nat) : Int32 := match x with
  | (true, n) => nI n
  | (false, n) => -1 - nI n
def numIn (tx : Nat → Int32) (ln pl e : Nat) : Int32 := if e = pl + 1 then dg tx ln pl else 10 * dg tx ln pl + dg tx ln (pl + 1)
def wEnd (tx : Nat → Int32) (ln pl : Nat) : Bool × Nat := if sg tx ln pl = 45 then nEnd tx ln (pl + 1) 1 40 else nEnd tx ln pl 0 40
def dEnd (tx : Nat → Int32) (ln pl : Nat) : Bool × Nat := match wEnd tx ln pl with
  | (true, e) => if sg tx ln e = 42 then nEnd tx ln (e + 1) 1 20 else (true, e)
  | (false, e) => (false, e)
def fFault (tx : Nat → Int32) (ln : Nat) : Nat → Nat → Int32
  | 0, _ => -5
  | n + 1, pl => match dEnd tx ln pl with
    | (false, e) => nI e
    | (true, e) => if e = ln then -5 else if sg tx ln e = 59 then fFault tx ln n (e + 1) else nI e
def dWarm (tx : Nat → Int32) (ln pl : Nat) : Int32 := if sg tx ln pl = 45 then -numIn tx ln (pl + 1) (wEnd tx ln pl).2 else numIn tx ln pl (wEnd tx ln pl).2
def dMany (tx : Nat → Int32) (ln pl : Nat) : Int32 := if sg tx ln (wEnd tx ln pl).2 = 42 then numIn tx ln ((wEnd tx ln pl).2 + 1) (dEnd tx ln pl).2 else 1
theorem nEnd_b (tx : Nat → Int32) (ln pl : Nat) (lo hi : Int32) {b : Bool} {e : Nat} (h : nEnd tx ln pl lo hi = (b, e)) : pl ≤ e ∧ e ≤ pl + 2 ∧ (b = true → pl + 1 ≤ e ∧ 0 ≤ dg tx ln pl) := by
  unfold nEnd at h
  split at h
  · cases h; exact ⟨by omega, by omega, fun h => by cases h⟩
  · rename_i h0
    split at h
    · cases h; exact ⟨by omega, by omega, fun h => by cases h⟩
    · split at h
      · cases h; exact ⟨by omega, by omega, fun _ => ⟨by omega, Int32.not_lt.mp h0⟩⟩
      · cases h; exact ⟨by omega, by omega, fun _ => ⟨by omega, Int32.not_lt.mp h0⟩⟩
theorem wEnd_b (tx : Nat → Int32) (ln pl : Nat) {b : Bool} {e : Nat} (h : wEnd tx ln pl = (b, e)) : pl ≤ e ∧ e ≤ pl + 3 ∧ (b = true → pl + 1 ≤ e) := by
  unfold wEnd at h
  split at h
  · have := nEnd_b _ _ _ _ _ h
    exact ⟨by omega, by omega, fun hb => by have := (this.2.2 hb).1; omega⟩
  · have := nEnd_b _ _ _ _ _ h
    exact ⟨by omega, by omega, fun hb => by have := (this.2.2 hb).1; omega⟩
theorem dEnd_b (tx : Nat → Int32) (ln pl : Nat) {b : Bool} {e : Nat} (h : dEnd tx ln pl = (b, e)) : pl ≤ e ∧ e ≤ pl + 6 ∧ (b = true → pl + 1 ≤ e) := by
  obtain ⟨b1, e1, hw⟩ : ∃ b1 e1, wEnd tx ln pl = (b1, e1) := ⟨_, _, rfl⟩
  have hb := wEnd_b _ _ _ hw
  unfold dEnd at h
  rw [hw] at h
  cases b1 with
  | false => cases h; exact ⟨by omega, by omega, fun h => by cases h⟩
  | true =>
    have hb2 := hb.2.2 rfl
    dsimp only at h
    split at h
    · have := nEnd_b _ _ _ _ _ h
      exact ⟨by omega, by omega, fun hb => by have := (this.2.2 hb).1; omega⟩
    · cases h; exact ⟨by omega, by omega, fun _ => hb2⟩
theorem enc_neg {n : Nat} (h : n < 1000) : ¬ 0 ≤ (-1 : Int32) - nI n := by
  rw [Int32.le_iff_toInt_le, i32_sub (by decide) (by decide) (by rw [nI_toInt (by omega)]; omega) (by rw [nI_toInt (by omega)]; omega), nI_toInt (by omega), show (0 : Int32).toInt = 0 from rfl, show (-1 : Int32).toInt = -1 from rfl]
  omega
-- 19.mall.lean.txt
theorem m1_m1 (x : Int32) : (-1 : Int32) - (-1 - x) = x := by grind
theorem sg_in {tx : Nat → Int32} {ln i : Nat} {v : Int32} (h : sg tx ln i = v) (hv : v ≠ -1) : i < ln := by
  unfold sg at h
  split at h
  · assumption
  · exact absurd h.symm hv
def qType (A : AT) (_c : Int32) : Int32 := if aL A = 60 then -3 else nI (aL A + 1)
def tType (A : AT) (c : Int32) : AT := if aL A = 60 then A else (aF A, aN A, aH A, aK A, aS A, aL A + 1, upd (aT A) (aL A) c)
def qClear (A : AT) : Int32 := nI (aL A)
def tClear (A : AT) : AT := (aF A, aN A, aH A, aK A, aS A, 0, aT A)
def qFault (A : AT) : Int32 := fFault (aT A) (aL A) 60 0
theorem Mi.post {w : WT} {l : Launch} {y : MethodName} {c : ByteArray} {n : Nat} {ret : Option FieldType} {rm : Room} {av : List Value} {G : GS} {p q : Int32 → GS → Prop} (h : Mi w l y c n ret rm av G p) (hpq : ∀ v G', p v G' → q v G') : Mi w l y c n ret rm av G q := by
  intro pr e a1 a2 a3 s m args below hf happ hP hK
  obtain ⟨k, o, h1, h2, h3, ⟨⟨r, u, e1, e2, e3⟩, e4⟩, h5⟩ := h pr e a1 a2 a3 s m args below hf happ hP hK
  exact ⟨k, o, h1, h2, h3, ⟨⟨r, u, e1, hpq _ _ e2, e3⟩, e4⟩, h5⟩
-- 20.mdays.lean.txt
theorem dg_val {tx : Nat → Int32} {ln pl : Nat} (h : 0 ≤ dg tx ln pl) : ∃ a, a ≤ 9 ∧ dg tx ln pl = nI a := by
  unfold dg at h ⊢
  by_cases h1 : inB (sg tx ln pl) 48 57 = 0
  · rw [if_pos h1] at h; exact absurd h (by decide)
  · rw [if_neg h1]
    obtain ⟨h2, h3⟩ := inB_f h1
    rw [show (48 : Int32).toInt = 48 from rfl] at h2
    rw [show (57 : Int32).toInt = 57 from rfl] at h3
    have h4 := i32_sub (x := sg tx ln pl) (y := 48) (by omega) (by omega) (by decide) (by decide)
    rw [show (48 : Int32).toInt = 48 from rfl] at h4
    exact ⟨(sg tx ln pl - 48).toInt.toNat, by omega, i32_nat (by omega)⟩
theorem numIn_val {tx : Nat → Int32} {ln pl e : Nat} {lo hi : Int32} {H : Nat} (hH : hi = nI H) (hb : H < 1000) (h9 : 9 ≤ H) (hlo : 0 < lo) (h : nEnd tx ln pl lo hi = (true, e)) : ∃ v, 1 ≤ v ∧ v ≤ H ∧ numIn tx ln pl e = nI v := by
  unfold nEnd at h
  split at h
  · cases h
  · rename_i h0
    obtain ⟨a, ha, ea⟩ := dg_val (Int32.not_lt.mp h0)
    split at h
    · cases h
    · rename_i h1
      have ha1 : 1 ≤ a := by
        rcases Nat.eq_zero_or_pos a with z | z
        · exact absurd ⟨by rw [ea, z]; rfl, hlo⟩ h1
        · exact z
      split at h
      · rename_i h2
        cases h
        obtain ⟨b, hb9, eb⟩ := dg_val h2.2.1
        have e3 : (10 : Int32) * nI a + nI b = nI (10 * a + b) := by
          rw [show (10 : Int32) = nI 10 from rfl, pk_mul, nI_add]
        refine ⟨10 * a + b, by omega, ?_, ?_⟩
        · have h4 := h2.2.2
          rw [ea, eb, e3, hH] at h4
          exact (nI_leI (by omega) (by omega)).mp h4
        · unfold numIn
          rw [if_neg (by omega), ea, eb, e3]
      · cases h
        refine ⟨a, ha1, by omega, ?_⟩
        unfold numIn
        rw [if_pos rfl, ea]
theorem dEnd_w {tx : Nat → Int32} {ln pl e : Nat} (h : dEnd tx ln pl = (true, e)) : ∃ e1, wEnd tx ln pl = (true, e1) ∧ (if sg tx ln e1 = 42 then nEnd tx ln (e1 + 1) 1 20 = (true, e) else e1 = e) := by
  obtain ⟨b1, e1, hw⟩ : ∃ b1 e1, wEnd tx ln pl = (b1, e1) := ⟨_, _, rfl⟩
  unfold dEnd at h
  rw [hw] at h
  cases b1 with
  | false => cases h
  | true =>
    refine ⟨e1, hw, ?_⟩
    dsimp only at h
    by_cases h1 : sg tx ln e1 = 42
    · rw [if_pos h1] at h ⊢; exact h
    · rw [if_neg h1] at h ⊢; cases h; rfl
theorem dMany_val {tx : Nat → Int32} {ln pl e : Nat} (h : dEnd tx ln pl = (true, e)) : ∃ m, 1 ≤ m ∧ m ≤ 20 ∧ dMany tx ln pl = nI m := by
  obtain ⟨e1, hw, h2⟩ := dEnd_w h
  unfold dMany
  rw [hw, h]
  dsimp only
  by_cases h1 : sg tx ln e1 = 42
  · rw [if_pos h1] at h2 ⊢
    exact numIn_val rfl (by omega) (by omega) (by decide) h2
  · rw [if_neg h1]
    exact ⟨1, by omega, by omega, rfl⟩
def mN (tx : Nat → Int32) (ln pl : Nat) : Nat := (dMany tx ln pl).toNatClampNeg
theorem mN_eq {tx : Nat → Int32} {ln pl e : Nat} (h : dEnd tx ln pl = (true, e)) : dMany tx ln pl = nI (mN tx ln pl) ∧ 1 ≤ mN tx ln pl ∧ mN tx ln pl ≤ 20 := by
  obtain ⟨m, h1, h2, h3⟩ := dMany_val h
  have : mN tx ln pl = m := by unfold mN; rw [h3, nI_clamp (by omega)]
  rw [this]
  exact ⟨h3, h1, h2⟩
def rRep (f : Nat → Int32) (v : Int32) : Nat → Nat → Int32
  | 0 => f
  | k + 1 => rMeas (rRep f v k) v (dN (rRep f v k)) (rN (rRep f v k))
def rRepM (f m : Nat → Int32) (v : Int32) : Nat → Nat → Int32
  | 0 => m
  | k + 1 => rMis (rRep f v k) (rRepM f m v k) v (dN (rRep f v k))
theorem RV_rep {f : Nat → Int32} {B : Nat} (v : Int32) : ∀ k, B + k < 2 ^ 31 → RV f B → RV (rRep f v k) (B + k)
  | 0 => fun _ h => h
  | k + 1 => fun hB h => RV_meas (by omega) (RV_rep v k (by omega) h) v
-- 21.mmall.lean.txt
theorem nI_m5 {n : Nat} (h : n < 2 ^ 31) : nI n ≠ -5 := by
  intro e
  have := congrArg Int32.toInt e
  rw [nI_toInt h, show (-5 : Int32).toInt = -5 from rfl] at this
  omega
theorem fF_step {tx : Nat → Int32} {ln j pl : Nat} (hp : pl ≤ 60) (hln : ln ≤ 60) (hj : 1 ≤ j) (h : fFault tx ln j pl = -5) : ∃ e, dEnd tx ln pl = (true, e) ∧ (e = ln ∨ (e < ln ∧ fFault tx ln (j - 1) (e + 1) = -5)) := by
  obtain ⟨j, rfl⟩ : ∃ q, j = q + 1 := ⟨j - 1, by omega⟩
  obtain ⟨b, e, hd⟩ : ∃ b e, dEnd tx ln pl = (b, e) := ⟨_, _, rfl⟩
  have hb := dEnd_b _ _ _ hd
  unfold fFault at h
  rw [hd] at h
  cases b with
  | false => exact absurd h (nI_m5 (by omega))
  | true =>
    refine ⟨e, hd, ?_⟩
    dsimp only at h
    by_cases h1 : e = ln
    · exact Or.inl h1
    · rw [if_neg h1] at h
      by_cases h2 : sg tx ln e = 59
      · rw [if_pos h2] at h
        exact Or.inr ⟨sg_in h2 (by decide), h⟩
      · rw [if_neg h2] at h
        exact absurd h (nI_m5 (by omega))
def aAll (tx : Nat → Int32) (ln : Nat) : Nat → Nat → (Nat → Int32) → Int32 → Int32 × (Nat → Int32)
  | 0, _, f, n => (n, f)
  | k + 1, pl, f, n => if pl < ln then aAll tx ln k ((dEnd tx ln pl).2 + 1) (rRep f (dWarm tx ln pl) (mN tx ln pl)) (n + dMany tx ln pl) else (n, f)
def qAll (A : AT) : Int32 := if qFault A = -5 then (aAll (aT A) (aL A) 61 0 (aF A) 0).1 else -100 - qFault A
def tAll (A : AT) : AT := if qFault A = -5 then aPut (aRem A) (aAll (aT A) (aL A) 61 0 (aF A) 0).2 else A
-- 22.mreads.lean.txt
/-! THE READS' ANSWERS -/
def rToldOf (f : Nat → Int32) (d : Nat) : Int32 := if nI d < f 300 then f (20 + d) else rTold f d
def qDayOf (A : AT) (x y : Int32) : Int32 := if inB x 0 19 = 0 then -1 else if y = 0 then aF A x.toNatClampNeg + 1000 else if y = 1 then rToldOf (aF A) x.toNatClampNeg + 1000 else if y = 2 then (if x < aF A 300 then aF A (40 + x.toNatClampNeg) + 1000 else -5) else if y = 3 then (if x < aF A 300 then aF A (40 + x.toNatClampNeg) - aF A (20 + x.toNatClampNeg) + 1000 else -5) else if y = 4 then b01 (rToldOf (aF A) x.toNatClampNeg ≤ aF A 305) else -2
def kN (f : Nat → Int32) : Nat := min (yN f) 4
def knB (f : Nat → Int32) (a x : Int32) : Int32 := b01 (¬ sB a (kN f) = 0 ∧ ¬ inB x 0 19 = 0)
def qPast (A : AT) (a x y : Int32) : Int32 := if knB (aF A) a x = 0 then -1 else if inB y 0 1 = 0 then -2 else aF A (60 + 60 * a.toNatClampNeg + 20 * y.toNatClampNeg + x.toNatClampNeg) + 1000
def okM (f : Nat → Int32) (a : Nat) : Nat → Int32 := fun j => f (80 + 60 * a + j)
def qMean (A : AT) (a x y : Int32) : Int32 := if knB (aF A) a x = 0 then -1 else if inB y 0 1 = 0 then -2 else if y = 0 then mean (okM (aF A) a.toNatClampNeg) x.toNatClampNeg (rN (aF A)) + 1000 else meanS (okM (aF A) a.toNatClampNeg) x.toNatClampNeg (rN (aF A)) + 1000
def qSaintOf (A : AT) (x y : Int32) : Int32 := if sB x (cN (aF A)) = 0 then -1 else if y = 0 then aF A (308 + 4 * x.toNatClampNeg + 0) else if y = 1 then aF A (308 + 4 * x.toNatClampNeg + 1) + 1000 else if y = 2 then aF A (308 + 4 * x.toNatClampNeg + 2) + 1000 else if y = 3 then aF A (308 + 4 * x.toNatClampNeg + 3) else if y = 4 then b01 (rTells (aF A) x.toNatClampNeg) else -2
def qReaderOf (A : AT) (x y : Int32) : Int32 := if inB x 0 3 = 0 then -1 else if inB y 0 4 = 0 then -2 else aF A (328 + 5 * x.toNatClampNeg + y.toNatClampNeg)
def sSum (m : Nat → Int32) : Nat → Int32
  | 0 => 0
  | n + 1 => sSum m n + szI (m n)
/-- the mistakes of this year -/
def nowM (f : Nat → Int32) : Nat → Int32 := fun j => if j < dN f then f (40 + j) - f (20 + j) else 0
def qCount (A : AT) (y : Int32) : Int32 := if y = 0 then aF A 301 else if y = 1 then aF A 300 else if y = 2 then aF A 302 else if y = 3 then aF A 307 else if y = 4 then aF A 348 else if y = 5 then aF A 349 else if y = 6 then aF A 350 else if y = 7 then sSum (nowM (aF A)) 20 else if y = 8 then (if aF A 302 = 0 then -5 else sSum (okM (aF A) 0) 20) else if y = 9 then aF A 351 + 100000 else if y = 10 then nI (aN A) else if y = 11 then nI (aL A) else if inB y 12 15 = 0 then -2 else aF A (303 + (y - 12).toNatClampNeg) + 1000
def qNext (A : AT) (x : Int32) : Int32 := if inB x 0 19 = 0 then -1 else bnd (aF A x.toNatClampNeg + mean (nowM (aF A)) x.toNatClampNeg (rN (aF A)) * aF A 304 / 100) + 1000
def wr (f : Nat → Int32) (b : Int32) : Nat → Int32
  | 0 => 0
  | k + 1 => wr f b k + (if b01 (f (60 + k) - f (80 + k) ≤ b) = b01 (f (60 + k) ≤ 0) then 0 else 1)
def bB1 (f : Nat → Int32) (p : Int32 × Int32) (k : Nat) : Int32 × Int32 := if wr f (-nI (k + 1)) 20 < p.2 then (-nI (k + 1), wr f (-nI (k + 1)) 20) else p
def bB2 (f : Nat → Int32) (p : Int32 × Int32) (k : Nat) : Int32 × Int32 := if wr f (nI (k + 1)) 20 < p.2 then (nI (k + 1), wr f (nI (k + 1)) 20) else p
def bB (f : Nat → Int32) : Nat → Int32 × Int32
  | 0 => (0, wr f 0 20)
  | k + 1 => bB2 f (bB1 f (bB f k) k) k
def qBound (A : AT) (y : Int32) : Int32 := if inB y 0 1 = 0 then -2 else if aF A 302 = 0 then -5 else if y = 0 then (bB (aF A) 20).1 + 1000 else (bB (aF A) 20).2
def sW (f m : Nat → Int32) (r : Nat) (t : Int32) : Nat → Int32
  | 0 => 0
  | k + 1 => sW f m r t k + szI (f (60 + k) - bnd (f (160 + k) + mean m k r * t / 100))
def bR1 (f m : Nat → Int32) (r : Nat) (p : Int32 × Int32) (k : Nat) : Int32 × Int32 := if sW f m r (nI (k + 1)) 20 < p.2 then (nI (k + 1), sW f m r (nI (k + 1)) 20) else p
def bR (f m : Nat → Int32) (r : Nat) : Nat → Int32 × Int32
  | 0 => (0, sW f m r 0 20)
  | k + 1 => bR1 f m r (bR f m r k) k
theorem sW_congr {f m m' : Nat → Int32} (r : Nat) (t : Int32) (h : ∀ j, j < 20 → m j = m' j) : ∀ n, sW f m r t n = sW f m' r t n
  | 0 => rfl
  | n + 1 => by
    show sW f m r t n + _ = sW f m' r t n + _
    rw [sW_congr r t h n, mean_congr n r h]
theorem bR_congr {f m m' : Nat → Int32} (r : Nat) (h : ∀ j, j < 20 → m j = m' j) : ∀ n, bR f m r n = bR f m' r n
  | 0 => by
    show (0, sW f m r 0 20) = (0, sW f m' r 0 20)
    rw [sW_congr r 0 h]
  | n + 1 => by
    show bR1 f m r (bR f m r n) n = bR1 f m' r (bR f m' r n) n
    unfold bR1
    rw [bR_congr r h n, sW_congr r _ h]
def qRate (A : AT) (y : Int32) : Int32 := if inB y 0 1 = 0 then -2 else if kN (aF A) < 2 then -5 else if y = 0 then (bR (aF A) (okM (aF A) 1) (rN (aF A)) 100).1 else (bR (aF A) (okM (aF A) 1) (rN (aF A)) 100).2
def cpf (f : Nat → Int32) : Nat → Int32 := fun i => cpRow f f 354 354 (354 + i)
theorem cpf_in (f : Nat → Int32) {i : Nat} (h : i < 354) : cpf f i = f i := by
  unfold cpf cpRow
  rw [if_pos (by omega), Nat.add_sub_cancel_left]
def qIf (A : AT) (x v : Int32) : Int32 := if inB x 0 3 = 0 then -1 else if inB v (-40) 40 = 0 then -2 else rMeas (cpf (aF A)) v (dN (aF A)) (rN (aF A)) (328 + 5 * x.toNatClampNeg + 0)
theorem pSum_congr {m m' : Nat → Int32} : ∀ n, (∀ j, j < n → m j = m' j) → pSum m n = pSum m' n
  | 0 => fun _ => rfl
  | n + 1 => fun h => by
    show pSum m n + _ = pSum m' n + _
    rw [pSum_congr n (fun j hj => h j (by omega)), h n (by omega)]
theorem meanS_congr {m m' : Nat → Int32} (d r : Nat) (hd : d < 20) (h : ∀ j, j < 20 → m j = m' j) : meanS m d r = meanS m' d r := by
  unfold meanS
  rw [pSum_congr _ (fun j hj => h j (by omega)), pSum_congr (d - r) (fun j hj => h j (by omega))]
theorem sSum_congr {m m' : Nat → Int32} : ∀ n, (∀ j, j < n → m j = m' j) → sSum m n = sSum m' n
  | 0 => fun _ => rfl
  | n + 1 => fun h => by
    show sSum m n + _ = sSum m' n + _
    rw [sSum_congr n (fun j hj => h j (by omega)), h n (by omega)]
theorem lkRow_in (f m : Nat → Int32) (a : Nat) {j : Nat} (h : j < 20) : lkRow f m a 20 j = okM f a j := if_pos h
theorem lnRow_d (f m : Nat → Int32) {j : Nat} (h : j < 20) : lnRow f m (dN f) 20 j = nowM f j := if_pos h
-- 23.mreads2.lean.txt
theorem kB_f {f : Nat → Int32} {a x : Int32} (h : ¬ knB f a x = 0) : ∃ i d, i < kN f ∧ d ≤ 19 ∧ a = nI i ∧ x = nI d := by
  obtain ⟨h1, h2⟩ := b01_f h
  have hk : kN f ≤ 4 := by unfold kN; omega
  obtain ⟨i, hi, e1⟩ := sB_f (by omega) h1
  obtain ⟨d, hd, e2⟩ := inB_nat (n := 19) rfl h2
  exact ⟨i, d, hi, hd, e1, e2⟩
theorem inB_1215 {y : Int32} (h : ¬ inB y 12 15 = 0) : ∃ e, e ≤ 3 ∧ y = nI (12 + e) := by
  obtain ⟨h1, h2⟩ := inB_f h
  rw [show (12 : Int32).toInt = 12 from rfl] at h1
  rw [show (15 : Int32).toInt = 15 from rfl] at h2
  exact ⟨(y.toInt - 12).toNat, by omega, i32_nat (by omega)⟩
