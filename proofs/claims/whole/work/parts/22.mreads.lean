/-! THE READS' ANSWERS -/
def rToldOf (f : Nat → Int32) (d : Nat) : Int32 := if nI d < f 300 then f (20 + d) else rTold f d
def qDayOf (A : AT) (x y : Int32) : Int32 := if inB x 0 19 = 0 then -1 else if y = 0 then aF A x.toNatClampNeg + 1000 else if y = 1 then rToldOf (aF A) x.toNatClampNeg + 1000 else if y = 2 then (if x < aF A 300 then aF A (40 + x.toNatClampNeg) + 1000 else -5) else if y = 3 then (if x < aF A 300 then aF A (40 + x.toNatClampNeg) - aF A (20 + x.toNatClampNeg) + 1000 else -5) else if y = 4 then b01 (rToldOf (aF A) x.toNatClampNeg ≤ aF A 305) else -2
def kN (f : Nat → Int32) : Nat := min (yN f) 4
def knB (f : Nat → Int32) (a x : Int32) : Int32 := b01 (¬ sB a (kN f) = 0 ∧ ¬ inB x 0 19 = 0)
def qPast (A : AT) (a x y : Int32) : Int32 := if knB (aF A) a x = 0 then -1 else if inB y 0 1 = 0 then -2 else aF A (60 + 60 * a.toNatClampNeg + 20 * y.toNatClampNeg + x.toNatClampNeg) + 1000
def okM (f : Nat → Int32) (a : Nat) : Nat → Int32 := fun j => f (80 + 60 * a + j)
def qMean (A : AT) (a x y : Int32) : Int32 := if knB (aF A) a x = 0 then -1 else if inB y 0 1 = 0 then -2 else if y = 0 then mean (okM (aF A) a.toNatClampNeg) x.toNatClampNeg (rN (aF A)) + 1000 else meanS (okM (aF A) a.toNatClampNeg) x.toNatClampNeg (rN (aF A)) + 1000
def qSaintOf (A : AT) (x y : Int32) : Int32 := if sB x (cN (aF A)) = 0 then -1 else if y = 0 then aF A (308 + 4 * x.toNatClampNeg + 0) else if y = 1 then aF A (308 + 4 * x.toNatClampNeg + 1) + 1000 else if y = 2 then aF A (308 + 4 * x.toNatClampNeg + 2) + 1000 else if y = 3 then aF A (308 + 4 * x.toNatClampNeg + 3) else if y = 4 then b01 (rTells (aF A) x.toNatClampNeg) else -2
def qReaderOf (A : AT) (x y : Int32) : Int32 := if inB x 0 3 = 0 then -1 else if inB y 0 4 = 0 then -2 else aF A (328 + 5 * x.toNatClampNeg + y.toNatClampNeg)
def sSum (m : Nat → Int32) : Nat → Int32
  | 0 => 0
  | n + 1 => sSum m n + szI (m n)
/-- the mistakes of this year -/
def nowM (f : Nat → Int32) : Nat → Int32 := fun j => if j < dN f then f (40 + j) - f (20 + j) else 0
def qCount (A : AT) (y : Int32) : Int32 := if y = 0 then aF A 301 else if y = 1 then aF A 300 else if y = 2 then aF A 302 else if y = 3 then aF A 307 else if y = 4 then aF A 348 else if y = 5 then aF A 349 else if y = 6 then aF A 350 else if y = 7 then sSum (nowM (aF A)) 20 else if y = 8 then (if aF A 302 = 0 then -5 else sSum (okM (aF A) 0) 20) else if y = 9 then aF A 351 + 100000 else if y = 10 then nI (aN A) else if y = 11 then nI (aL A) else if inB y 12 15 = 0 then -2 else aF A (303 + (y - 12).toNatClampNeg) + 1000
def qNext (A : AT) (x : Int32) : Int32 := if inB x 0 19 = 0 then -1 else bnd (aF A x.toNatClampNeg + mean (nowM (aF A)) x.toNatClampNeg (rN (aF A)) * aF A 304 / 100) + 1000
def wr (f : Nat → Int32) (b : Int32) : Nat → Int32
  | 0 => 0
  | k + 1 => wr f b k + (if b01 (f (60 + k) - f (80 + k) ≤ b) = b01 (f (60 + k) ≤ 0) then 0 else 1)
def bB1 (f : Nat → Int32) (p : Int32 × Int32) (k : Nat) : Int32 × Int32 := if wr f (-nI (k + 1)) 20 < p.2 then (-nI (k + 1), wr f (-nI (k + 1)) 20) else p
def bB2 (f : Nat → Int32) (p : Int32 × Int32) (k : Nat) : Int32 × Int32 := if wr f (nI (k + 1)) 20 < p.2 then (nI (k + 1), wr f (nI (k + 1)) 20) else p
def bB (f : Nat → Int32) : Nat → Int32 × Int32
  | 0 => (0, wr f 0 20)
  | k + 1 => bB2 f (bB1 f (bB f k) k) k
def qBound (A : AT) (y : Int32) : Int32 := if inB y 0 1 = 0 then -2 else if aF A 302 = 0 then -5 else if y = 0 then (bB (aF A) 20).1 + 1000 else (bB (aF A) 20).2
def sW (f m : Nat → Int32) (r : Nat) (t : Int32) : Nat → Int32
  | 0 => 0
  | k + 1 => sW f m r t k + szI (f (60 + k) - bnd (f (160 + k) + mean m k r * t / 100))
def bR1 (f m : Nat → Int32) (r : Nat) (p : Int32 × Int32) (k : Nat) : Int32 × Int32 := if sW f m r (nI (k + 1)) 20 < p.2 then (nI (k + 1), sW f m r (nI (k + 1)) 20) else p
def bR (f m : Nat → Int32) (r : Nat) : Nat → Int32 × Int32
  | 0 => (0, sW f m r 0 20)
  | k + 1 => bR1 f m r (bR f m r k) k
theorem sW_congr {f m m' : Nat → Int32} (r : Nat) (t : Int32) (h : ∀ j, j < 20 → m j = m' j) : ∀ n, sW f m r t n = sW f m' r t n
  | 0 => rfl
  | n + 1 => by
    show sW f m r t n + _ = sW f m' r t n + _
    rw [sW_congr r t h n, mean_congr n r h]
theorem bR_congr {f m m' : Nat → Int32} (r : Nat) (h : ∀ j, j < 20 → m j = m' j) : ∀ n, bR f m r n = bR f m' r n
  | 0 => by
    show (0, sW f m r 0 20) = (0, sW f m' r 0 20)
    rw [sW_congr r 0 h]
  | n + 1 => by
    show bR1 f m r (bR f m r n) n = bR1 f m' r (bR f m' r n) n
    unfold bR1
    rw [bR_congr r h n, sW_congr r _ h]
theorem gm_240 (G0 : GS) (s f m : Nat → Int32) : GM G0 0 s f m 240 = f := by
  show up1 (up1 G0 240 (lft 0 s f)) 244 m 240 = f
  rw [up1_n _ _ (by omega), up1_s, lft_0]
def qRate (A : AT) (y : Int32) : Int32 := if inB y 0 1 = 0 then -2 else if kN (aF A) < 2 then -5 else if y = 0 then (bR (aF A) (okM (aF A) 1) (rN (aF A)) 100).1 else (bR (aF A) (okM (aF A) 1) (rN (aF A)) 100).2
def cpf (f : Nat → Int32) : Nat → Int32 := fun i => cpRow f f 354 354 (354 + i)
theorem cpf_in (f : Nat → Int32) {i : Nat} (h : i < 354) : cpf f i = f i := by
  unfold cpf cpRow
  rw [if_pos (by omega), Nat.add_sub_cancel_left]
def qIf (A : AT) (x v : Int32) : Int32 := if inB x 0 3 = 0 then -1 else if inB v (-40) 40 = 0 then -2 else rMeas (cpf (aF A)) v (dN (aF A)) (rN (aF A)) (328 + 5 * x.toNatClampNeg + 0)
theorem pSum_congr {m m' : Nat → Int32} : ∀ n, (∀ j, j < n → m j = m' j) → pSum m n = pSum m' n
  | 0 => fun _ => rfl
  | n + 1 => fun h => by
    show pSum m n + _ = pSum m' n + _
    rw [pSum_congr n (fun j hj => h j (by omega)), h n (by omega)]
theorem meanS_congr {m m' : Nat → Int32} (d r : Nat) (hd : d < 20) (h : ∀ j, j < 20 → m j = m' j) : meanS m d r = meanS m' d r := by
  unfold meanS
  rw [pSum_congr _ (fun j hj => h j (by omega)), pSum_congr (d - r) (fun j hj => h j (by omega))]
theorem sSum_congr {m m' : Nat → Int32} : ∀ n, (∀ j, j < n → m j = m' j) → sSum m n = sSum m' n
  | 0 => fun _ => rfl
  | n + 1 => fun h => by
    show sSum m n + _ = sSum m' n + _
    rw [sSum_congr n (fun j hj => h j (by omega)), h n (by omega)]
theorem lkRow_in (f m : Nat → Int32) (a : Nat) {j : Nat} (h : j < 20) : lkRow f m a 20 j = okM f a j := if_pos h
theorem lnRow_d (f m : Nat → Int32) {j : Nat} (h : j < 20) : lnRow f m (dN f) 20 j = nowM f j := if_pos h
theorem gm_same (G : GS) (m : Nat → Int32) : ∀ q, q ≠ 244 → GM G 0 (G 240) (G 240) m q = G q := fun q h => by
  show up1 (up1 G 240 (lft 0 (G 240) (G 240))) 244 m q = G q
  rw [up1_n _ _ h, lft_0, up1_self]
set_option maxHeartbeats 4000000 in
set_option maxRecDepth 100000 in
theorem m_X6_toldOf {w : WT} (hI : xI w) (l : Launch) (G : GS) (d B : Nat) (hV : RV (G 240) B) (hd : d < 20) : Mi w l yX6_toldOf cX6_toldOf 2 (some .int) ⟨3, 0, 0, 70⟩ [.ref (w.2.2 239), .int (nI d)] G (fun v9 G' => v9 = rToldOf (G 240) d ∧ G' = G) := by
  refine mk_i (L0 := [(0, .ref (w.2.2 239)), (1, .int (nI d))]) hI (by decide +kernel) rfl (Nat.le_of_ble_eq_true rfl) (fun _ _ _ => rfl) (fun K hc hret => ?_)
  refine x_iload_n (pc := 0) hc dX6_toldOf_0 1 rfl ?_
  refine x_aload_n (pc := 1) hc dX6_toldOf_1 0 rfl ?_
  refine x_get (pc := 2) hc cfR kcX6 0 (by decide) fl_X6_7 rfl dX6_toldOf_2 ?_
  refine x_sipush (v := 300) (pc := 5) hc dX6_toldOf_5 (by decide) ?_
  refine x_as (nI 300) rfl ?_
  refine x_iald (pc := 8) hc af0 (vp_in_nI (by omega) (by decide)) dX6_toldOf_8 ?_
  refine x_as (G 240 300) (congrArg _ (nI_clamp (by omega))) ?_
  refine x_icmp_ge (pc := 9) hc dX6_toldOf_9 24 (by decide) (fun c9 => ?_) (fun c9 => ?_)
  · refine x_aload_n (pc := 24) hc dX6_toldOf_24 0 rfl ?_
    refine x_iconst (v := 0) (pc := 25) hc dX6_toldOf_25 (by decide) ?_
    refine x_iload_n (pc := 26) hc dX6_toldOf_26 1 rfl ?_
    refine x_callVi (pc := 27) hc cl_X6_66 cfR kcX6 [.int 0, .int (nI d)] (gm_0 G ▸ m_X6_foretold hI (kl K) G d (cN (G 240)) 0 (G 240) (G 240) (G 244) (by omega) hd hV.2.2.2.2.1) rfl rfl (by simp [Value.category]) rfl rfl ⟨by decide, by decide⟩ dX6_toldOf_27 (fun r27 Gc27 q27 => ?_)
    obtain ⟨ev9, eg9⟩ := q27
    subst ev9
    rw [eg9]
    exact hret _ _ _ _ dX6_toldOf_30 ⟨(by unfold rToldOf; exact (if_neg (Int32.not_lt.mpr c9)).symm), rfl⟩
  · refine x_aload_n (pc := 12) hc dX6_toldOf_12 0 rfl ?_
    refine x_get (pc := 13) hc cfR kcX6 0 (by decide) fl_X6_7 rfl dX6_toldOf_13 ?_
    refine x_bipush (v := 20) (pc := 16) hc dX6_toldOf_16 (by decide) ?_
    refine x_iload_n (pc := 18) hc dX6_toldOf_18 1 rfl ?_
    refine x_iadd (pc := 19) hc dX6_toldOf_19 ?_
    refine x_as (nI (20 + d)) (nI_add _ _) ?_
    refine x_iald (pc := 20) hc af0 (vp_in_nI (by omega) (by decide)) dX6_toldOf_20 ?_
    refine x_as (G 240 (20 + d)) (congrArg _ (nI_clamp (by omega))) ?_
    refine x_goto (pc := 21) hc dX6_toldOf_21 30 (by decide) ?_
    exact hret _ _ _ _ dX6_toldOf_30 ⟨(by unfold rToldOf; exact (if_pos (Int32.not_le.mp c9)).symm), rfl⟩
set_option maxHeartbeats 4000000 in
set_option maxRecDepth 100000 in
theorem m_X6_frostOf {w : WT} (hI : xI w) (l : Launch) (G : GS) (d B : Nat) (hV : AV (aOf G) B) (hd : d < 20) : Mi w l yX6_frostOf cX6_frostOf 2 (some .int) ⟨4, 0, 0, 91⟩ [.ref (w.2.2 239), .int (nI d)] G (fun v9 G' => v9 = b01 (rToldOf (G 240) d ≤ G 240 305) ∧ G' = G) := by
  refine mk_i (L0 := [(0, .ref (w.2.2 239)), (1, .int (nI d))]) hI (by decide +kernel) rfl (Nat.le_of_ble_eq_true rfl) (fun _ _ _ => rfl) (fun K hc hret => ?_)
  refine x_aload_n (pc := 0) hc dX6_frostOf_0 0 rfl ?_
  refine x_iload_n (pc := 1) hc dX6_frostOf_1 1 rfl ?_
  refine x_callVi (pc := 2) hc cl_X6_126 cfR kcX6 [.int (nI d)] (m_X6_toldOf hI (kl K) G d B hV.2.1 (by omega)) rfl rfl (by simp [Value.category]) rfl rfl ⟨by decide, by decide⟩ dX6_frostOf_2 (fun r2 Gc2 q2 => ?_)
  obtain ⟨er2, eGc2⟩ := q2
  rw [eGc2]
  subst er2
  refine x_aload_n (pc := 5) hc dX6_frostOf_5 0 rfl ?_
  refine x_get (pc := 6) hc cfR kcX6 0 (by decide) fl_X6_7 rfl dX6_frostOf_6 ?_
  refine x_sipush (v := 305) (pc := 9) hc dX6_frostOf_9 (by decide) ?_
  refine x_as (nI 305) rfl ?_
  refine x_iald (pc := 12) hc af0 (vp_in_nI (by omega) (by decide)) dX6_frostOf_12 ?_
  refine x_as (G 240 305) (congrArg _ (nI_clamp (by omega))) ?_
  refine x_icmp_gt (pc := 13) hc dX6_frostOf_13 20 (by decide) (fun c13 => ?_) (fun c13 => ?_)
  · refine x_iconst (v := 0) (pc := 20) hc dX6_frostOf_20 (by decide) ?_
    exact hret _ _ _ _ dX6_frostOf_21 ⟨(b01_neg (Int32.not_le.mpr c13)).symm, rfl⟩
  · refine x_iconst (v := 1) (pc := 16) hc dX6_frostOf_16 (by decide) ?_
    refine x_goto (pc := 17) hc dX6_frostOf_17 21 (by decide) ?_
    exact hret _ _ _ _ dX6_frostOf_21 ⟨(b01_pos (Int32.not_lt.mp c13)).symm, rfl⟩
set_option maxHeartbeats 4000000 in
set_option maxRecDepth 100000 in
theorem M_dayOf {w : WT} (hI : xI w) (l : Launch) (G : GS) (x y : Int32) (B : Nat) (hR : MR G) (hV : AV (aOf G) B) : Mi w l yX6_dayOf cX6_dayOf 4 (some .int) ⟨5, 0, 0, 112⟩ [.ref (w.2.2 239), .int x, .int y] G (fun v9 G' => v9 = qDayOf (aOf G) x y ∧ PMq G G' (aOf G)) := by
  refine mk_i (L0 := [(0, .ref (w.2.2 239)), (1, .int x), (2, .int y)]) hI (by decide +kernel) rfl (Nat.le_of_ble_eq_true rfl) (fun _ _ _ => rfl) (fun K hc hret => ?_)
  have hn : aN (aOf G) ≤ 4 := hV.1
  have h300 : G 240 300 = nI (dN (G 240)) := hV.2.1.1.2
  have hdN : dN (G 240) < 20 := hV.2.1.1.1
  have h303a : G 240 303 = nI (rN (G 240)) := hV.2.1.2.2.1.2
  have hrN : rN (G 240) ≤ 9 := hV.2.1.2.2.1.1
  have hsn : rSn (G 240) (cN (G 240)) := hV.2.1.2.2.2.2.1
  have hcN := hsn.1
  have h302 : G 240 302 = nI (kN (G 240)) := hV.2.1.2.1.2.2
  have hkN : kN (G 240) ≤ 4 := by unfold kN; omega
  refine x_iload_n (pc := 0) hc dX6_dayOf_0 1 rfl ?_
  refine x_callSi (pc := 1) hc cl_X6_48 [.int x] (m_X6_isDay hI (kl K) G x) rfl rfl (by simp [Value.category]) rfl rfl ⟨by decide, by decide⟩ dX6_dayOf_1 (fun r1 Gc1 q1 => ?_)
  obtain ⟨er1, eGc1⟩ := q1
  rw [eGc1]
  subst er1
  refine x_if_ne (pc := 4) hc dX6_dayOf_4 9 (by decide) (fun c4 => ?_) (fun c4 => ?_)
  · obtain ⟨d, hd, rfl⟩ := inB_nat (n := 19) rfl c4
    have zd : (nI d).toNatClampNeg = d := nI_clamp (by omega)
    refine x_iload_n (pc := 9) hc dX6_dayOf_9 1 rfl ?_
    refine x_aload_n (pc := 10) hc dX6_dayOf_10 0 rfl ?_
    refine x_get (pc := 11) hc cfR kcX6 0 (by decide) fl_X6_7 rfl dX6_dayOf_11 ?_
    refine x_sipush (v := 300) (pc := 14) hc dX6_dayOf_14 (by decide) ?_
    refine x_as (nI 300) rfl ?_
    refine x_iald (pc := 17) hc af0 (vp_in_nI (by omega) (by decide)) dX6_dayOf_17 ?_
    refine x_as (G 240 300) (congrArg _ (nI_clamp (by omega))) ?_
    refine x_icmp_ge (pc := 18) hc dX6_dayOf_18 25 (by decide) (fun c18 => ?_) (fun c18 => ?_)
    · refine x_iconst (v := 0) (pc := 25) hc dX6_dayOf_25 (by decide) ?_
      refine x_istore_n (pc := 26) (L' := [(3, .int 0), (0, .ref (w.2.2 239)), (1, .int (nI d)), (2, .int y)]) hc dX6_dayOf_26 (by decide) rfl ?_
      refine x_iload_n (pc := 27) hc dX6_dayOf_27 3 rfl ?_
      by_cases s28_0 : y = 0
      · subst s28_0
        refine x_tableIn (pc := 28) hc dX6_dayOf_28 (by decide) (by decide) rfl 64 (by decide) ?_
        refine x_aload_n (pc := 64) hc dX6_dayOf_64 1 rfl ?_
        refine x_get (pc := 65) hc cfR kcX6 0 (by decide) fl_X6_7 rfl dX6_dayOf_65 ?_
        refine x_iconst (v := 0) (pc := 68) hc dX6_dayOf_68 (by decide) ?_
        refine x_iload_n (pc := 69) hc dX6_dayOf_69 2 rfl ?_
        refine x_iadd (pc := 70) hc dX6_dayOf_70 ?_
        refine x_as (nI d) (Int32.zero_add _) ?_
        refine x_iald (pc := 71) hc af0 (vp_in_nI (by omega) (by decide)) dX6_dayOf_71 ?_
        refine x_as (G 240 d) (congrArg _ (nI_clamp (by omega))) ?_
        refine x_sipush (v := 1000) (pc := 72) hc dX6_dayOf_72 (by decide) ?_
        refine x_iadd (pc := 75) hc dX6_dayOf_75 ?_
        exact hret _ _ _ _ dX6_dayOf_76 ⟨(by unfold qDayOf; rw [if_neg c4, if_pos rfl, zd]), PMq_same hR (fun _ _ => rfl)⟩
      by_cases s28_1 : y = 1
      · subst s28_1
        refine x_tableIn (pc := 28) hc dX6_dayOf_28 (by decide) (by decide) rfl 77 (by decide) ?_
        refine x_aload_n (pc := 77) hc dX6_dayOf_77 1 rfl ?_
        refine x_iload_n (pc := 78) hc dX6_dayOf_78 2 rfl ?_
        refine x_callVi (pc := 79) hc cl_X6_126 cfR kcX6 [.int (nI d)] (m_X6_toldOf hI (kl K) G d B hV.2.1 (by omega)) rfl rfl (by simp [Value.category]) rfl rfl ⟨by decide, by decide⟩ dX6_dayOf_79 (fun r79 Gc79 q79 => ?_)
        obtain ⟨er79, eGc79⟩ := q79
        rw [eGc79]
        subst er79
        refine x_sipush (v := 1000) (pc := 82) hc dX6_dayOf_82 (by decide) ?_
        refine x_iadd (pc := 85) hc dX6_dayOf_85 ?_
        exact hret _ _ _ _ dX6_dayOf_86 ⟨(by unfold qDayOf; rw [if_neg c4, if_neg (by decide), if_pos rfl, zd]), PMq_same hR (fun _ _ => rfl)⟩
      by_cases s28_2 : y = 2
      · subst s28_2
        refine x_tableIn (pc := 28) hc dX6_dayOf_28 (by decide) (by decide) rfl 87 (by decide) ?_
        refine x_iload_n (pc := 87) hc dX6_dayOf_87 0 rfl ?_
        refine x_if_eq (pc := 88) hc dX6_dayOf_88 107 (by decide) (fun c88 => ?_) (fun c88 => ?_)
        · refine x_bipush (v := (-5)) (pc := 107) hc dX6_dayOf_107 (by decide) ?_
          exact hret _ _ _ _ dX6_dayOf_109 ⟨(by unfold qDayOf; rw [if_neg c4, if_neg (by decide), if_neg (by decide), if_pos rfl, if_neg (Int32.not_lt.mpr c18)]), PMq_same hR (fun _ _ => rfl)⟩
        · exact absurd (by decide) c88
      by_cases s28_3 : y = 3
      · subst s28_3
        refine x_tableIn (pc := 28) hc dX6_dayOf_28 (by decide) (by decide) rfl 110 (by decide) ?_
        refine x_iload_n (pc := 110) hc dX6_dayOf_110 0 rfl ?_
        refine x_if_eq (pc := 111) hc dX6_dayOf_111 140 (by decide) (fun c111 => ?_) (fun c111 => ?_)
        · refine x_bipush (v := (-5)) (pc := 140) hc dX6_dayOf_140 (by decide) ?_
          exact hret _ _ _ _ dX6_dayOf_142 ⟨(by unfold qDayOf; rw [if_neg c4, if_neg (by decide), if_neg (by decide), if_neg (by decide), if_pos rfl, if_neg (Int32.not_lt.mpr c18)]), PMq_same hR (fun _ _ => rfl)⟩
        · exact absurd (by decide) c111
      by_cases s28_4 : y = 4
      · subst s28_4
        refine x_tableIn (pc := 28) hc dX6_dayOf_28 (by decide) (by decide) rfl 143 (by decide) ?_
        refine x_aload_n (pc := 143) hc dX6_dayOf_143 1 rfl ?_
        refine x_iload_n (pc := 144) hc dX6_dayOf_144 2 rfl ?_
        refine x_callVi (pc := 145) hc cl_X6_129 cfR kcX6 [.int (nI d)] (m_X6_frostOf hI (kl K) G d B hV (by omega)) rfl rfl (by simp [Value.category]) rfl rfl ⟨by decide, by decide⟩ dX6_dayOf_145 (fun r145 Gc145 q145 => ?_)
        obtain ⟨er145, eGc145⟩ := q145
        rw [eGc145]
        subst er145
        exact hret _ _ _ _ dX6_dayOf_148 ⟨(by unfold qDayOf; rw [if_neg c4, if_neg (by decide), if_neg (by decide), if_neg (by decide), if_neg (by decide), if_pos rfl, zd]), PMq_same hR (fun _ _ => rfl)⟩
      have t28_0 : y.toInt ≠ 0 := fun z => s28_0 (Int32.toInt_inj.mp z)
      have t28_1 : y.toInt ≠ 1 := fun z => s28_1 (Int32.toInt_inj.mp z)
      have t28_2 : y.toInt ≠ 2 := fun z => s28_2 (Int32.toInt_inj.mp z)
      have t28_3 : y.toInt ≠ 3 := fun z => s28_3 (Int32.toInt_inj.mp z)
      have t28_4 : y.toInt ≠ 4 := fun z => s28_4 (Int32.toInt_inj.mp z)
      refine x_tableOut (pc := 28) hc dX6_dayOf_28 (by omega) 149 (by decide) ?_
      refine x_bipush (v := (-2)) (pc := 149) hc dX6_dayOf_149 (by decide) ?_
      exact hret _ _ _ _ dX6_dayOf_151 ⟨(by unfold qDayOf; rw [if_neg c4, if_neg s28_0, if_neg s28_1, if_neg s28_2, if_neg s28_3, if_neg s28_4]), PMq_same hR (fun _ _ => rfl)⟩
    · refine x_iconst (v := 1) (pc := 21) hc dX6_dayOf_21 (by decide) ?_
      refine x_goto (pc := 22) hc dX6_dayOf_22 26 (by decide) ?_
      refine x_istore_n (pc := 26) (L' := [(3, .int 1), (0, .ref (w.2.2 239)), (1, .int (nI d)), (2, .int y)]) hc dX6_dayOf_26 (by decide) rfl ?_
      refine x_iload_n (pc := 27) hc dX6_dayOf_27 3 rfl ?_
      by_cases s28_0 : y = 0
      · subst s28_0
        refine x_tableIn (pc := 28) hc dX6_dayOf_28 (by decide) (by decide) rfl 64 (by decide) ?_
        refine x_aload_n (pc := 64) hc dX6_dayOf_64 1 rfl ?_
        refine x_get (pc := 65) hc cfR kcX6 0 (by decide) fl_X6_7 rfl dX6_dayOf_65 ?_
        refine x_iconst (v := 0) (pc := 68) hc dX6_dayOf_68 (by decide) ?_
        refine x_iload_n (pc := 69) hc dX6_dayOf_69 2 rfl ?_
        refine x_iadd (pc := 70) hc dX6_dayOf_70 ?_
        refine x_as (nI d) (Int32.zero_add _) ?_
        refine x_iald (pc := 71) hc af0 (vp_in_nI (by omega) (by decide)) dX6_dayOf_71 ?_
        refine x_as (G 240 d) (congrArg _ (nI_clamp (by omega))) ?_
        refine x_sipush (v := 1000) (pc := 72) hc dX6_dayOf_72 (by decide) ?_
        refine x_iadd (pc := 75) hc dX6_dayOf_75 ?_
        exact hret _ _ _ _ dX6_dayOf_76 ⟨(by unfold qDayOf; rw [if_neg c4, if_pos rfl, zd]), PMq_same hR (fun _ _ => rfl)⟩
      by_cases s28_1 : y = 1
      · subst s28_1
        refine x_tableIn (pc := 28) hc dX6_dayOf_28 (by decide) (by decide) rfl 77 (by decide) ?_
        refine x_aload_n (pc := 77) hc dX6_dayOf_77 1 rfl ?_
        refine x_iload_n (pc := 78) hc dX6_dayOf_78 2 rfl ?_
        refine x_callVi (pc := 79) hc cl_X6_126 cfR kcX6 [.int (nI d)] (m_X6_toldOf hI (kl K) G d B hV.2.1 (by omega)) rfl rfl (by simp [Value.category]) rfl rfl ⟨by decide, by decide⟩ dX6_dayOf_79 (fun r79_1 Gc79_1 q79_1 => ?_)
        obtain ⟨er79_1, eGc79_1⟩ := q79_1
        rw [eGc79_1]
        subst er79_1
        refine x_sipush (v := 1000) (pc := 82) hc dX6_dayOf_82 (by decide) ?_
        refine x_iadd (pc := 85) hc dX6_dayOf_85 ?_
        exact hret _ _ _ _ dX6_dayOf_86 ⟨(by unfold qDayOf; rw [if_neg c4, if_neg (by decide), if_pos rfl, zd]), PMq_same hR (fun _ _ => rfl)⟩
      by_cases s28_2 : y = 2
      · subst s28_2
        refine x_tableIn (pc := 28) hc dX6_dayOf_28 (by decide) (by decide) rfl 87 (by decide) ?_
        refine x_iload_n (pc := 87) hc dX6_dayOf_87 0 rfl ?_
        refine x_if_eq (pc := 88) hc dX6_dayOf_88 107 (by decide) (fun c88_1 => ?_) (fun c88_1 => ?_)
        · exact absurd c88_1 (by decide)
        · refine x_aload_n (pc := 91) hc dX6_dayOf_91 1 rfl ?_
          refine x_get (pc := 92) hc cfR kcX6 0 (by decide) fl_X6_7 rfl dX6_dayOf_92 ?_
          refine x_bipush (v := 40) (pc := 95) hc dX6_dayOf_95 (by decide) ?_
          refine x_iload_n (pc := 97) hc dX6_dayOf_97 2 rfl ?_
          refine x_iadd (pc := 98) hc dX6_dayOf_98 ?_
          refine x_as (nI (40 + d)) (nI_add _ _) ?_
          refine x_iald (pc := 99) hc af0 (vp_in_nI (by omega) (by decide)) dX6_dayOf_99 ?_
          refine x_as (G 240 (40 + d)) (congrArg _ (nI_clamp (by omega))) ?_
          refine x_sipush (v := 1000) (pc := 100) hc dX6_dayOf_100 (by decide) ?_
          refine x_iadd (pc := 103) hc dX6_dayOf_103 ?_
          refine x_goto (pc := 104) hc dX6_dayOf_104 109 (by decide) ?_
          exact hret _ _ _ _ dX6_dayOf_109 ⟨(by unfold qDayOf; rw [if_neg c4, if_neg (by decide), if_neg (by decide), if_pos rfl, if_pos (Int32.not_le.mp c18), zd]), PMq_same hR (fun _ _ => rfl)⟩
      by_cases s28_3 : y = 3
      · subst s28_3
        refine x_tableIn (pc := 28) hc dX6_dayOf_28 (by decide) (by decide) rfl 110 (by decide) ?_
        refine x_iload_n (pc := 110) hc dX6_dayOf_110 0 rfl ?_
        refine x_if_eq (pc := 111) hc dX6_dayOf_111 140 (by decide) (fun c111_1 => ?_) (fun c111_1 => ?_)
        · exact absurd c111_1 (by decide)
        · refine x_aload_n (pc := 114) hc dX6_dayOf_114 1 rfl ?_
          refine x_get (pc := 115) hc cfR kcX6 0 (by decide) fl_X6_7 rfl dX6_dayOf_115 ?_
          refine x_bipush (v := 40) (pc := 118) hc dX6_dayOf_118 (by decide) ?_
          refine x_iload_n (pc := 120) hc dX6_dayOf_120 2 rfl ?_
          refine x_iadd (pc := 121) hc dX6_dayOf_121 ?_
          refine x_as (nI (40 + d)) (nI_add _ _) ?_
          refine x_iald (pc := 122) hc af0 (vp_in_nI (by omega) (by decide)) dX6_dayOf_122 ?_
          refine x_as (G 240 (40 + d)) (congrArg _ (nI_clamp (by omega))) ?_
          refine x_aload_n (pc := 123) hc dX6_dayOf_123 1 rfl ?_
          refine x_get (pc := 124) hc cfR kcX6 0 (by decide) fl_X6_7 rfl dX6_dayOf_124 ?_
          refine x_bipush (v := 20) (pc := 127) hc dX6_dayOf_127 (by decide) ?_
          refine x_iload_n (pc := 129) hc dX6_dayOf_129 2 rfl ?_
          refine x_iadd (pc := 130) hc dX6_dayOf_130 ?_
          refine x_as (nI (20 + d)) (nI_add _ _) ?_
          refine x_iald (pc := 131) hc af0 (vp_in_nI (by omega) (by decide)) dX6_dayOf_131 ?_
          refine x_as (G 240 (20 + d)) (congrArg _ (nI_clamp (by omega))) ?_
          refine x_isub (pc := 132) hc dX6_dayOf_132 ?_
          refine x_sipush (v := 1000) (pc := 133) hc dX6_dayOf_133 (by decide) ?_
          refine x_iadd (pc := 136) hc dX6_dayOf_136 ?_
          refine x_goto (pc := 137) hc dX6_dayOf_137 142 (by decide) ?_
          exact hret _ _ _ _ dX6_dayOf_142 ⟨(by unfold qDayOf; rw [if_neg c4, if_neg (by decide), if_neg (by decide), if_neg (by decide), if_pos rfl, if_pos (Int32.not_le.mp c18), zd]), PMq_same hR (fun _ _ => rfl)⟩
      by_cases s28_4 : y = 4
      · subst s28_4
        refine x_tableIn (pc := 28) hc dX6_dayOf_28 (by decide) (by decide) rfl 143 (by decide) ?_
        refine x_aload_n (pc := 143) hc dX6_dayOf_143 1 rfl ?_
        refine x_iload_n (pc := 144) hc dX6_dayOf_144 2 rfl ?_
        refine x_callVi (pc := 145) hc cl_X6_129 cfR kcX6 [.int (nI d)] (m_X6_frostOf hI (kl K) G d B hV (by omega)) rfl rfl (by simp [Value.category]) rfl rfl ⟨by decide, by decide⟩ dX6_dayOf_145 (fun r145_1 Gc145_1 q145_1 => ?_)
        obtain ⟨er145_1, eGc145_1⟩ := q145_1
        rw [eGc145_1]
        subst er145_1
        exact hret _ _ _ _ dX6_dayOf_148 ⟨(by unfold qDayOf; rw [if_neg c4, if_neg (by decide), if_neg (by decide), if_neg (by decide), if_neg (by decide), if_pos rfl, zd]), PMq_same hR (fun _ _ => rfl)⟩
      have t28_0 : y.toInt ≠ 0 := fun z => s28_0 (Int32.toInt_inj.mp z)
      have t28_1 : y.toInt ≠ 1 := fun z => s28_1 (Int32.toInt_inj.mp z)
      have t28_2 : y.toInt ≠ 2 := fun z => s28_2 (Int32.toInt_inj.mp z)
      have t28_3 : y.toInt ≠ 3 := fun z => s28_3 (Int32.toInt_inj.mp z)
      have t28_4 : y.toInt ≠ 4 := fun z => s28_4 (Int32.toInt_inj.mp z)
      refine x_tableOut (pc := 28) hc dX6_dayOf_28 (by omega) 149 (by decide) ?_
      refine x_bipush (v := (-2)) (pc := 149) hc dX6_dayOf_149 (by decide) ?_
      exact hret _ _ _ _ dX6_dayOf_151 ⟨(by unfold qDayOf; rw [if_neg c4, if_neg s28_0, if_neg s28_1, if_neg s28_2, if_neg s28_3, if_neg s28_4]), PMq_same hR (fun _ _ => rfl)⟩
  · refine x_iconst (v := (-1)) (pc := 7) hc dX6_dayOf_7 (by decide) ?_
    exact hret _ _ _ _ dX6_dayOf_8 ⟨(by unfold qDayOf; rw [if_pos c4]), PMq_same hR (fun _ _ => rfl)⟩
