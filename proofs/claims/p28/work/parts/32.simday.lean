theorem rGo_lo (f : Nat → Int32) (w : Int32) {d i : Nat} (h : i < 300) : rGo f w d i = upd (upd f (20 + d) (rTold f d)) (40 + d) w i := by
  unfold rGo rMid
  rw [upd_n _ _ (by omega), upd_n _ _ (by omega), upd_n _ _ (by omega)]
  unfold rSettled
  rw [rSets_n _ _ _ _ (by omega) 4 (by omega), rPre_lo _ _ _ _ _ _ _ (by omega)]
theorem rGo_mid (f : Nat → Int32) (w : Int32) {d i : Nat} (hd : d < 20) (h0 : 300 < i) (h : i < 328) : rGo f w d i = f i := by
  unfold rGo
  exact rMid_n _ _ _ _ _ _ _ hd (by omega) h (by omega)
theorem rGo_hi (f : Nat → Int32) (w : Int32) {d i : Nat} (h0 : 300 < i) (h : i < 352) : rGo f w d i = rSettled f w (rTold f d) d (rT f d) (b01 (w ≤ 0)) i := by
  unfold rGo rMid
  rw [upd_n _ _ (by omega), upd_n _ _ (by omega), upd_n _ _ (by omega)]
theorem i32_ss (a b : Int32) : a - (a - b) = b := by rw [Int32.sub_eq_add_neg a, Int32.neg_sub, Int32.add_comm, Int32.sub_add_cancel]
theorem Sim_go {g g1 g2 g3 g4 g5 g6 g7 : GS} {f : Nat → Int32} {B : Nat} {w z t x : Int32} (hS : Sim g f) (hV : RV f B) (hz : BZ f) (hx : x = w - rTold f (dN f)) (et : t = rT f (dN f)) (ez : z = b01 (w ≤ 0))
    (e1 : g1 = up2 g (cY f + 2) (dN f) (rTold f (dN f))) (e2 : g2 = up2 g1 (cY f + 3) (dN f) w) (e3 : g3 = up2 g2 (cY f + 4) (dN f) x) (e4 : g4 = up2 g3 (cY f) 4 (g3 (cY f) 4 + szI x)) (e5 : g5 = up2 g4 0 8 (g4 0 8 + szI x))
    (e6 : g6 = up2 (cSets (cnt g5 z t) z t 4) 0 7 (cSets (cnt g5 z t) z t 4 0 7 + 1)) (e7 : g7 = up2 g6 0 6 (nI (dN f + 1))) : Sim g7 (rGo f w (dN f)) := by
  have hS0 := hS
  obtain ⟨s1, ⟨t4, t5, t6, t7, t8, t9, t10, t11, t12⟩, s3, s4, ⟨y1, y2, y3, y4⟩, so⟩ := hS
  obtain ⟨⟨d1, d2⟩, ⟨v1, v2, v3⟩, ⟨r1, r2⟩, ⟨o, ho1, ho2, ho3⟩, ⟨c1, c2, c3⟩, hb4⟩ := hV
  have ry := cY_r f
  -- what the rows before the count are
  have k5 : ∀ c, c ≠ 0 → c ≠ cY f → c ≠ cY f + 2 → c ≠ cY f + 3 → c ≠ cY f + 4 → g5 c = g c := fun c a b c2 c3 c4 => by
    rw [e5, up2_r _ _ _ a, e4, up2_r _ _ _ b, e3, up2_r _ _ _ c4, e2, up2_r _ _ _ c3, e1, up2_r _ _ _ c2]
  have k50 : ∀ i, i ≠ 8 → g5 0 i = g 0 i := fun i hi => by
    rw [e5, up2_i _ _ _ _ hi, e4, up2_k _ _ _ _ (by omega), e3, up2_k _ _ _ _ (by omega), e2, up2_k _ _ _ _ (by omega), e1, up2_k _ _ _ _ (by omega)]
  have k58 : g5 0 8 = f 352 + szI x := by
    rw [e5, up2_s, e4, up2_k _ _ _ _ (by omega), e3, up2_k _ _ _ _ (by omega), e2, up2_k _ _ _ _ (by omega), e1, up2_k _ _ _ _ (by omega), t8]
  -- the rows behind it
  have k7 : ∀ c, c ≠ 0 → c < 35 → g7 c = g5 c := fun c h1 h2 => by
    rw [e7, up2_r _ _ _ h1, e6, up2_r _ _ _ h1, cSets_r _ _ _ _ h2 h1, cnt_r _ _ _ _ h1]
  have k70 : ∀ i, i ≠ 6 → i ≠ 7 → i ≠ 12 → g7 0 i = cnt g5 z t 0 i := fun i h1 h2 h3 => by
    rw [e7, up2_i _ _ _ _ h1, e6, up2_i _ _ _ _ h2, cSets_0 _ _ _ _ h3]
  have kR : ∀ c, 35 ≤ c → c < 39 → g7 c = cSets (cnt g5 z t) z t 4 c := fun c h1 h2 => by
    rw [e7, up2_r _ _ _ (by omega), e6, up2_r _ _ _ (by omega)]
  have hSR : SR (cSets (cnt g5 z t) z t 4) (rSettled f w (rTold f (dN f)) (dN f) t z) := by
    unfold rSettled
    have hpl : ∀ i, 60 ≤ i → i < 348 → rPre f w (rTold f (dN f)) (dN f) t z i = f i := fun i h1 h2 => rPre_n _ _ _ _ _ _ _ d1 (by omega) (by omega)
    refine cSets_sim (o := o) ⟨?_, ?_, fun k hk j hj => ?_⟩ (fun k hk => ?_) (fun k hk hh => ?_) ho1 ho2 ?_ 4 (by omega)
    · rw [cnt_0 _ _ _ _ (by omega), k50 _ (by omega), t12, rPre_n _ _ _ _ _ _ _ d1 (by omega) (by omega)]
    · rw [cnt_r _ _ _ _ (by omega), k5 1 (by omega) (by omega) (by omega) (by omega) (by omega), hpl 306 (by omega) (by omega)]
      exact s1 3 (by omega)
    · rw [cnt_r _ _ _ _ (by omega), k5 _ (by omega) (by omega) (by omega) (by omega) (by omega), hpl _ (by omega) (by omega)]
      exact s4 k hk j hj
    · obtain ⟨x9, hx9, u1, u2⟩ := hb4 k hk
      refine ⟨x9, hx9, ?_, ?_⟩
      · rw [hpl _ (by omega) (by omega)]; exact u1
      · rw [hpl _ (by omega) (by omega)]; exact u2
    · rw [hpl _ (by omega) (by omega)] at hh ⊢
      exact hz k hk hh
    · rw [hpl _ (by omega) (by omega)]; exact ho3
  have q300 : rGo f w (dN f) 300 = nI (dN f + 1) := rMid_300 _ _ _ _ _ _
  have q301 : rGo f w (dN f) 301 = f 301 := rGo_mid f w d1 (by omega) (by omega)
  have eY : yN (rGo f w (dN f)) = yN f := by unfold yN; rw [q301]
  have eD : dN (rGo f w (dN f)) = dN f + 1 := dN_eq q300 (by omega)
  have ec : cY (rGo f w (dN f)) = cY f := by unfold cY; rw [eY]
  have eo : ∀ a, cO (rGo f w (dN f)) a = cO f a := fun a => by unfold cO; rw [eY]
  have ecN : cN (rGo f w (dN f)) = cN f := by unfold cN; rw [rGo_mid f w d1 (by omega) (by omega)]
  have ekN : kN (rGo f w (dN f)) = kN f := by unfold kN; rw [eY]
  have hm : ∀ j, j ≠ dN f → nowM (rGo f w (dN f)) j = nowM f j := fun j hj => by
    unfold nowM
    rw [eD]
    by_cases h : j < dN f
    · rw [if_pos (by omega), if_pos h, rGo_lo f w (by omega), rGo_lo f w (by omega), upd_n _ _ (by omega), upd_n _ _ (by omega), upd_n _ _ (by omega), upd_n _ _ (by omega)]
    · rw [if_neg (by omega), if_neg h]
  have hmd : nowM (rGo f w (dN f)) (dN f) = x := by
    unfold nowM
    rw [eD, if_pos (by omega), rGo_lo f w (by omega), rGo_lo f w (by omega), upd_s, upd_n _ _ (by omega), upd_s, hx]
  have hm0 : nowM f (dN f) = 0 := if_neg (by omega)
  have kc : ∀ i, 328 ≤ i → i < 352 → rGo f w (dN f) i = rSettled f w (rTold f (dN f)) (dN f) t z i := fun i h1 h2 => by
    rw [rGo_hi f w (by omega) h2, et, ez]
  have kcn : ∀ i, 348 ≤ i → i < 351 → rGo f w (dN f) i = rPre f w (rTold f (dN f)) (dN f) t z i := fun i h1 h2 => by
    rw [kc i (by omega) (by omega)]
    unfold rSettled
    exact rSets_n2 _ _ _ _ 4 (by omega) (by omega) (by omega)
  have q352 : rGo f w (dN f) 352 = f 352 + szI x := by
    unfold rGo rMid
    rw [upd_n _ _ (by omega), upd_n _ _ (by omega), upd_s, hx]
    unfold rSettled
    rw [rSets_n2 _ _ _ _ 4 (by omega) (by omega) (by omega), rPre_n _ _ _ _ _ _ _ d1 (by omega) (by omega)]
  have q353 : rGo f w (dN f) 353 = f 353 + 1 := by
    unfold rGo rMid
    rw [upd_n _ _ (by omega), upd_s, upd_n _ _ (by omega)]
    unfold rSettled
    rw [rSets_n2 _ _ _ _ 4 (by omega) (by omega) (by omega), rPre_n _ _ _ _ _ _ _ d1 (by omega) (by omega)]
  refine ⟨fun i hi => ?_, ⟨?_, ?_, ?_, ?_, ?_, ?_, ?_, ?_, ?_⟩, fun i hi j hj => ?_, fun k hk j hj => ?_, ⟨fun i hi => ?_, fun i hi => ?_, fun i hi => ?_, ?_⟩, fun a ha => ⟨fun i hi => ?_, ?_⟩⟩
  · rw [k7 1 (by omega) (by omega), k5 1 (by omega) (by omega) (by omega) (by omega) (by omega), rGo_mid f w d1 (by omega) (by omega)]; exact s1 i hi
  · rw [k70 4 (by omega) (by omega) (by omega), cnt_0 _ _ _ _ (by omega), k50 _ (by omega), rGo_mid f w d1 (by omega) (by omega), t4]
  · rw [k70 5 (by omega) (by omega) (by omega), cnt_0 _ _ _ _ (by omega), k50 _ (by omega), rGo_mid f w d1 (by omega) (by omega), t5]
  · rw [e7, up2_s, q300]
  · rw [e7, up2_i _ _ _ _ (by omega), e6, up2_s, cSets_0 _ _ _ _ (by omega), cnt_0 _ _ _ _ (by omega), k50 _ (by omega), t7, q353]
  · rw [k70 8 (by omega) (by omega) (by omega), cnt_0 _ _ _ _ (by omega), k58, q352]
  · rw [k70 9 (by omega) (by omega) (by omega), cnt_9, k50 _ (by omega), t9, kcn _ (by omega) (by omega), rPre_348 _ _ _ _ _ _ d1]
  · rw [k70 10 (by omega) (by omega) (by omega), cnt_10, k50 _ (by omega), t10, kcn _ (by omega) (by omega), rPre_349 _ _ _ _ _ _ d1]
  · rw [k70 11 (by omega) (by omega) (by omega), cnt_11, k50 _ (by omega), t11, kcn _ (by omega) (by omega), rPre_350 _ _ _ _ _ _ d1]
  · rw [e7, up2_i _ _ _ _ (by omega), e6, up2_i _ _ _ _ (by omega), hSR.1, kc _ (by omega) (by omega)]
  · rw [ecN] at hi
    rw [k7 _ (by omega) (by omega), k5 _ (by omega) (by omega) (by omega) (by omega) (by omega), rGo_mid f w d1 (by omega) (by omega)]
    exact s3 i hi j hj
  · rw [kR _ (by omega) (by omega), kc _ (by omega) (by omega)]
    exact hSR.2.2 k hk j hj
  · rw [ec, k7 _ (by omega) (by omega), k5 _ (by omega) (by omega) (by omega) (by omega) (by omega), rGo_lo f w (by omega), upd_n _ _ (by omega), upd_n _ _ (by omega)]
    exact y1 i hi
  · rw [eD] at hi
    rw [ec, k7 _ (by omega) (by omega), k7 _ (by omega) (by omega), rGo_lo f w (by omega), rGo_lo f w (by omega)]
    constructor
    · rw [e5, up2_k _ _ _ _ (by omega), e4, up2_k _ _ _ _ (by omega), e3, up2_k _ _ _ _ (by omega), e2, up2_k _ _ _ _ (by omega), e1, upd_n _ _ (by omega)]
      by_cases h : i = dN f
      · subst h; rw [up2_s, upd_s]
      · rw [up2_i _ _ _ _ h, upd_n _ _ (by omega)]; exact (y2 i (by omega)).1
    · rw [e5, up2_k _ _ _ _ (by omega), e4, up2_k _ _ _ _ (by omega), e3, up2_k _ _ _ _ (by omega), e2]
      by_cases h : i = dN f
      · subst h; rw [up2_s, upd_s]
      · rw [up2_i _ _ _ _ h, e1, up2_k _ _ _ _ (by omega), upd_n _ _ (by omega), upd_n _ _ (by omega)]; exact (y2 i (by omega)).2
  · rw [ec, k7 _ (by omega) (by omega), e5, up2_k _ _ _ _ (by omega), e4, up2_k _ _ _ _ (by omega), e3]
    by_cases h : i = dN f
    · subst h; rw [up2_s, hmd]
    · rw [up2_i _ _ _ _ h, e2, up2_k _ _ _ _ (by omega), e1, up2_k _ _ _ _ (by omega), hm i h]; exact y3 i hi
  · rw [ec, k7 _ (by omega) (by omega), e5, up2_k _ _ _ _ (by omega), e4, up2_s, e3, up2_k _ _ _ _ (by omega), e2, up2_k _ _ _ _ (by omega), e1, up2_k _ _ _ _ (by omega), y4, sSum_set hm0 hm 20, if_pos d1, hmd]
  · rw [ekN] at ha
    have ha2 : a + 1 ≤ yN f ∧ a + 1 ≤ 4 := by unfold kN at ha; omega
    have hne : cO f a ≠ cY f ∧ ((cO f a) % 5 = 3 ∧ (cY f) % 5 = 3) := by unfold cO cY; omega
    have ro := cO_r f a
    obtain ⟨p1, p2, p3, p4⟩ := (so a ha).1 i hi
    have kk : ∀ t9, 1 ≤ t9 → t9 ≤ 4 → g7 (cO f a + t9) = g (cO f a + t9) := fun t9 h1 h2 => by
      rw [k7 _ (by omega) (by omega), k5 _ (by omega) (by omega) (by omega) (by omega) (by omega)]
    have kf : ∀ i, 60 ≤ i → i < 300 → rGo f w (dN f) i = f i := fun i h1 h2 => by rw [rGo_lo f w h2, upd_n _ _ (by omega), upd_n _ _ (by omega)]
    rw [eo a, kk 1 (by omega) (by omega), kk 2 (by omega) (by omega), kk 3 (by omega) (by omega), kk 4 (by omega) (by omega), kf _ (by omega) (by omega), kf _ (by omega) (by omega), kf _ (by omega) (by omega)]
    exact ⟨p1, p2, p3, p4⟩
  · rw [ekN] at ha
    have ha2 : a + 1 ≤ yN f ∧ a + 1 ≤ 4 := by unfold kN at ha; omega
    have hne : cO f a ≠ cY f ∧ ((cO f a) % 5 = 3 ∧ (cY f) % 5 = 3) := by unfold cO cY; omega
    have ro := cO_r f a
    rw [eo a, k7 _ (by omega) (by omega), k5 _ (by omega) (by omega) (by omega) (by omega) (by omega), (so a ha).2]
    refine sSum_congr 20 (fun j hj => ?_)
    unfold okM
    rw [rGo_lo f w (by omega), upd_n _ _ (by omega), upd_n _ _ (by omega)]
theorem rEnd2_a (f : Nat → Int32) {i : Nat} (h : i < 20) : rEnd2 f (100 + i) = f i ∧ rEnd2 f (60 + i) = f (40 + i) ∧ rEnd2 f (80 + i) = f (40 + i) - f (20 + i) := by
  have hr : ∀ j, j < 60 → rEnd1 f j = f j := fun j hj => by
    unfold rEnd1 e1Row
    rw [if_neg (by omega)]
  refine ⟨?_, ?_, ?_⟩
  · unfold rEnd2 e2Row
    rw [if_neg (by omega), if_neg (by omega), if_pos (by omega), hr _ (by omega), show 100 + i - 100 = i by omega]
  · unfold rEnd2 e2Row
    rw [if_pos (by omega), hr _ (by omega), show 60 + i - 20 = 40 + i by omega]
  · unfold rEnd2 e2Row
    rw [if_neg (by omega), if_pos (by omega), show 80 + i - 80 = i by omega]
    rfl
theorem rEnd2_b (f : Nat → Int32) {i : Nat} (h : 120 ≤ i) (h2 : i < 300) : rEnd2 f i = f (i - 60) := by
  unfold rEnd2
  rw [e2Row_n _ _ _ _ (by omega) (by omega)]
  unfold rEnd1 e1Row
  rw [if_pos (by omega)]
theorem rEnds_m (f : Nat → Int32) (r : Nat) {i : Nat} (h : 20 ≤ i) (h2 : i < 300) : rEnds f r i = rEnd2 f i := by
  unfold rEnds
  rw [upd_n _ _ (by omega), upd_n _ _ (by omega), upd_n _ _ (by omega)]
  unfold rEnd3
  rw [e3Row_n _ _ _ _ _ (by omega)]
theorem rEnds_l (f : Nat → Int32) (r : Nat) {i : Nat} (h : i < 20) : rEnds f r i = bnd (f i + mean (mm f) i r * f 304 / 100) := by
  have hr : ∀ j, (j < 60 ∨ 300 ≤ j) → rEnd2 f j = f j := fun j hj => by
    unfold rEnd2
    rw [e2Row_n _ _ _ _ (by omega) (by omega)]
    unfold rEnd1 e1Row
    rw [if_neg (by omega)]
  unfold rEnds
  rw [upd_n _ _ (by omega), upd_n _ _ (by omega), upd_n _ _ (by omega)]
  unfold rEnd3 e3Row
  rw [if_pos h, hr _ (by omega), hr _ (by omega)]
theorem Sim_end {g : GS} {f : Nat → Int32} {y r : Nat} (hS : Sim g f) (hd : f 300 = nI 20) (hy : f 301 = nI y) (hyb : y + 1 < 2 ^ 30) (hcN : cN f ≤ 5) : Sim (cEnd (up2 (up2 g 0 5 (nI (y + 1))) 0 6 0) (3 + 5 * (y % 5)) (3 + 5 * ((y + 1) % 5)) r (f 304)) (rEnds f r) := by
  obtain ⟨s1, ⟨t4, t5, t6, t7, t8, t9, t10, t11, t12⟩, s3, s4, ⟨y1, y2, y3, y4⟩, so⟩ := hS
  have eN : yN f = y := by unfold yN; rw [hy, nI_clamp (by omega)]
  have eD : dN f = 20 := dN_eq hd (by omega)
  have eY : cY f = 3 + 5 * (y % 5) := by unfold cY; rw [eN]
  have q301 : rEnds f r 301 = nI (y + 1) := by rw [rEnds_301, hy, nI_1]
  have eN' : yN (rEnds f r) = y + 1 := by unfold yN; rw [q301, nI_clamp (by omega)]
  have eD' : dN (rEnds f r) = 0 := dN_eq (rEnds_300 f r) (by omega)
  have eY' : cY (rEnds f r) = 3 + 5 * ((y + 1) % 5) := by unfold cY; rw [eN']
  have ecN : cN (rEnds f r) = cN f := by unfold cN; rw [rEnds_n f r _ (by omega)]
  have ekN : kN (rEnds f r) = min (y + 1) 4 := by unfold kN; rw [eN']
  have eO : ∀ a, cO (rEnds f r) a = 3 + 5 * ((y - a) % 5) := fun a => by unfold cO; rw [eN', show y + 1 - 1 - a = y - a by omega]
  have hw : ∀ c, c ≠ 0 → c ≠ 3 + 5 * ((y + 1) % 5) → c ≠ 3 + 5 * ((y + 1) % 5) + 1 → c ≠ 3 + 5 * ((y + 1) % 5) + 4 → cEnd (up2 (up2 g 0 5 (nI (y + 1))) 0 6 0) (3 + 5 * (y % 5)) (3 + 5 * ((y + 1) % 5)) r (f 304) c = g c := fun c h0 h1 h2 h3 => by
    unfold cEnd
    rw [up2_r _ _ _ h1, up1_n _ _ h3, up1_n _ _ h2, up2_r _ _ _ h0, up2_r _ _ _ h0]
  have h0 : ∀ i, i ≠ 5 → i ≠ 6 → cEnd (up2 (up2 g 0 5 (nI (y + 1))) 0 6 0) (3 + 5 * (y % 5)) (3 + 5 * ((y + 1) % 5)) r (f 304) 0 i = g 0 i := fun i h1 h2 => by
    unfold cEnd
    rw [up2_k _ _ _ _ (by omega), up1_n _ _ (by omega), up1_n _ _ (by omega), up2_i _ _ _ _ h2, up2_i _ _ _ _ h1]
  refine ⟨fun i hi => ?_, ⟨?_, ?_, ?_, ?_, ?_, ?_, ?_, ?_, ?_⟩, fun i hi j hj => ?_, fun k hk j hj => ?_, ⟨fun i hi => ?_, fun i hi => ?_, fun i hi => ?_, ?_⟩, fun a ha => ⟨fun i hi => ?_, ?_⟩⟩
  · rw [hw 1 (by omega) (by omega) (by omega) (by omega), rEnds_n _ _ _ (by omega)]; exact s1 i hi
  · rw [h0 4 (by omega) (by omega), rEnds_n _ _ _ (by omega), t4]
  · rw [q301]
    unfold cEnd
    rw [up2_k _ _ _ _ (by omega), up1_n _ _ (by omega), up1_n _ _ (by omega), up2_i _ _ _ _ (by omega), up2_s]
  · rw [rEnds_300]
    unfold cEnd
    rw [up2_k _ _ _ _ (by omega), up1_n _ _ (by omega), up1_n _ _ (by omega), up2_s]
  · rw [h0 7 (by omega) (by omega), rEnds_n _ _ _ (by omega), t7]
  · rw [h0 8 (by omega) (by omega), rEnds_n _ _ _ (by omega), t8]
  · rw [h0 9 (by omega) (by omega), rEnds_n _ _ _ (by omega), t9]
  · rw [h0 10 (by omega) (by omega), rEnds_n _ _ _ (by omega), t10]
  · rw [h0 11 (by omega) (by omega), rEnds_n _ _ _ (by omega), t11]
  · rw [h0 12 (by omega) (by omega), rEnds_n _ _ _ (by omega), t12]
  · rw [ecN] at hi
    rw [hw _ (by omega) (by omega) (by omega) (by omega), rEnds_n _ _ _ (by omega)]; exact s3 i hi j hj
  · rw [hw _ (by omega) (by omega) (by omega) (by omega), rEnds_n _ _ _ (by omega)]; exact s4 k hk j hj
  · rw [eY', rEnds_l f r hi]
    unfold cEnd
    rw [up2_r _ _ _ (by omega), up1_n _ _ (by omega), up1_s]
    unfold bbRow
    rw [if_pos hi, up2_r _ _ _ (by omega), up2_r _ _ _ (by omega), up2_r _ _ _ (by omega), up2_r _ _ _ (by omega), ← eY, y1 i hi, mean_congr (m' := mm f) i r (fun j hj => ?_)]
    rw [y3 j hj]
    unfold nowM mm
    rw [eD, if_pos hj]
  · rw [eD'] at hi; omega
  · rw [eY', show nowM (rEnds f r) i = 0 from if_neg (by rw [eD']; omega)]
    unfold cEnd
    rw [up2_k _ _ _ _ (by omega), up1_s]
    unfold zRow
    rw [if_pos hi]
  · rw [eY', sSum_0 (m := nowM (rEnds f r)) (fun j => if_neg (by rw [eD']; omega)) 20]
    unfold cEnd
    rw [up2_s]
  · rw [ekN] at ha
    rw [eO a, hw _ (by omega) (by omega) (by omega) (by omega), hw _ (by omega) (by omega) (by omega) (by omega), hw _ (by omega) (by omega) (by omega) (by omega), hw _ (by omega) (by omega) (by omega) (by omega)]
    rw [rEnds_m f r (by omega) (by omega), rEnds_m f r (by omega) (by omega), rEnds_m f r (by omega) (by omega)]
    by_cases h : a = 0
    · subst h
      obtain ⟨p1, p2, p3⟩ := rEnd2_a f hi
      rw [show 100 + 60 * 0 + i = 100 + i by omega, show 60 + 60 * 0 + i = 60 + i by omega, show 80 + 60 * 0 + i = 80 + i by omega, p1, p2, p3, i32_ss, show y - 0 = y by omega, ← eY]
      refine ⟨y1 i hi, (y2 i (by omega)).1, (y2 i (by omega)).2, ?_⟩
      rw [y3 i hi]
      unfold nowM
      rw [eD, if_pos hi]
    · obtain ⟨b, rfl⟩ : ∃ b, a = b + 1 := ⟨a - 1, by omega⟩
      have hb : b < kN f := by unfold kN; rw [eN]; omega
      obtain ⟨p1, p2, p3, p4⟩ := (so b hb).1 i hi
      have eo : cO f b = 3 + 5 * ((y - (b + 1)) % 5) := by unfold cO; rw [eN, show y - 1 - b = y - (b + 1) by omega]
      rw [eo] at p1 p2 p3 p4
      rw [rEnd2_b f (by omega) (by omega), rEnd2_b f (by omega) (by omega), rEnd2_b f (by omega) (by omega), show 100 + 60 * (b + 1) + i - 60 = 100 + 60 * b + i by omega, show 60 + 60 * (b + 1) + i - 60 = 60 + 60 * b + i by omega, show 80 + 60 * (b + 1) + i - 60 = 80 + 60 * b + i by omega]
      exact ⟨p1, p2, p3, p4⟩
  · rw [ekN] at ha
    rw [eO a, hw _ (by omega) (by omega) (by omega) (by omega)]
    by_cases h : a = 0
    · subst h
      rw [show y - 0 = y by omega, ← eY, y4]
      refine sSum_congr 20 (fun j hj => ?_)
      unfold okM nowM
      rw [eD, if_pos hj, rEnds_m f r (by omega) (by omega), show 80 + 60 * 0 + j = 80 + j by omega, (rEnd2_a f hj).2.2]
    · obtain ⟨b, rfl⟩ : ∃ b, a = b + 1 := ⟨a - 1, by omega⟩
      have hb : b < kN f := by unfold kN; rw [eN]; omega
      have eo : cO f b = 3 + 5 * ((y - (b + 1)) % 5) := by unfold cO; rw [eN, show y - 1 - b = y - (b + 1) by omega]
      rw [← eo, (so b hb).2]
      refine sSum_congr 20 (fun j hj => ?_)
      unfold okM
      rw [rEnds_m f r (by omega) (by omega), rEnd2_b f (by omega) (by omega), show 80 + 60 * (b + 1) + j - 60 = 80 + 60 * b + j by omega]
