theorem ix_b (x : Int32) {n m : Int32} (h : m.toInt + 1 = n.toInt) : b01 (0 ≤ x ∧ x < n) = inB x 0 m := b01_iff (by rw [Int32.lt_iff_toInt_lt, Int32.le_iff_toInt_le, Int32.le_iff_toInt_le]; omega)
theorem ix_c (x : Int32) {c : Nat} (hc : c ≤ 1000) : b01 (0 ≤ x ∧ x < nI c) = sB x c := by
  refine ix_b x ?_
  have q : (nI c).toInt = c := nI_toInt (by omega)
  have h := i32_sub (x := nI c) (y := 1) (by omega) (by omega) (by decide) (by decide)
  rw [show (1 : Int32).toInt = 1 from rfl] at h
  omega
theorem PC_put {G G1 : GS} {A : AT} {B B' b : Nat} {g : GS} {f : Nat → Int32} (eb : b = stb (G 0 4)) (hR : RC G1 (aRem A)) (gn : G1 0 4 = G 0 4) (gU : ∀ q, 239 ≤ q → G1 q = G q) (hV : AV A B) (hV' : RV f B') (hg : Sim g f) : PCq G (GC G1 b g) (aPut (aRem A) f) := by
  have h := RC_put hR (AV_rem hV) hV' hg
  rw [gn, ← eb] at h
  refine ⟨h, fun q hq => ?_⟩
  have hb := hR.1.1.2.2.2.2
  rw [gn, ← eb] at hb
  have := isB_lt hb
  rw [gc_out _ _ _ (by omega), gU q hq]
theorem PC_same {G : GS} {A : AT} (hR : RC G A) : PCq G G A := ⟨hR, fun _ _ => rfl⟩
theorem RV_keep {f f' : Nat → Int32} {B : Nat} (hB : B < 2 ^ 31) (h : ∀ i, 300 ≤ i → i < 348 → f' i = f i) (hv : RV f B) : RV f' B := by
  obtain ⟨⟨a1, a2⟩, ⟨b1, b2, b3⟩, ⟨c1, c2⟩, ho, hs, hb⟩ := hv
  refine RV_of a1 (by rw [h 300 (by omega) (by omega)]; exact a2) b1 hB (by rw [h 301 (by omega) (by omega)]; exact b2) (by rw [h 302 (by omega) (by omega)]; exact b3) c1 (by rw [h 303 (by omega) (by omega)]; exact c2) (by rw [h 306 (by omega) (by omega)]; exact ho) (rSn_congr (fun i h1 h2 => h i (by omega) (by omega)) hs) (fun k hk => ?_)
  rw [h (328 + 5 * k + 1) (by omega) (by omega), h (328 + 5 * k + 2) (by omega) (by omega)]
  exact hb k hk
/-- what a row's heads are, where a change leaves them -/
theorem hd_eq {f f' : Nat → Int32} (h : ∀ i, (i = 300 ∨ i = 301) → f' i = f i) : cY f' = cY f ∧ (∀ a, cO f' a = cO f a) ∧ dN f' = dN f ∧ kN f' = kN f := by
  have e1 : yN f' = yN f := by unfold yN; rw [h 301 (Or.inr rfl)]
  refine ⟨by unfold cY; rw [e1], fun a => by unfold cO; rw [e1], by unfold dN; rw [h 300 (Or.inl rfl)], by unfold kN; rw [e1]⟩
/-- a change outside of the years -/
theorem Sim_hi {g g' : GS} {f f' : Nat → Int32} (hS : Sim g f) (hd20 : dN f ≤ 20) (hf : ∀ i, i < 303 → f' i = f i) (hg : ∀ c, 3 ≤ c → c < 28 → g' c = g c) (k1 : ∀ i, i < 4 → g' 1 i = f' (303 + i))
    (k2 : g' 0 4 = f' 307 ∧ g' 0 5 = f' 301 ∧ g' 0 6 = f' 300 ∧ g' 0 7 = f' 353 ∧ g' 0 8 = f' 352 ∧ g' 0 9 = f' 348 ∧ g' 0 10 = f' 349 ∧ g' 0 11 = f' 350 ∧ g' 0 12 = f' 351)
    (k3 : ∀ i, i < cN f' → ∀ j, j < 4 → g' (29 + i) j = f' (308 + 4 * i + j)) (k4 : ∀ k, k < 4 → ∀ j, j < 5 → g' (35 + k) j = f' (328 + 5 * k + j)) : Sim g' f' := by
  obtain ⟨s1, _, s3, s4, ⟨y1, y2, y3, y4⟩, so⟩ := hS
  obtain ⟨e1, e2, e3, e4⟩ := hd_eq (f := f) (f' := f') (fun i hi => hf i (by omega))
  have em : ∀ j, j < 20 → nowM f' j = nowM f j := fun j hj => by
    unfold nowM
    rw [e3, hf _ (by omega), hf _ (by omega)]
  have ry := cY_r f
  refine ⟨k1, k2, k3, k4, ⟨fun i hi => ?_, fun i hi => ?_, fun i hi => ?_, ?_⟩, fun a ha => ⟨fun i hi => ?_, ?_⟩⟩
  · rw [e1, hg _ (by omega) (by omega), hf i (by omega)]; exact y1 i hi
  · rw [e3] at hi
    rw [e1, hg _ (by omega) (by omega), hg _ (by omega) (by omega), hf _ (by omega), hf _ (by omega)]; exact y2 i hi
  · rw [e1, hg _ (by omega) (by omega), em i hi]; exact y3 i hi
  · rw [e1, hg _ (by omega) (by omega), y4]; exact sSum_congr 20 (fun j hj => (em j hj).symm)
  · rw [e4] at ha
    have ro := cO_r f a
    have ha4 : a < 4 := by unfold kN at ha; omega
    rw [e2 a, hg _ (by omega) (by omega), hg _ (by omega) (by omega), hg _ (by omega) (by omega), hg _ (by omega) (by omega), hf _ (by omega), hf _ (by omega), hf _ (by omega)]
    exact (so a ha).1 i hi
  · rw [e4] at ha
    have ro := cO_r f a
    have ha4 : a < 4 := by unfold kN at ha; omega
    rw [e2 a, hg _ (by omega) (by omega), (so a ha).2]
    refine sSum_congr 20 (fun j hj => ?_)
    unfold okM
    rw [hf _ (by omega)]
theorem Sim_base {g : GS} {f : Nat → Int32} {d : Nat} {v : Int32} (hS : Sim g f) (hd : d < 20) (hd20 : dN f ≤ 20) : Sim (up2 g (cY f + 1) d v) (upd f d v) := by
  obtain ⟨s1, k2, s3, s4, ⟨y1, y2, y3, y4⟩, so⟩ := hS
  have ry := cY_r f
  have hf : ∀ i, 20 ≤ i → upd f d v i = f i := fun i hi => upd_n _ _ (by omega)
  obtain ⟨e1, e2, e3, e4⟩ := hd_eq (f := f) (f' := upd f d v) (fun i hi => hf i (by omega))
  have ec : cN (upd f d v) = cN f := by unfold cN; rw [hf 307 (by omega)]
  have em : ∀ j, nowM (upd f d v) j = nowM f j := fun j => by
    unfold nowM
    rw [e3, hf _ (by omega), hf _ (by omega)]
  have hg : ∀ c, c ≠ cY f + 1 → up2 g (cY f + 1) d v c = g c := fun c hc => up2_r _ _ _ hc
  refine ⟨fun i hi => ?_, ?_, fun i hi j hj => ?_, fun k hk j hj => ?_, ⟨fun i hi => ?_, fun i hi => ?_, fun i hi => ?_, ?_⟩, fun a ha => ⟨fun i hi => ?_, ?_⟩⟩
  · rw [hg 1 (by omega), hf _ (by omega)]; exact s1 i hi
  · rw [hg 0 (by omega), hf 307 (by omega), hf 301 (by omega), hf 300 (by omega), hf 353 (by omega), hf 352 (by omega), hf 348 (by omega), hf 349 (by omega), hf 350 (by omega), hf 351 (by omega)]; exact k2
  · rw [ec] at hi
    rw [hg _ (by omega), hf _ (by omega)]; exact s3 i hi j hj
  · rw [hg _ (by omega), hf _ (by omega)]; exact s4 k hk j hj
  · rw [e1]
    by_cases h : i = d
    · subst h; rw [up2_s, upd_s]
    · rw [up2_i _ _ _ _ h, upd_n _ _ h]; exact y1 i hi
  · rw [e3] at hi
    rw [e1, hg _ (by omega), hg _ (by omega), hf _ (by omega), hf _ (by omega)]; exact y2 i hi
  · rw [e1, hg _ (by omega), em]; exact y3 i hi
  · rw [e1, hg _ (by omega), y4]; exact sSum_congr 20 (fun j hj => (em j).symm)
  · rw [e4] at ha
    have ro := cO_r f a
    have ha2 : a + 1 ≤ yN f ∧ a + 1 ≤ 4 := by unfold kN at ha; omega
    have hne : cO f a ≠ cY f ∧ ((cO f a) % 5 = 3 ∧ (cY f) % 5 = 3) := by unfold cO cY; omega
    rw [e2 a, hg _ (by omega), hg _ (by omega), hg _ (by omega), hg _ (by omega), hf _ (by omega), hf _ (by omega), hf _ (by omega)]
    exact (so a ha).1 i hi
  · rw [e4] at ha
    have ro := cO_r f a
    have ha2 : a + 1 ≤ yN f ∧ a + 1 ≤ 4 := by unfold kN at ha; omega
    have hne : cO f a ≠ cY f ∧ ((cO f a) % 5 = 3 ∧ (cY f) % 5 = 3) := by unfold cO cY; omega
    rw [e2 a, hg _ (by omega), (so a ha).2]
    refine sSum_congr 20 (fun j hj => ?_)
    unfold okM
    rw [hf _ (by omega)]
theorem Sim_saint {g g1 g2 g3 g4 g5 : GS} {f : Nat → Int32} {c : Nat} {x b e t : Int32} (hS : Sim g f) (hd20 : dN f ≤ 20) (hc : c < 5) (hcN : cN f = c) (e1 : g1 = up2 g (29 + c) 0 x) (e2 : g2 = up2 g1 (29 + c) 1 b) (e3 : g3 = up2 g2 (29 + c) 2 e) (e4 : g4 = up2 g3 (29 + c) 3 t) (e5 : g5 = up2 g4 0 4 (nI (c + 1))) : Sim g5 (rSaint f c x b e t) := by
  have hf : ∀ i, (i < 307 ∨ 328 ≤ i) → rSaint f c x b e t i = f i := fun i hi => by
    unfold rSaint
    rw [upd_n _ _ (by omega), upd_n _ _ (by omega), upd_n _ _ (by omega), upd_n _ _ (by omega), upd_n _ _ (by omega)]
  have h307 : rSaint f c x b e t 307 = nI (c + 1) := upd_s _ _ _
  have eN : cN (rSaint f c x b e t) = c + 1 := by unfold cN; rw [h307, nI_clamp (by omega)]
  have hg : ∀ q, q ≠ 0 → q ≠ 29 + c → g5 q = g q := fun q h0 h1 => by rw [e5, up2_r _ _ _ h0, e4, up2_r _ _ _ h1, e3, up2_r _ _ _ h1, e2, up2_r _ _ _ h1, e1, up2_r _ _ _ h1]
  have hg0 : ∀ i, i ≠ 4 → g5 0 i = g 0 i := fun i h => by rw [e5, up2_i _ _ _ _ h, e4, up2_k _ _ _ _ (by omega), e3, up2_k _ _ _ _ (by omega), e2, up2_k _ _ _ _ (by omega), e1, up2_k _ _ _ _ (by omega)]
  have hS0 := hS
  obtain ⟨s1, ⟨t4, t5, t6, t7, t8, t9, t10, t11, t12⟩, s3, s4, _, _⟩ := hS
  refine Sim_hi hS0 hd20 (fun i hi => hf i (by omega)) (fun q h1 h2 => hg q (by omega) (by omega)) (fun i hi => ?_) ⟨?_, ?_, ?_, ?_, ?_, ?_, ?_, ?_, ?_⟩ (fun i hi j hj => ?_) (fun k hk j hj => ?_)
  · rw [hg 1 (by omega) (by omega), hf _ (by omega)]; exact s1 i hi
  · rw [e5, up2_s, h307]
  · rw [hg0 _ (by omega), hf _ (by omega), t5]
  · rw [hg0 _ (by omega), hf _ (by omega), t6]
  · rw [hg0 _ (by omega), hf _ (by omega), t7]
  · rw [hg0 _ (by omega), hf _ (by omega), t8]
  · rw [hg0 _ (by omega), hf _ (by omega), t9]
  · rw [hg0 _ (by omega), hf _ (by omega), t10]
  · rw [hg0 _ (by omega), hf _ (by omega), t11]
  · rw [hg0 _ (by omega), hf _ (by omega), t12]
  · rw [eN] at hi
    by_cases h : i = c
    · subst h
      unfold rSaint
      rw [upd_n _ _ (by omega)]
      rcases (show j = 0 ∨ j = 1 ∨ j = 2 ∨ j = 3 by omega) with rfl | rfl | rfl | rfl
      · rw [upd_n _ _ (by omega), upd_n _ _ (by omega), upd_n _ _ (by omega), Nat.add_zero, upd_s, e5, up2_k _ _ _ _ (by omega), e4, up2_i _ _ _ _ (by omega), e3, up2_i _ _ _ _ (by omega), e2, up2_i _ _ _ _ (by omega), e1, up2_s]
      · rw [upd_n _ _ (by omega), upd_n _ _ (by omega), upd_s, e5, up2_k _ _ _ _ (by omega), e4, up2_i _ _ _ _ (by omega), e3, up2_i _ _ _ _ (by omega), e2, up2_s]
      · rw [upd_n _ _ (by omega), upd_s, e5, up2_k _ _ _ _ (by omega), e4, up2_i _ _ _ _ (by omega), e3, up2_s]
      · rw [upd_s, e5, up2_k _ _ _ _ (by omega), e4, up2_s]
    · rw [hg _ (by omega) (by omega), show rSaint f c x b e t (308 + 4 * i + j) = f (308 + 4 * i + j) from by
        unfold rSaint
        rw [upd_n _ _ (by omega), upd_n _ _ (by omega), upd_n _ _ (by omega), upd_n _ _ (by omega), upd_n _ _ (by omega)]]
      exact s3 i (by omega) j hj
  · rw [hg _ (by omega) (by omega), hf _ (by omega)]; exact s4 k hk j hj
theorem RV_saint {f : Nat → Int32} {B d : Nat} {b e t : Int32} (hB : B < 2 ^ 31) (hv : RV f B) (hd : d < 20) (hc : cN f < 5) : RV (rSaint f (cN f) (nI d) b e t) B := by
  have hf : ∀ i, (i < 307 ∨ 328 ≤ i) → rSaint f (cN f) (nI d) b e t i = f i := fun i hi => by
    unfold rSaint
    rw [upd_n _ _ (by omega), upd_n _ _ (by omega), upd_n _ _ (by omega), upd_n _ _ (by omega), upd_n _ _ (by omega)]
  obtain ⟨⟨a1, a2⟩, ⟨b1, b2, b3⟩, ⟨c1, c2⟩, ho, ⟨z1, z2, z3⟩, hb⟩ := hv
  refine RV_of (c := cN f + 1) a1 (by rw [hf 300 (by omega)]; exact a2) b1 hB (by rw [hf 301 (by omega)]; exact b2) (by rw [hf 302 (by omega)]; exact b3) c1 (by rw [hf 303 (by omega)]; exact c2) (by rw [hf 306 (by omega)]; exact ho) ⟨by omega, upd_s _ _ _, fun i hi => ?_⟩ (fun k hk => ?_)
  · by_cases h : i = cN f
    · refine ⟨d, hd, ?_⟩
      rw [h]
      unfold rSaint
      rw [upd_n _ _ (by omega), upd_n _ _ (by omega), upd_n _ _ (by omega), upd_n _ _ (by omega), upd_s]
    · obtain ⟨x, hx, ex⟩ := z3 i (by omega)
      refine ⟨x, hx, ?_⟩
      unfold rSaint
      rw [upd_n _ _ (by omega), upd_n _ _ (by omega), upd_n _ _ (by omega), upd_n _ _ (by omega), upd_n _ _ (by omega)]
      exact ex
  · rw [hf _ (by omega), hf _ (by omega)]
    exact hb k hk
/-- a change of one reader -/
theorem Sim_rd {g g' : GS} {f f' : Nat → Int32} {k : Nat} (hS : Sim g f) (hd20 : dN f ≤ 20) (hc5 : cN f ≤ 5) (hk : k < 4) (hf : ∀ i, (i < 328 + 5 * k ∨ 328 + 5 * k + 5 ≤ i) → f' i = f i) (hg : ∀ q, q ≠ 35 + k → g' q = g q) (h : ∀ j, j < 5 → g' (35 + k) j = f' (328 + 5 * k + j)) : Sim g' f' := by
  have hS0 := hS
  obtain ⟨s1, k2, s3, s4, _, _⟩ := hS
  have ec : cN f' = cN f := by unfold cN; rw [hf 307 (by omega)]
  refine Sim_hi hS0 hd20 (fun i hi => hf i (by omega)) (fun q h1 h2 => hg q (by omega)) (fun i hi => ?_) ?_ (fun i hi j hj => ?_) (fun k2 hk2 j hj => ?_)
  · rw [hg 1 (by omega), hf _ (by omega)]; exact s1 i hi
  · rw [hg 0 (by omega), hf 307 (by omega), hf 301 (by omega), hf 300 (by omega), hf 353 (by omega), hf 352 (by omega), hf 348 (by omega), hf 349 (by omega), hf 350 (by omega), hf 351 (by omega)]; exact k2
  · rw [ec] at hi
    rw [hg _ (by omega), hf _ (by omega)]; exact s3 i hi j hj
  · by_cases e : k2 = k
    · subst e; exact h j hj
    · rw [hg _ (by omega), hf _ (by omega)]; exact s4 k2 hk2 j hj
theorem Sim_bet {g g1 g2 g3 : GS} {f : Nat → Int32} {k : Nat} {z n : Int32} (hS : Sim g f) (hd20 : dN f ≤ 20) (hc5 : cN f ≤ 5) (hk : k < 4) (e1 : g1 = up2 g (35 + k) 0 (g (35 + k) 0 - n)) (e2 : g2 = up2 g1 (35 + k) 1 n) (e3 : g3 = up2 g2 (35 + k) 2 z) : Sim g3 (rBet f k z n) := by
  refine Sim_rd hS hd20 hc5 hk (fun i hi => ?_) (fun q hq => ?_) (fun j hj => ?_)
  · unfold rBet
    rw [upd_n _ _ (by omega), upd_n _ _ (by omega), upd_n _ _ (by omega)]
  · rw [e3, up2_r _ _ _ hq, e2, up2_r _ _ _ hq, e1, up2_r _ _ _ hq]
  · have s4 := hS.2.2.2.1 k hk
    unfold rBet
    rw [e3, e2, e1]
    rcases (show j = 0 ∨ j = 1 ∨ j = 2 ∨ j = 3 ∨ j = 4 by omega) with rfl | rfl | rfl | rfl | rfl
    · rw [up2_i _ _ _ _ (by omega), up2_i _ _ _ _ (by omega), up2_s, upd_n _ _ (by omega), upd_n _ _ (by omega), upd_s, s4 0 (by omega)]
    · rw [up2_i _ _ _ _ (by omega), up2_s, upd_n _ _ (by omega), upd_s]
    · rw [up2_s, upd_s]
    · rw [up2_i _ _ _ _ (by omega), up2_i _ _ _ _ (by omega), up2_i _ _ _ _ (by omega), upd_n _ _ (by omega), upd_n _ _ (by omega), upd_n _ _ (by omega)]; exact s4 3 (by omega)
    · rw [up2_i _ _ _ _ (by omega), up2_i _ _ _ _ (by omega), up2_i _ _ _ _ (by omega), upd_n _ _ (by omega), upd_n _ _ (by omega), upd_n _ _ (by omega)]; exact s4 4 (by omega)
theorem rTake_eq (f : Nat → Int32) (k : Nat) : rTake f k = upd (upd (upd f (328 + 5 * k + 0) (f (328 + 5 * k + 0) + f (328 + 5 * k + 1))) (328 + 5 * k + 1) 0) (328 + 5 * k + 2) 0 := rfl
theorem Sim_take {g : GS} {f : Nat → Int32} {k : Nat} (hS : Sim g f) (hd20 : dN f ≤ 20) (hc5 : cN f ≤ 5) (hk : k < 4) : Sim (up2 (up2 (up2 g (35 + k) 0 (g (35 + k) 0 + g (35 + k) 1)) (35 + k) 1 0) (35 + k) 2 0) (rTake f k) := by
  refine Sim_rd hS hd20 hc5 hk (fun i hi => ?_) (fun q hq => ?_) (fun j hj => ?_)
  · unfold rTake
    rw [upd_n _ _ (by omega), upd_n _ _ (by omega), upd_n _ _ (by omega)]
  · rw [up2_r _ _ _ hq, up2_r _ _ _ hq, up2_r _ _ _ hq]
  · have s4 := hS.2.2.2.1 k hk
    unfold rTake
    rcases (show j = 0 ∨ j = 1 ∨ j = 2 ∨ j = 3 ∨ j = 4 by omega) with rfl | rfl | rfl | rfl | rfl
    · rw [up2_i _ _ _ _ (by omega), up2_i _ _ _ _ (by omega), up2_s, upd_n _ _ (by omega), upd_n _ _ (by omega), upd_s, s4 0 (by omega), s4 1 (by omega)]
    · rw [up2_i _ _ _ _ (by omega), up2_s, upd_n _ _ (by omega), upd_s]
    · rw [up2_s, upd_s]
    · rw [up2_i _ _ _ _ (by omega), up2_i _ _ _ _ (by omega), up2_i _ _ _ _ (by omega), upd_n _ _ (by omega), upd_n _ _ (by omega), upd_n _ _ (by omega)]; exact s4 3 (by omega)
    · rw [up2_i _ _ _ _ (by omega), up2_i _ _ _ _ (by omega), up2_i _ _ _ _ (by omega), upd_n _ _ (by omega), upd_n _ _ (by omega), upd_n _ _ (by omega)]; exact s4 4 (by omega)
theorem RV_rd {f f' : Nat → Int32} {B k : Nat} (hB : B < 2 ^ 31) (hv : RV f B) (hk : k < 4) (hf : ∀ i, (i < 328 + 5 * k ∨ 328 + 5 * k + 5 ≤ i) → f' i = f i) (h : ∃ x, x ≤ 1000 ∧ f' (328 + 5 * k + 1) = nI x ∧ (f' (328 + 5 * k + 2) = 0 ∨ f' (328 + 5 * k + 2) = 1)) : RV f' B := by
  obtain ⟨⟨a1, a2⟩, ⟨b1, b2, b3⟩, ⟨c1, c2⟩, ho, hs, hb⟩ := hv
  refine RV_of a1 (by rw [hf 300 (by omega)]; exact a2) b1 hB (by rw [hf 301 (by omega)]; exact b2) (by rw [hf 302 (by omega)]; exact b3) c1 (by rw [hf 303 (by omega)]; exact c2) (by rw [hf 306 (by omega)]; exact ho) (rSn_congr (fun i h1 h2 => hf i (by omega)) hs) (fun k2 hk2 => ?_)
  by_cases e : k2 = k
  · subst e; exact h
  · rw [hf _ (by omega), hf _ (by omega)]; exact hb k2 hk2
theorem RV_bet {f : Nat → Int32} {B k x : Nat} {z : Int32} (hB : B < 2 ^ 31) (hv : RV f B) (hk : k < 4) (hx : x ≤ 1000) (hz : z = 0 ∨ z = 1) : RV (rBet f k z (nI x)) B := by
  refine RV_rd hB hv hk (fun i hi => ?_) ⟨x, hx, ?_, ?_⟩
  · unfold rBet
    rw [upd_n _ _ (by omega), upd_n _ _ (by omega), upd_n _ _ (by omega)]
  · unfold rBet
    rw [upd_n _ _ (by omega), upd_s]
  · unfold rBet
    rw [upd_s]; exact hz
theorem RV_take {f : Nat → Int32} {B k : Nat} (hB : B < 2 ^ 31) (hv : RV f B) (hk : k < 4) : RV (rTake f k) B := by
  refine RV_rd hB hv hk (fun i hi => ?_) ⟨0, by omega, ?_, Or.inl ?_⟩
  · unfold rTake
    rw [upd_n _ _ (by omega), upd_n _ _ (by omega), upd_n _ _ (by omega)]
  · unfold rTake
    rw [upd_n _ _ (by omega), upd_s]; rfl
  · unfold rTake
    rw [upd_s]
