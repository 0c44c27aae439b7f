/-- a new state, and a new row -/
def gs0 (c i : Nat) : Int32 := if c = 1 then (if i = 0 then 2 else if i = 1 then 50 else if i = 3 then 2 else 0) else if 35 ≤ c then (if i = 0 then 100 else 0) else 0
def f0 (i : Nat) : Int32 := if i = 303 then 2 else if i = 304 then 50 else if i = 306 then 2 else if 328 ≤ i ∧ i < 348 ∧ (i - 328) % 5 = 0 then 100 else 0
theorem f0_z {i : Nat} (h1 : i ≠ 303) (h2 : i ≠ 304) (h3 : i ≠ 306) (h4 : ¬ (328 ≤ i ∧ i < 348 ∧ (i - 328) % 5 = 0)) : f0 i = 0 := by
  unfold f0
  rw [if_neg h1, if_neg h2, if_neg h3, if_neg h4]
theorem gs0_z {c i : Nat} (h1 : c ≠ 1) (h2 : c < 35) : gs0 c i = 0 := by
  unfold gs0
  rw [if_neg h1, if_neg (by omega)]
theorem RV_0 : RV f0 0 := by
  refine RV_of (d := 0) (y := 0) (r := 2) (c := 0) (by omega) (f0_z (by omega) (by omega) (by omega) (by omega)) (Nat.le_refl _) (by omega) (f0_z (by omega) (by omega) (by omega) (by omega)) (f0_z (by omega) (by omega) (by omega) (by omega)) (by omega) rfl ⟨2, by omega, by omega, rfl⟩ ⟨by omega, f0_z (by omega) (by omega) (by omega) (by omega), fun i hi => by omega⟩ (fun k hk => ⟨0, by omega, ?_, Or.inl ?_⟩)
  · exact f0_z (by omega) (by omega) (by omega) (by omega)
  · exact f0_z (by omega) (by omega) (by omega) (by omega)
theorem BZ_0 : BZ f0 := fun k hk _ => f0_z (by omega) (by omega) (by omega) (by omega)
theorem Sim_0 : Sim gs0 f0 := by
  have e0 : ∀ i, i < 303 → f0 i = 0 := fun i hi => f0_z (by omega) (by omega) (by omega) (by omega)
  have eY : yN f0 = 0 := by unfold yN; rw [e0 301 (by omega)]; rfl
  have eD : dN f0 = 0 := by unfold dN; rw [e0 300 (by omega)]; rfl
  have eC : cN f0 = 0 := by unfold cN; rw [f0_z (by omega) (by omega) (by omega) (by omega)]; rfl
  have eK : kN f0 = 0 := by unfold kN; rw [eY]; rfl
  have ry := cY_r f0
  have ez : ∀ j, nowM f0 j = 0 := fun j => if_neg (by rw [eD]; omega)
  refine ⟨fun i hi => ?_, ⟨?_, ?_, ?_, ?_, ?_, ?_, ?_, ?_, ?_⟩, fun i hi j hj => ?_, fun k hk j hj => ?_, ⟨fun i hi => ?_, fun i hi => ?_, fun i hi => ?_, ?_⟩, fun a ha => ?_⟩
  · rcases (show i = 0 ∨ i = 1 ∨ i = 2 ∨ i = 3 by omega) with rfl | rfl | rfl | rfl <;> rfl
  · rfl
  · rfl
  · rfl
  · rfl
  · rfl
  · rfl
  · rfl
  · rfl
  · rfl
  · rw [eC] at hi; omega
  · rcases (show k = 0 ∨ k = 1 ∨ k = 2 ∨ k = 3 by omega) with rfl | rfl | rfl | rfl <;> rcases (show j = 0 ∨ j = 1 ∨ j = 2 ∨ j = 3 ∨ j = 4 by omega) with rfl | rfl | rfl | rfl | rfl <;> rfl
  · rw [gs0_z (by omega) (by omega), e0 i (by omega)]
  · rw [eD] at hi; omega
  · rw [gs0_z (by omega) (by omega), ez]
  · rw [gs0_z (by omega) (by omega), sSum_0 ez]
  · rw [eK] at ha; omega
theorem INV_fresh {G : GS} (a4 : G 0 4 = 5) (a5 : G 0 5 = 0) (a6 : G 0 6 = 0) (hh : ∀ i, i < 4 → G 3 i = nI i) (h11 : G 1 1 = 0) (hs : ∀ c i, c < 39 → relS c i → G (200 + c) i = gs0 c i) (ho : ∀ j, j < 6 → ∀ k, k < 4 → G (5 + 39 * j + (35 + k)) 2 = 0) (m2 : G 239 2 = 0) (m4 : G 239 4 = 0) (m6 : G 239 6 = 0) (hf : ∀ i, i < 354 → G 240 i = f0 i) : INV G 0 := by
  have hV0 : RV (G 240) 0 := RV_congr (by omega) hf RV_0
  have eN : aN (aOf G) = 0 := by show (G 239 2).toNatClampNeg = 0; rw [m2]; rfl
  have eL : aL (aOf G) = 0 := by show (G 239 6).toNatClampNeg = 0; rw [m6]; rfl
  have eK : aK (aOf G) = 0 := m4
  have sn : ∀ i, i < 4 → stb (G 3 i) = 5 + 39 * i := fun i hi => by unfold stb; rw [hh i hi, nI_clamp (by omega)]
  have s4 : stb (G 0 4) = 200 := by rw [a4]; rfl
  refine ⟨⟨?_, ?_, ?_, fun i hi => ?_, ?_, fun hk => ?_, ⟨?_, fun i hi => ?_⟩, fun b hb k hk => ?_⟩, ⟨⟨by omega, hV0, fun i hi => by omega, Or.inl eK, fun hk => ?_, by omega⟩, ⟨BZ_row hf BZ_0, fun i hi => by omega, fun hk => ?_⟩⟩, ?_⟩
  · show SB (stb (G 3 0)) (stb (G 3 1)) (stb (G 3 2)) (stb (G 3 3)) (stb (G 0 4))
    rw [sn 0 (by omega), sn 1 (by omega), sn 2 (by omega), sn 3 (by omega), s4]
    exact ⟨⟨⟨0, by omega, rfl⟩, ⟨1, by omega, rfl⟩, ⟨2, by omega, rfl⟩, ⟨3, by omega, rfl⟩, ⟨5, by omega, rfl⟩⟩, by omega, by omega⟩
  · rw [s4]
    exact Sim_row hf RV_0 (Sim_congr (fun c i hc hr => hs c i hc hr) RV_0.2.2.2.2.1.1 (Nat.le_of_lt RV_0.1.1) Sim_0)
  · rw [eN]; exact a5
  · omega
  · rw [eK]; exact a6
  · rw [eK] at hk; exact absurd hk (by decide)
  · rw [eL]; exact h11
  · omega
  · obtain ⟨j, hj, rfl⟩ := hb
    exact Or.inl (ho j hj k hk)
  · rw [eK] at hk; exact absurd hk (by decide)
  · rw [eK] at hk; exact absurd hk (by decide)
  · exact ⟨by rw [eN]; exact m2, by rw [eL]; exact m6⟩
