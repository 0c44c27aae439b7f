/-- a new state, and a new row -/
def gs0 (c i : Nat) : Int32 := if c = 1 then (if i = 0 then 2 else if i = 1 then 50 else if i = 3 then 2 else 0) else if 35 ≤ c then (if i = 0 then 100 else 0) else 0
def f0 (i : Nat) : Int32 := if i = 303 then 2 else if i = 304 then 50 else if i = 306 then 2 else if 328 ≤ i ∧ i < 348 ∧ (i - 328) % 5 = 0 then 100 else 0
theorem f0_z {i : Nat} (h1 : i ≠ 303) (h2 : i ≠ 304) (h3 : i ≠ 306) (h4 : ¬ (328 ≤ i ∧ i < 348 ∧ (i - 328) % 5 = 0)) : f0 i = 0 := by
  unfold f0
  rw [if_neg h1, if_neg h2, if_neg h3, if_neg h4]
theorem gs0_z {c i : Nat} (h1 : c ≠ 1) (h2 : c < 35) : gs0 c i = 0 := by
  unfold gs0
  rw [if_neg h1, if_neg (by omega)]
theorem RV_0 : RV f0 0 := by
  refine RV_of (d := 0) (y := 0) (r := 2) (c := 0) (by omega) (f0_z (by omega) (by omega) (by omega) (by omega)) (Nat.le_refl _) (by omega) (f0_z (by omega) (by omega) (by omega) (by omega)) (f0_z (by omega) (by omega) (by omega) (by omega)) (by omega) rfl ⟨2, by omega, by omega, rfl⟩ ⟨by omega, f0_z (by omega) (by omega) (by omega) (by omega), fun i hi => by omega⟩ (fun k hk => ⟨0, by omega, ?_, Or.inl ?_⟩)
  · exact f0_z (by omega) (by omega) (by omega) (by omega)
  · exact f0_z (by omega) (by omega) (by omega) (by omega)
theorem BZ_0 : BZ f0 := fun k hk _ => f0_z (by omega) (by omega) (by omega) (by omega)
theorem Sim_0 : Sim gs0 f0 := by
  have e0 : ∀ i, i < 303 → f0 i = 0 := fun i hi => f0_z (by omega) (by omega) (by omega) (by omega)
  have eY : yN f0 = 0 := by unfold yN; rw [e0 301 (by omega)]; rfl
  have eD : dN f0 = 0 := by unfold dN; rw [e0 300 (by omega)]; rfl
  have eC : cN f0 = 0 := by unfold cN; rw [f0_z (by omega) (by omega) (by omega) (by omega)]; rfl
  have eK : kN f0 = 0 := by unfold kN; rw [eY]; rfl
  have ry := cY_r f0
  have ez : ∀ j, nowM f0 j = 0 := fun j => if_neg (by rw [eD]; omega)
  refine ⟨fun i hi => ?_, ⟨?_, ?_, ?_, ?_, ?_, ?_, ?_, ?_, ?_⟩, fun i hi j hj => ?_, fun k hk j hj => ?_, ⟨fun i hi => ?_, fun i hi => ?_, fun i hi => ?_, ?_⟩, fun a ha => ?_⟩
  · rcases (show i = 0 ∨ i = 1 ∨ i = 2 ∨ i = 3 by omega) with rfl | rfl | rfl | rfl <;> rfl
  · rfl
  · rfl
  · rfl
  · rfl
  · rfl
  · rfl
  · rfl
  · rfl
  · rfl
  · rw [eC] at hi; omega
  · rcases (show k = 0 ∨ k = 1 ∨ k = 2 ∨ k = 3 by omega) with rfl | rfl | rfl | rfl <;> rcases (show j = 0 ∨ j = 1 ∨ j = 2 ∨ j = 3 ∨ j = 4 by omega) with rfl | rfl | rfl | rfl | rfl <;> rfl
  · rw [gs0_z (by omega) (by omega), e0 i (by omega)]
  · rw [eD] at hi; omega
  · rw [gs0_z (by omega) (by omega), ez]
  · rw [gs0_z (by omega) (by omega), sSum_0 ez]
  · rw [eK] at ha; omega
