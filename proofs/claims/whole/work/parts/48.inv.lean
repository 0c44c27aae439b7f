theorem RC_lo {G G' : GS} {A : AT} {B : Nat} (h : ∀ q, q < 239 → G' q = G q) (hV : AV A B) (hR : RC G A) : RC G' A := by
  obtain ⟨h1, h2, h3, h4, h5, h6, h7, h8⟩ := hR
  have e0 : G' 0 = G 0 := h 0 (by omega)
  have e3 : G' 3 = G 3 := h 3 (by omega)
  have hb := isB_lt h1.1.2.2.2.2
  refine ⟨?_, ?_, ?_, fun i hi => ?_, ?_, fun hk => ?_, ⟨?_, fun i hi => ?_⟩, fun b hb2 k hk => ?_⟩
  · show SB (stb (G' 3 0)) (stb (G' 3 1)) (stb (G' 3 2)) (stb (G' 3 3)) (stb (G' 0 4))
    rw [e3, e0]; exact h1
  · rw [e0]; exact Sim_blk (fun q u v => h q (by omega)) hV.2.1 h2
  · rw [e0]; exact h3
  · have hi4 : i < 4 := by have := hV.1; omega
    have hs := isB_lt (SB_i h1 hi4).1
    rw [e3]; exact Sim_blk (fun q u v => h q (by omega)) (hV.2.2.1 i hi) (h4 i hi)
  · rw [e0]; exact h5
  · exact Sim_blk (fun q u v => h q (by omega)) (hV.2.2.2.2.1 hk) (h6 hk)
  · rw [h 1 (by omega)]; exact h7.1
  · rw [h 2 (by omega)]; exact h7.2 i hi
  · have := isB_lt hb2
    rw [h _ (by omega)]; exact h8 b hb2 k hk
theorem aOf_hi {G G' : GS} (h : ∀ q, 239 ≤ q → G' q = G q) : aOf G' = aOf G := by
  show (G' 240, (G' 239 2).toNatClampNeg, (fun i j => G' 241 (354 * i + j)), G' 239 4, G' 242, (G' 239 6).toNatClampNeg, G' 243) = _
  rw [h 240 (by omega), h 239 (by omega), h 241 (by omega), h 242 (by omega), h 243 (by omega)]
theorem MR_hi {G G' : GS} (h : ∀ q, 239 ≤ q → G' q = G q) (hR : MR G) : MR G' := by
  unfold MR
  rw [aOf_hi h, h 239 (by omega)]
  exact hR
/-- what holds between two calls of the law -/
def INV (G : GS) (B : Nat) : Prop := RC G (aOf G) ∧ AW2 (aOf G) B ∧ MR G
theorem inv_step {G G1 G2 : GS} {A' : AT} {B : Nat} (hB : B + 7000 < 2 ^ 30) (hV : AW2 A' (B + 7000)) (h1 : PCq G G1 A') (h2 : PMq G1 G2 A') : INV G2 (B + 7000) :=
  ⟨RC_aEq h2.1 hV.1 (RC_lo h2.2.2 hV.1 h1.1), ⟨AV_aEq (by omega) h2.1 hV.1, AZ_aEq h2.1 hV.2⟩, h2.2.1⟩
theorem inv_C {G G1 : GS} {A : AT} {B : Nat} (hI : INV G B) (h1 : PCq G G1 A) : MR G1 ∧ aOf G1 = aOf G ∧ AV (aOf G1) B := by
  have e := aOf_hi h1.2
  refine ⟨MR_hi h1.2 hI.2.2, e, ?_⟩
  rw [e]
  exact hI.2.1.1
theorem INV_B {G : GS} {B B' : Nat} (h : B ≤ B') (hI : INV G B) : INV G B' := ⟨hI.1, ⟨AV_mono h hI.2.1.1, hI.2.1.2⟩, hI.2.2⟩
