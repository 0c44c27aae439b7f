theorem RC_lo {G G' : GS} {A : AT} {B : Nat} (h : ∀ q, q < 239 → G' q = G q) (hV : AV A B) (hR : RC G A) : RC G' A := by
  obtain ⟨h1, h2, h3, h4, h5, h6, h7, h8⟩ := hR
  have e0 : G' 0 = G 0 := h 0 (by omega)
  have e3 : G' 3 = G 3 := h 3 (by omega)
  have hb := isB_lt h1.1.2.2.2.2
  refine ⟨?_, ?_, ?_, fun i hi => ?_, ?_, fun hk => ?_, ⟨?_, fun i hi => ?_⟩, fun b hb2 k hk => ?_⟩
  · show SB (stb (G' 3 0)) (stb (G' 3 1)) (stb (G' 3 2)) (stb (G' 3 3)) (stb (G' 0 4))
    rw [e3, e0]; exact h1
  · rw [e0]; exact Sim_blk (fun q u v => h q (by omega)) hV.2.1 h2
  · rw [e0]; exact h3
  · have hi4 : i < 4 := by have := hV.1; omega
    have hs := isB_lt (SB_i h1 hi4).1
    rw [e3]; exact Sim_blk (fun q u v => h q (by omega)) (hV.2.2.1 i hi) (h4 i hi)
  · rw [e0]; exact h5
  · exact Sim_blk (fun q u v => h q (by omega)) (hV.2.2.2.2.1 hk) (h6 hk)
  · rw [h 1 (by omega)]; exact h7.1
  · rw [h 2 (by omega)]; exact h7.2 i hi
  · have := isB_lt hb2
    rw [h _ (by omega)]; exact h8 b hb2 k hk
