set_option maxHeartbeats 4000000 in
set_option maxRecDepth 100000 in
theorem law_world {s : State} {b : Nat} (hts : ∀ wd ∈ lw_tbl, wd.before #[Value.ref b] s = true) : ∃ w : WT, xK w s ∧ ∀ k, w.2.2 k = s.heap.size + ordK k := by
  have hAW : ∀ wd ∈ AW, wd.before #[Value.ref b] s = true := fun wd h => hts wd (aw_tbl h)
  obtain ⟨c0, i0, k0⟩ := u_known (C := RX0) (T := TX0) (N := 6) (n := 6) hAW uw_X0 (hAW _ ib_X0)
  obtain ⟨c1, i1, k1⟩ := u_known (C := RX1) (T := TX1) (N := 5) (n := 5) hAW uw_X1 (hAW _ ib_X1)
  obtain ⟨c2, i2, k2⟩ := u_known (C := RX2) (T := TX2) (N := 4) (n := 4) hAW uw_X2 (hAW _ ib_X2)
  obtain ⟨c3, i3, k3⟩ := u_known (C := RX3) (T := TX3) (N := 13) (n := 13) hAW uw_X3 (hAW _ ib_X3)
  obtain ⟨c4, i4, k4⟩ := u_known (C := RX4) (T := TX4) (N := 5) (n := 5) hAW uw_X4 (hAW _ ib_X4)
  obtain ⟨c5, i5, k5⟩ := u_known (C := RX5) (T := TX5) (N := 7) (n := 7) hAW uw_X5 (hAW _ ib_X5)
  obtain ⟨a0, x0, y0, u0, v0, w0⟩ := Cond.arrayClass_spec (hAW _ ar_int)
  obtain ⟨a1, x1, y1, u1, v1, w1⟩ := Cond.arrayClass_spec (hAW _ ar_char)
  have h2 : (Cond.arrayOver (.object RX4)).before #[Value.ref b] s = true := hts _ (List.mem_of_getElem? (i := 68) (by decide +kernel))
  obtain ⟨y2, a2, x2, u2, -, v2, w2, z2⟩ := Cond.arrayOver_spec h2
  have h3 : (Cond.arrayOver (.object RX2)).before #[Value.ref b] s = true := hts _ (List.mem_of_getElem? (i := 101) (by decide +kernel))
  obtain ⟨y3, a3, x3, u3, -, v3, w3, z3⟩ := Cond.arrayOver_spec h3
  have h4 : (Cond.arrayOver (.object RX1)).before #[Value.ref b] s = true := hts _ (List.mem_of_getElem? (i := 128) (by decide +kernel))
  obtain ⟨y4, a4, x4, u4, -, v4, w4, z4⟩ := Cond.arrayOver_spec h4
  have h5 : (Cond.arrayOver (.object RX3)).before #[Value.ref b] s = true := hts _ (List.mem_of_getElem? (i := 56) (by decide +kernel))
  obtain ⟨y5, a5, x5, u5, -, v5, w5, z5⟩ := Cond.arrayOver_spec h5
  refine ⟨((fun k => if k = 0 then c0 else if k = 1 then c1 else if k = 2 then c2 else if k = 3 then c3 else if k = 4 then c4 else c5, fun k => if k = 0 then i0 else if k = 1 then i1 else if k = 2 then i2 else if k = 3 then i3 else if k = 4 then i4 else i5), (fun k => if k = 0 then a0 else if k = 1 then a1 else if k = 2 then a2 else if k = 3 then a3 else if k = 4 then a4 else a5), fun k => s.heap.size + ordK k), ⟨fun k q hq => ?_, fun k q hq => ?_⟩, fun k => rfl⟩
  · match k, hq with
    | 0, hq => cases hq; exact k0
    | 1, hq => cases hq; exact k1
    | 2, hq => cases hq; exact k2
    | 3, hq => cases hq; exact k3
    | 4, hq => cases hq; exact k4
    | 5, hq => cases hq; exact k5
    | k + 6, hq => simp [vwCl] at hq
  · match k, hq with
    | 0, hq => cases hq; exact ⟨fun n z => ⟨fun _ h => (by cases h), x0, v0, y0, w0⟩, u0⟩
    | 1, hq => cases hq; exact ⟨fun n z => ⟨fun _ h => (by cases h), x1, v1, y1, w1⟩, u1⟩
    | 2, hq => cases hq; exact ⟨fun n z => ⟨fun _ h => (by cases h), x2, v2, y2, w2⟩, x2, y2, v2, w2, u2, z2⟩
    | 3, hq => cases hq; exact ⟨fun n z => ⟨fun _ h => (by cases h), x3, v3, y3, w3⟩, x3, y3, v3, w3, u3, z3⟩
    | 4, hq => cases hq; exact ⟨fun n z => ⟨fun _ h => (by cases h), x4, v4, y4, w4⟩, x4, y4, v4, w4, u4, z4⟩
    | 5, hq => cases hq; exact ⟨fun n z => ⟨fun _ h => (by cases h), x5, v5, y5, w5⟩, x5, y5, v5, w5, u5, z5⟩
    | k + 6, hq => simp [tysW] at hq
theorem law_xI {s : State} {w : WT} (had : ∀ k, w.2.2 k = s.heap.size + ordK k) : xI w := by
  intro i j hi hj h
  rw [had, had] at h
  have e : ordK i = ordK j := by omega
  rw [← (inv_ord i hi).1, ← (inv_ord j hj).1, e]
theorem law_lo {s : State} {w : WT} (had : ∀ k, w.2.2 k = s.heap.size + ordK k) : ∀ a, xA w a → s.heap.size ≤ a := by
  intro a h
  obtain ⟨k, _, rfl⟩ := h
  rw [had]
  exact Nat.le_add_right _ _
theorem law_xN {s : State} {b : Nat} (hts : ∀ wd ∈ lw_tbl, wd.before #[Value.ref b] s = true) : xN s :=
  ⟨va_Nw.of rfl (hts _ (List.mem_of_getElem? (i := 281) (by decide +kernel))), va_Nw.of rfl (hts _ (List.mem_of_getElem? (i := 293) (by decide +kernel))), va_Nw.of rfl (hts _ (List.mem_of_getElem? (i := 330) (by decide +kernel))), va_Nw.of rfl (hts _ (List.mem_of_getElem? (i := 491) (by decide +kernel)))⟩
set_option maxHeartbeats 4000000 in
set_option maxRecDepth 100000 in
theorem law_tabFIRST {s : State} {b : Nat} {A : Nat → Prop} (hA : ∀ a : Nat, a < s.heap.size → ¬ A a) (hts : ∀ wd ∈ lw_tbl, wd.before #[Value.ref b] s = true) (hgv : (Jvm.Cond.and given_1 narrow_1).before #[Value.ref b] s = true) : ∃ z : Nat, va_Z RX5 "FIRST_SETTINGS" "[I" (.ref z) A s s.heap ∧ va_T .int z 4 (fun j => .int (gs0 1 j)) A s s.heap := by
  have hs := flat_of_before _ hgv
  obtain ⟨z, h1, h2⟩ := va_Tof (args := #[Value.ref b]) (tm := Term.static RX5 "FIRST_SETTINGS" "[I") (ty := .int) (N := 4) (f := fun j => .int (gs0 1 j)) (by decide) (hs _ (by decide +kernel)) (va_eqt (z := 4) (hs _ (by decide +kernel))) (fun j hj => by
    rcases (show j = 0 ∨ j = 1 ∨ j = 2 ∨ j = 3 by omega) with rfl | rfl | rfl | rfl
    · exact va_eqt (z := 2) (hs _ (by decide +kernel))
    · exact va_eqt (z := 50) (hs _ (by decide +kernel))
    · exact va_eqt (z := 0) (hs _ (by decide +kernel))
    · exact va_eqt (z := 2) (hs _ (by decide +kernel))) hA
  exact ⟨z, va_Zof (hts _ (List.mem_of_getElem? (i := 63) (by decide +kernel))) (hts _ (aw_tbl in_X5)) h1 hA, h2⟩
set_option maxHeartbeats 4000000 in
set_option maxRecDepth 100000 in
theorem law_tabLOWEST {s : State} {b : Nat} {A : Nat → Prop} (hA : ∀ a : Nat, a < s.heap.size → ¬ A a) (hts : ∀ wd ∈ lw_tbl, wd.before #[Value.ref b] s = true) (hgv : (Jvm.Cond.and given_1 narrow_1).before #[Value.ref b] s = true) : ∃ z : Nat, va_Z RX5 "LOWEST_SETTINGS" "[I" (.ref z) A s s.heap ∧ va_T .int z 4 (fun j => .int (lowV j)) A s s.heap := by
  have hs := flat_of_before _ hgv
  obtain ⟨z, h1, h2⟩ := va_Tof (args := #[Value.ref b]) (tm := Term.static RX5 "LOWEST_SETTINGS" "[I") (ty := .int) (N := 4) (f := fun j => .int (lowV j)) (by decide) (hs _ (by decide +kernel)) (va_eqt (z := 4) (hs _ (by decide +kernel))) (fun j hj => by
    rcases (show j = 0 ∨ j = 1 ∨ j = 2 ∨ j = 3 by omega) with rfl | rfl | rfl | rfl
    · exact va_eqt (z := 0) (hs _ (by decide +kernel))
    · exact va_eqt (z := 0) (hs _ (by decide +kernel))
    · exact va_eqt (z := (-20)) (hs _ (by decide +kernel))
    · exact va_eqt (z := 1) (hs _ (by decide +kernel))) hA
  exact ⟨z, va_Zof (hts _ (List.mem_of_getElem? (i := 386) (by decide +kernel))) (hts _ (aw_tbl in_X5)) h1 hA, h2⟩
set_option maxHeartbeats 4000000 in
set_option maxRecDepth 100000 in
theorem law_tabHIGHEST {s : State} {b : Nat} {A : Nat → Prop} (hA : ∀ a : Nat, a < s.heap.size → ¬ A a) (hts : ∀ wd ∈ lw_tbl, wd.before #[Value.ref b] s = true) (hgv : (Jvm.Cond.and given_1 narrow_1).before #[Value.ref b] s = true) : ∃ z : Nat, va_Z RX5 "HIGHEST_SETTINGS" "[I" (.ref z) A s s.heap ∧ va_T .int z 4 (fun j => .int (highV j)) A s s.heap := by
  have hs := flat_of_before _ hgv
  obtain ⟨z, h1, h2⟩ := va_Tof (args := #[Value.ref b]) (tm := Term.static RX5 "HIGHEST_SETTINGS" "[I") (ty := .int) (N := 4) (f := fun j => .int (highV j)) (by decide) (hs _ (by decide +kernel)) (va_eqt (z := 4) (hs _ (by decide +kernel))) (fun j hj => by
    rcases (show j = 0 ∨ j = 1 ∨ j = 2 ∨ j = 3 by omega) with rfl | rfl | rfl | rfl
    · exact va_eqt (z := 9) (hs _ (by decide +kernel))
    · exact va_eqt (z := 100) (hs _ (by decide +kernel))
    · exact va_eqt (z := 20) (hs _ (by decide +kernel))
    · exact va_eqt (z := 9) (hs _ (by decide +kernel))) hA
  exact ⟨z, va_Zof (hts _ (List.mem_of_getElem? (i := 388) (by decide +kernel))) (hts _ (aw_tbl in_X5)) h1 hA, h2⟩
theorem law_yZ {s : State} {b : Nat} (hts : ∀ wd ∈ lw_tbl, wd.before #[Value.ref b] s = true) (hgv : (Jvm.Cond.and given_1 narrow_1).before #[Value.ref b] s = true) : yZ s.heap.size s := by
  obtain ⟨z, h1, h2⟩ := law_tabFIRST (A := yA s.heap.size) (fun a h => Nat.not_le.mpr h) hts hgv
  exact ⟨va_AO.of (hts _ (List.mem_of_getElem? (i := 68) (by decide +kernel))), va_AO.of (hts _ (List.mem_of_getElem? (i := 101) (by decide +kernel))), va_AO.of (hts _ (List.mem_of_getElem? (i := 128) (by decide +kernel))), va_AO.of (hts _ (List.mem_of_getElem? (i := 56) (by decide +kernel))), va_Nw.of rfl (hts _ (List.mem_of_getElem? (i := 103) (by decide +kernel))), va_Nw.of rfl (hts _ (List.mem_of_getElem? (i := 130) (by decide +kernel))), va_Nw.of rfl (hts _ (List.mem_of_getElem? (i := 62) (by decide +kernel))), z, h1, h2⟩
theorem law_xZ {s : State} {b : Nat} {w : WT} (hlo : ∀ a, xA w a → s.heap.size ≤ a) (hts : ∀ wd ∈ lw_tbl, wd.before #[Value.ref b] s = true) (hgv : (Jvm.Cond.and given_1 narrow_1).before #[Value.ref b] s = true) : xZ w s s.heap := by
  have hA : ∀ a : Nat, a < s.heap.size → ¬ xA w a := fun a h z => absurd (hlo a z) (Nat.not_le.mpr h)
  obtain ⟨z1, h1, h2⟩ := law_tabLOWEST (A := xA w) hA hts hgv
  obtain ⟨z2, h3, h4⟩ := law_tabHIGHEST (A := xA w) hA hts hgv
  exact ⟨z1, z2, h1, h2, h3, h4⟩
