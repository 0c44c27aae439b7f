/-! WORLDS THAT GROW: m cells from n0 on -/
def updE (E : Nat → va_E) (a : Nat) (x : va_E) : Nat → va_E := fun q => if q = a then x else E q
def wlE (n0 : Nat) (E : Nat → va_E) (m : Nat) : va_W := (List.range m).map (fun a => (n0 + a, E a))
theorem wlE_get (n0 : Nat) (E : Nat → va_E) {m a : Nat} (h : a < m) : (wlE n0 E m)[a]? = some (n0 + a, E a) := by
  unfold wlE
  rw [List.getElem?_map, List.getElem?_range h]
  rfl
theorem wlE_some {n0 : Nat} {E : Nat → va_E} {m k : Nat} {q : Nat × va_E} (h : (wlE n0 E m)[k]? = some q) : k < m ∧ q = (n0 + k, E k) := by
  have hk : k < m := by
    have := (List.getElem?_eq_some_iff.mp h).1
    unfold wlE at this
    rw [List.length_map, List.length_range] at this
    exact this
  rw [wlE_get n0 E hk] at h
  exact ⟨hk, (Option.some.inj h).symm⟩
def yA (n0 : Nat) : Nat → Prop := fun q => n0 ≤ q
theorem wlE_D (n0 : Nat) (E : Nat → va_E) (m : Nat) : va_D (yA n0) (wlE n0 E m) := by
  refine ⟨fun i j p q h1 h2 h => ?_, fun k q h => ?_⟩
  · obtain ⟨_, rfl⟩ := wlE_some h1
    obtain ⟨_, rfl⟩ := wlE_some h2
    have h9 : n0 + i = n0 + j := h
    omega
  · obtain ⟨_, rfl⟩ := wlE_some h
    exact Nat.le_add_right _ _
theorem wlE_set (n0 : Nat) (E : Nat → va_E) {m a : Nat} (h : a < m) (x : va_E) : (wlE n0 E m).set a (n0 + a, x) = wlE n0 (updE E a x) m := by
  have hlen : ∀ E', (wlE n0 E' m).length = m := fun E' => by unfold wlE; rw [List.length_map, List.length_range]
  apply List.ext_getElem?
  intro k
  by_cases hk : k < m
  · rw [wlE_get n0 _ hk]
    by_cases e : k = a
    · subst e
      rw [List.getElem?_set_self (by rw [hlen]; exact hk)]
      unfold updE
      rw [if_pos rfl]
    · rw [List.getElem?_set_ne (fun z => e z.symm), wlE_get n0 _ hk]
      unfold updE
      rw [if_neg e]
  · rw [List.getElem?_eq_none (by rw [List.length_set, hlen]; omega), List.getElem?_eq_none (by rw [hlen]; omega)]
theorem wlE_push {D : va_G} {cl : List vw_C} {n0 m : Nat} {E : Nat → va_E} {x : va_E} {H H1 : Heap} (hP : va_P D cl (wlE n0 E m) H) (hz : H.size = n0 + m) (ho : ∀ q, q < H.size → H1[q]? = H[q]?) (hx : va_at D cl (n0 + m, x) H1) : va_P D cl (wlE n0 (updE E m x) (m + 1)) H1 := by
  intro k q hk
  obtain ⟨h1, rfl⟩ := wlE_some hk
  unfold updE
  by_cases e : k = m
  · subst e
    rw [if_pos rfl]
    exact hx
  · rw [if_neg e]
    exact (hP k _ (wlE_get n0 E (by omega))).kept (ho (n0 + k) (by omega))
def YY (w : WT) (n0 : Nat) (K : KT) (nL : Nat) (E : Nat → va_E) (m ce sl pc : Nat) (L : List (Nat × Value)) (st : List Value) : Prop :=
  ∀ (H : Heap) (locs : List Loc) (ls : Array Slot), va_P w.1 vwCl (wlE n0 E m) H → H.size = n0 + m → va_S (yA n0) (ks K).heap H locs → lv_has ls nL L → W (kp K) (kl K) (ke K) (kR K) (ks K) (km K) (ka K) (kb K) (kme K) (kco K) H locs ce sl (kQ K) (F0 (km K) pc ls st)
def CY (w : WT) (n0 : Nat) (K : KT) (cc : ByteArray) (nL : Nat) (own : String) (rm : Room) : Prop :=
  (kp K).tables.exec = Jvm.exec ∧ (kco K).code = cc ∧ (kco K).maxLocals = nL ∧ (ks K).vm.findClass own = some (km K).cls ∧ (∀ wd ∈ AW, wd.before (ka K) (ks K) = true) ∧ xK w (ks K) ∧ n0 ≤ (ks K).heap.size ∧ kR K = rm
theorem y_new {w : WT} {n0 : Nat} {K : KT} {cc : ByteArray} {nL : Nat} {own : String} {rm : Room} {E : Nat → va_E} {m ce sl pc : Nat} {L : List (Nat × Value)} {st : List Value} (hc : CY w n0 K cc nL own rm) {C : String} {T : u_T} {N ci index : Nat} (hin : ∀ wd ∈ u_ws C T N, wd ∈ AW) (ty : Nat → FieldType) (hty : ∀ k, k < N → parseFieldDescriptor (T k).2.2.1 = some (ty k)) (hcl : Cond.classLink own index C ∈ AW) (hinst : Cond.instantiable C N ∈ AW) (hini : Cond.initialized C ∈ AW) (hc9 : vwCl[ci]? = some (C, T, N)) {fs : List Value} (hfs : ∀ j, j < N → defaultValue (ty j) = vp_V fs j) (hcells : ce + 1 ≤ rm.cells) (hslots : sl + N ≤ rm.slots) (hd : decode cc pc = .ok (.new index, 3))
    (kk : YY w n0 K nL (updE E m (.inr (ci, fs))) (m + 1) (ce + 1) (sl + N) (pc + 3) L (.ref (n0 + m) :: st)) : YY w n0 K nL E m ce sl pc L st := by
  intro H locs ls hP hz hS hl
  obtain ⟨q1, q2, q3, q4, q5, q6, q7, q8⟩ := hc
  have hKn := q6.1 ci _ hc9
  refine W.newcK q1 q2 q4 (q5 _ hcl) (q5 _ hinst) (q5 _ hini) rfl hd (by rw [q8]; exact hcells) (by rw [q8]; exact hslots) hKn.2.1 hz fun H1 kC hkC e1 z1 o1 => ?_
  refine kk H1 locs ls (wlE_push hP hz (by rw [hz]; exact o1) ?_) (by rw [z1]; rfl) ⟨Nat.le_trans hS.1 (by omega), fun x h1 h2 => (o1 x (by have := hS.1; omega)).trans (hS.2.1 x h1 h2), hS.2.2⟩ hl
  exact ⟨_, hc9, (u_born ty q5 hin hKn hkC e1 hty).to hfs⟩
theorem y_newa {w : WT} {n0 : Nat} {K : KT} {cc : ByteArray} {nL : Nat} {own : String} {rm : Room} {E : Nat → va_E} {m ce sl pc : Nat} {L : List (Nat × Value)} {st : List Value} (hc : CY w n0 K cc nL own rm) {atype : ArrayType} (harr : Cond.arrayClass (newarray.typeOf atype) ∈ AW) {ty : FieldType} (hty : newarray.typeOf atype = ty) (t0 : Nat) {cA : ClassId} (ht : (tysW w)[t0]? = some (cA, ty)) {n : Int32} {N' : Nat} {a0 : vp_A} (ha : ∀ cA : ClassId, vp_cell cA a0 = arrV cA N' (fun _ => defaultValue ty)) (hn : ¬ n < 0) (hN : n.toNatClampNeg = N') (hbytes : N' * componentBytes ty ≤ 536870912) (hcells : ce + 1 ≤ rm.cells) (hslots : sl + N' ≤ rm.slots) (hd : decode cc pc = .ok (.newarray atype, 2))
    (kk : YY w n0 K nL (updE E m (.inl (cA, a0))) (m + 1) (ce + 1) (sl + N') (pc + 2) L (.ref (n0 + m) :: st)) : YY w n0 K nL E m ce sl pc L (.int n :: st) := by
  intro H locs ls hP hz hS hl
  obtain ⟨q1, q2, q3, q4, q5, q6, q7, q8⟩ := hc
  have hR := (q6.2 t0 _ ht).2
  subst hty
  refine va_newaK q1 q2 (q5 _ harr) rfl hd rfl hn hN hbytes (by rw [q8]; exact hcells) (by rw [q8]; exact hslots) hz fun H1 c1 e1 z1 o1 hAr hNm => ?_
  have ec : c1 = cA := by cases atype <;> exact Option.some.inj (hNm.symm.trans hR)
  subst ec
  refine kk H1 locs ls (wlE_push hP hz (by rw [hz]; exact o1) ?_) (by rw [z1]; rfl) ⟨Nat.le_trans hS.1 (by omega), fun x h1 h2 => (o1 x (by have := hS.1; omega)).trans (hS.2.1 x h1 h2), hS.2.2⟩ hl
  show H1[n0 + m]? = some (vp_cell _ _)
  rw [ha]
  exact e1
theorem y_newq {w : WT} {n0 : Nat} {K : KT} {cc : ByteArray} {nL : Nat} {own : String} {rm : Room} {E : Nat → va_E} {m ce sl pc : Nat} {L : List (Nat × Value)} {st : List Value} (hc : CY w n0 K cc nL own rm) {C : String} {index : Nat} (hcl : Cond.classLink own index C ∈ AW) (hov : va_AO C (ks K)) (t0 : Nat) {cA : ClassId} (ht : (tysW w)[t0]? = some (cA, .object C)) {n : Int32} {N' : Nat} (hn : ¬ n < 0) (hN : n.toNatClampNeg = N') (hbytes : N' * 4 ≤ 536870912) (hcells : ce + 1 ≤ rm.cells) (hslots : sl + N' ≤ rm.slots) (hd : decode cc pc = .ok (.anewarray index, 3))
    (kk : YY w n0 K nL (updE E m (.inl (cA, N', .inr (.inr (.inr (.inr (fun _ => none))))))) (m + 1) (ce + 1) (sl + N') (pc + 3) L (.ref (n0 + m) :: st)) : YY w n0 K nL E m ce sl pc L (.int n :: st) := by
  intro H locs ls hP hz hS hl
  obtain ⟨q1, q2, q3, q4, q5, q6, q7, q8⟩ := hc
  obtain ⟨kA9, comp9, g1, g2, g3, g4⟩ := (q6.2 t0 _ ht).2
  subst hN
  refine W.anew q1 q2 q4 (q5 _ hcl) (va_AO.use hov) rfl hd rfl hn hbytes (by rw [q8]; exact hcells) (by rw [q8]; exact hslots) fun c1 kA comp f1 f2 f3 f4 => ?_
  have ec : c1 = cA := Option.some.inj (f1.symm.trans g4)
  subst ec
  generalize hH1 : H.push ({ cls := c1, slots := Array.replicate n.toNatClampNeg .null, vm := .none } : Cell) = H1
  have z1 : H1.size = H.size + 1 := by rw [← hH1, Array.size_push]
  have e1 : H1[H.size]? = some (arrV c1 n.toNatClampNeg (fun _ => .null)) := by rw [← hH1, Array.getElem?_push_size, ← arrV_new]
  have o1 : ∀ q : Nat, q < H.size → H1[q]? = H[q]? := fun q hq => by rw [← hH1, Array.getElem?_push, if_neg (Nat.ne_of_lt hq)]
  have hk := kk H1 locs ls (wlE_push hP hz o1 (by show H1[n0 + m]? = some (vp_cell _ _); rw [← hz]; exact e1)) (by rw [z1, hz]; rfl) ⟨Nat.le_trans hS.1 (by omega), fun x h1 h2 => (o1 x (by have := hS.1; omega)).trans (hS.2.1 x h1 h2), hS.2.2⟩ hl
  rw [hz]
  exact hk
theorem y_get {w : WT} {n0 : Nat} {K : KT} {cc : ByteArray} {nL : Nat} {own : String} {rm : Room} {E : Nat → va_E} {m ce sl pc : Nat} {L : List (Nat × Value)} {st : List Value} (hc : CY w n0 K cc nL own rm) {a : Nat} (ha : a < m) {ci N index : Nat} {C : String} {T : u_T} {ty : Nat → FieldType} {fs : List Value} (hE : E a = .inr (ci, fs)) (hC : KC ci C T N ty) (i : Nat) (hi : i < N) (hlink : Cond.fieldLink own index C (T i).2.1 (T i).2.2.1 ∈ AW) {v : Value} (hv : fs[i]? = some v) (hd : decode cc pc = .ok (.getfield index, 3)) (kk : YY w n0 K nL E m ce sl (pc + 3) L (v :: st)) : YY w n0 K nL E m ce sl pc L (.ref (n0 + a) :: st) := fun H locs ls hP hz hS hl =>
  va_get (D := w.1) (ci := ci) (C := C) (T := T) (N := N) hc.1 hc.2.1 hc.2.2.2.2.1 hC.2.1 hc.2.2.2.1 hc.2.2.2.2.2.1 hP a ((wlE_get n0 E ha).trans (by rw [hE])) hC.1 i hi (hc.2.2.2.2.1 _ hlink) (fun x h => by rw [hC.2.2.2.2 i hi] at h; exact h) hv hd (kk H locs ls hP hz hS hl)
theorem y_putF {w : WT} {n0 : Nat} {K : KT} {cc : ByteArray} {nL : Nat} {own : String} {rm : Room} {E : Nat → va_E} {m ce sl pc : Nat} {L : List (Nat × Value)} {st : List Value} (hc : CY w n0 K cc nL own rm) {a : Nat} (ha : a < m) {ci N index : Nat} {C : String} {T : u_T} {ty : Nat → FieldType} {fs : List Value} (hE : E a = .inr (ci, fs)) (hC : KC ci C T N ty) (i : Nat) (hi : i < N) (hlink : Cond.fieldLink own index C (T i).2.1 (T i).2.2.1 ∈ AW) (hfin : (T i).2.2.2 = true) (hin2 : (kme K).name = "<init>") (hown : C = own) {v : Value} (hn : narrow (ty i) v = v) (hfit : fits (ty i) v = true) (hl0 : i < fs.length) (hd : decode cc pc = .ok (.putfield index, 3)) (kk : YY w n0 K nL (updE E a (.inr (ci, fs.set i v))) m ce sl (pc + 3) L st) : YY w n0 K nL E m ce sl pc L (v :: .ref (n0 + a) :: st) := by
  intro H locs ls hP hz hS hl
  obtain ⟨hexec, hb, q3', hown1, hts, hK, q7, q8⟩ := hc
  obtain ⟨hc9, hin, hty0, hnm, hdcl⟩ := hC
  have he := (wlE_get n0 E ha).trans (by rw [hE])
  have hap := va_apart (own := own) hts hin ty hty0 hnm hK hc9
  obtain ⟨r, h1, cell, q1, q2, q3, q4⟩ := hP a _ he
  have hr : r = (C, T, N) := Option.some.inj (h1.symm.trans hc9)
  subst hr
  obtain ⟨hS9, hfc, kC, hkC, hkind⟩ := hK.1 ci _ hc9
  obtain ⟨cf, kf, fi, f, hi9, hsl⟩ := hS9 i hi
  have hlay := hts _ (hin _ (u_in_lay hi))
  unfold u_lay at hlay
  rw [if_pos hfin] at hlay
  have hst := (u_facts hfc hkC (u_lays hts hin hi) hi9).1
  have hcf : (km K).cls = cf := by
    obtain ⟨_, _, c', _, _, _, -, -, hf', -, -, -, hown2, -⟩ := Cond.laysFinal_spec hlay
    have e1 : c' = cf := by have := hi9.symm.trans hf'; simp at this; exact this.1.symm
    rw [hdcl i hi, hown] at hown2
    rw [← e1]; exact Option.some.inj (hown1.symm.trans hown2)
  have h6 := u_fits hfc hkC hkind (Or.inr hlay) hi9 (hty0 i hi) hn hfit
  refine W.putFinK hexec hb hown1 (hts _ hlink) (by rw [hdcl i hi] at hi9; exact hi9) hst hcf hin2 (by rw [q2]; exact h6) q1 q3 (by rw [hsl]; exact k2_hasslot (q4 i hi)) rfl rfl hd fun H' e1 e2 e3 => ?_
  rw [hsl] at e1 ⊢
  have hP1 := hP.set (wlE_D n0 E m) he (show va_at w.1 vwCl (n0 + a, .inr (ci, fs.set i v)) H' from ⟨_, hc9, t_OB.to (V := updV (vp_V fs) i v) ⟨_, e1, q2, q3, t_set q4 hap hi v⟩ (fun j _ => vp_updV_set hl0 v j)⟩) e3
  rw [wlE_set n0 E ha] at hP1
  exact kk H' _ ls hP1 (by rw [e2]; exact hz) (hS.put e2 e3 (Nat.le_add_right _ _)) hl
theorem y_put {w : WT} {n0 : Nat} {K : KT} {cc : ByteArray} {nL : Nat} {own : String} {rm : Room} {E : Nat → va_E} {m ce sl pc : Nat} {L : List (Nat × Value)} {st : List Value} (hc : CY w n0 K cc nL own rm) {a : Nat} (ha : a < m) {ci N index : Nat} {C : String} {T : u_T} {ty : Nat → FieldType} {fs : List Value} (hE : E a = .inr (ci, fs)) (hC : KC ci C T N ty) (i : Nat) (hi : i < N) (hlink : Cond.fieldLink own index C (T i).2.1 (T i).2.2.1 ∈ AW) (hfin : (T i).2.2.2 = false) {v : Value} (hn : narrow (ty i) v = v) (hfit : fits (ty i) v = true) (hl0 : i < fs.length) (hd : decode cc pc = .ok (.putfield index, 3)) (kk : YY w n0 K nL (updE E a (.inr (ci, fs.set i v))) m ce sl (pc + 3) L st) : YY w n0 K nL E m ce sl pc L (v :: .ref (n0 + a) :: st) := by
  intro H locs ls hP hz hS hl
  obtain ⟨hexec, hb, q3', hown1, hts, hK, q7, q8⟩ := hc
  obtain ⟨hc9, hin, hty0, hnm, hdcl⟩ := hC
  have he := (wlE_get n0 E ha).trans (by rw [hE])
  have hap := va_apart (own := own) hts hin ty hty0 hnm hK hc9
  obtain ⟨r, h1, cell, q1, q2, q3, q4⟩ := hP a _ he
  have hr : r = (C, T, N) := Option.some.inj (h1.symm.trans hc9)
  subst hr
  obtain ⟨hS9, hfc, kC, hkC, hkind⟩ := hK.1 ci _ hc9
  obtain ⟨cf, kf, fi, f, hi9, hsl⟩ := hS9 i hi
  have hlay := hts _ (hin _ (u_in_lay hi))
  unfold u_lay at hlay
  rw [if_neg (by rw [hfin]; decide)] at hlay
  have hst := (u_facts hfc hkC (u_lays hts hin hi) hi9).1
  have h6 := u_store hfc hkC hkind hlay hi9 (hty0 i hi) hn hfit
  refine W.putK hexec hb (f := f) ⟨hown1, hts _ hlink, ⟨_, _, _, by rw [hdcl i hi] at hi9; exact hi9⟩, hst⟩ (by rw [q2]; exact h6) q1 q3 (by rw [hsl]; exact k2_hasslot (q4 i hi)) rfl rfl hd fun H' e1 e2 e3 => ?_
  rw [hsl] at e1 ⊢
  have hP1 := hP.set (wlE_D n0 E m) he (show va_at w.1 vwCl (n0 + a, .inr (ci, fs.set i v)) H' from ⟨_, hc9, t_OB.to (V := updV (vp_V fs) i v) ⟨_, e1, q2, q3, t_set q4 hap hi v⟩ (fun j _ => vp_updV_set hl0 v j)⟩) e3
  rw [wlE_set n0 E ha] at hP1
  exact kk H' _ ls hP1 (by rw [e2]; exact hz) (hS.put e2 e3 (Nat.le_add_right _ _)) hl
theorem y_iast {w : WT} {n0 : Nat} {K : KT} {cc : ByteArray} {nL : Nat} {own : String} {rm : Room} {E : Nat → va_E} {m ce sl pc : Nat} {L : List (Nat × Value)} {st : List Value} (hc : CY w n0 K cc nL own rm) {a : Nat} (ha : a < m) (t0 : Nat) {cA : ClassId} {n : Nat} {f : Nat → Int32} (hE : E a = .inl (cA, n, .inl f)) (ht : (tysW w)[t0]? = some (cA, .int)) {i x : Int32} (hin : vp_in i n) (hd : decode cc pc = .ok (.iastore, 1)) (kk : YY w n0 K nL (updE E a (.inl (cA, n, .inl (upd f i.toNatClampNeg x)))) m ce sl (pc + 1) L st) : YY w n0 K nL E m ce sl pc L (.int x :: .int i :: .ref (n0 + a) :: st) := by
  intro H locs ls hP hz hS hl
  obtain ⟨hexec, hb, q3', hown1, hts, hK, q7, q8⟩ := hc
  have he := (wlE_get n0 E ha).trans (by rw [hE])
  refine W.iast hexec hb (hP a _ he) ((hK.2 t0 _ ht).1 n (fun j => .int (f j))) (fun q => by cases q) (by show ¬ (i < 0 ∨ (arrV _ _ _).slots.size ≤ _); rw [arrV_size]; exact hin) rfl rfl hd fun H1 e z oq => ?_
  have hP1 := hP.set (wlE_D n0 E m) he (e := .inl (cA, n, .inl (upd f i.toNatClampNeg x))) (show H1[n0 + a]? = some (vp_cell _ _) by
    rw [e]
    rw [vp_cell_i, vp_cell_i, arrV_store]
    congr 2
    funext q
    by_cases hq : q = i.toNatClampNeg
    · subst hq
      simp [updV, upd]
    · simp [updV, upd, hq]) oq
  rw [wlE_set n0 E ha] at hP1
  exact kk H1 _ ls hP1 (by rw [z]; exact hz) (hS.put z oq (Nat.le_add_right _ _)) hl
theorem y_astq {w : WT} {n0 : Nat} {K : KT} {cc : ByteArray} {nL : Nat} {own : String} {rm : Room} {E : Nat → va_E} {m ce sl pc : Nat} {L : List (Nat × Value)} {st : List Value} (hc : CY w n0 K cc nL own rm) {a v : Nat} (ha : a < m) (hv : v < m) (t0 ci : Nat) {cA : ClassId} {r : vw_C} {n : Nat} {vs : List Value} {f : Nat → Option Nat} (hE : E a = .inl (cA, n, .inr (.inr (.inr (.inr f))))) (ht : (tysW w)[t0]? = some (cA, .object r.1)) (hE2 : E v = .inr (ci, vs)) (hc9 : vwCl[ci]? = some r) {i : Int32} (hin : vp_in i n) (hd : decode cc pc = .ok (.aastore, 1)) (kk : YY w n0 K nL (updE E a (.inl (cA, n, .inr (.inr (.inr (.inr (va_up f i.toNatClampNeg (some (n0 + v))))))))) m ce sl (pc + 1) L st) : YY w n0 K nL E m ce sl pc L (.ref (n0 + v) :: .int i :: .ref (n0 + a) :: st) := by
  intro H locs ls hP hz hS hl
  obtain ⟨hexec, hb, q3', hown1, hts, hK, q7, q8⟩ := hc
  have he := (wlE_get n0 E ha).trans (by rw [hE])
  have hlt : i.toNatClampNeg < n := Nat.not_le.mp fun q => hin (Or.inr q)
  have h0 : ¬ i < 0 := fun q => hin (Or.inl q)
  obtain ⟨r', hr', cellV, g1, g2, g3, -⟩ := hP v _ ((wlE_get n0 E hv).trans (by rw [hE2]))
  have hcls := (hK.1 ci r hc9).2
  obtain ⟨kA, comp, k1, k2, k3, -⟩ := (hK.2 t0 _ ht).2
  have hcomp : comp = w.1.1 ci := Option.some.inj (k3.symm.trans hcls.1)
  subst hcomp
  obtain ⟨kC, hkC, -⟩ := hcls.2
  refine W.aast hexec hb (hP a _ he) (fun q h => by cases h) (fun h => by cases h) k1 k2 rfl hkC ⟨h0, by show _ < (arrV _ _ _).slots.size; rw [arrV_size]; exact hlt⟩ g1 (fun q h => by rw [g3] at h; cases h) (by rw [g2]; exact hkC) (by rw [g2]; exact va_assign hcls) rfl rfl hd fun H1 e z oq => ?_
  have hP1 := hP.set (wlE_D n0 E m) he (e := .inl (cA, n, .inr (.inr (.inr (.inr (va_up f i.toNatClampNeg (some (n0 + v)))))))) (show H1[n0 + a]? = some (vp_cell _ _) by
    rw [e]
    rw [vp_cell_q, vp_cell_q, arrV_store]
    congr 2
    funext q
    by_cases hq : q = i.toNatClampNeg
    · subst hq
      simp [updV, va_up, va_rf]
    · simp [updV, va_up, hq]) oq
  rw [wlE_set n0 E ha] at hP1
  exact kk H1 _ ls hP1 (by rw [z]; exact hz) (hS.put z oq (Nat.le_add_right _ _)) hl
theorem y_aald {w : WT} {n0 : Nat} {K : KT} {cc : ByteArray} {nL : Nat} {own : String} {rm : Room} {E : Nat → va_E} {m ce sl pc : Nat} {L : List (Nat × Value)} {st : List Value} (hc : CY w n0 K cc nL own rm) {a : Nat} (ha : a < m) (t0 : Nat) {cA : ClassId} {C : String} {n q : Nat} {f : Nat → Option Nat} (hE : E a = .inl (cA, n, .inr (.inr (.inr (.inr f))))) (ht : (tysW w)[t0]? = some (cA, .object C)) {i : Int32} (hin : vp_in i n) (hq : f i.toNatClampNeg = some q) (hd : decode cc pc = .ok (.aaload, 1)) (kk : YY w n0 K nL E m ce sl (pc + 1) L (.ref q :: st)) : YY w n0 K nL E m ce sl pc L (.int i :: .ref (n0 + a) :: st) := fun H locs ls hP hz hS hl =>
  va_aldq (D := w.1) hc.1 hc.2.1 hc.2.2.2.2.2.1 hP a t0 ((wlE_get n0 E ha).trans (by rw [hE])) ht hin hd (by rw [hq]; exact kk H locs ls hP hz hS hl)
