/-! WORLDS THAT GROW: m cells from n0 on -/
def updE (E : Nat → va_E) (a : Nat) (x : va_E) : Nat → va_E := fun q => if q = a then x else E q
def wlE (n0 : Nat) (E : Nat → va_E) (m : Nat) : va_W := (List.range m).map (fun a => (n0 + a, E a))
theorem wlE_get (n0 : Nat) (E : Nat → va_E) {m a : Nat} (h : a < m) : (wlE n0 E m)[a]? = some (n0 + a, E a) := by
  unfold wlE
  rw [List.getElem?_map, List.getElem?_range h]
  rfl
theorem wlE_some {n0 : Nat} {E : Nat → va_E} {m k : Nat} {q : Nat × va_E} (h : (wlE n0 E m)[k]? = some q) : k < m ∧ q = (n0 + k, E k) := by
  have hk : k < m := by
    have := (List.getElem?_eq_some_iff.mp h).1
    unfold wlE at this
    rw [List.length_map, List.length_range] at this
    exact this
  rw [wlE_get n0 E hk] at h
  exact ⟨hk, (Option.some.inj h).symm⟩
def yA (n0 : Nat) : Nat → Prop := fun q => n0 ≤ q
theorem wlE_D (n0 : Nat) (E : Nat → va_E) (m : Nat) : va_D (yA n0) (wlE n0 E m) := by
  refine ⟨fun i j p q h1 h2 h => ?_, fun k q h => ?_⟩
  · obtain ⟨_, rfl⟩ := wlE_some h1
    obtain ⟨_, rfl⟩ := wlE_some h2
    have h9 : n0 + i = n0 + j := h
    omega
  · obtain ⟨_, rfl⟩ := wlE_some h
    exact Nat.le_add_right _ _
theorem wlE_set (n0 : Nat) (E : Nat → va_E) {m a : Nat} (h : a < m) (x : va_E) : (wlE n0 E m).set a (n0 + a, x) = wlE n0 (updE E a x) m := by
  have hlen : ∀ E', (wlE n0 E' m).length = m := fun E' => by unfold wlE; rw [List.length_map, List.length_range]
  apply List.ext_getElem?
  intro k
  by_cases hk : k < m
  · rw [wlE_get n0 _ hk]
    by_cases e : k = a
    · subst e
      rw [List.getElem?_set_self (by rw [hlen]; exact hk)]
      unfold updE
      rw [if_pos rfl]
    · rw [List.getElem?_set_ne (fun z => e z.symm), wlE_get n0 _ hk]
      unfold updE
      rw [if_neg e]
  · rw [List.getElem?_eq_none (by rw [List.length_set, hlen]; omega), List.getElem?_eq_none (by rw [hlen]; omega)]
theorem wlE_push {D : va_G} {cl : List vw_C} {n0 m : Nat} {E : Nat → va_E} {x : va_E} {H H1 : Heap} (hP : va_P D cl (wlE n0 E m) H) (hz : H.size = n0 + m) (ho : ∀ q, q < H.size → H1[q]? = H[q]?) (hx : va_at D cl (n0 + m, x) H1) : va_P D cl (wlE n0 (updE E m x) (m + 1)) H1 := by
  intro k q hk
  obtain ⟨h1, rfl⟩ := wlE_some hk
  unfold updE
  by_cases e : k = m
  · subst e
    rw [if_pos rfl]
    exact hx
  · rw [if_neg e]
    exact (hP k _ (wlE_get n0 E (by omega))).kept (ho (n0 + k) (by omega))
def YY (w : WT) (n0 : Nat) (K : KT) (nL : Nat) (E : Nat → va_E) (m ce sl pc : Nat) (L : List (Nat × Value)) (st : List Value) : Prop :=
  ∀ (H : Heap) (locs : List Loc) (ls : Array Slot), va_P w.1 vwCl (wlE n0 E m) H → H.size = n0 + m → va_S (yA n0) (ks K).heap H locs → lv_has ls nL L → W (kp K) (kl K) (ke K) (kR K) (ks K) (km K) (ka K) (kb K) (kme K) (kco K) H locs ce sl (kQ K) (F0 (km K) pc ls st)
def CY (w : WT) (n0 : Nat) (K : KT) (cc : ByteArray) (nL : Nat) (own : String) (rm : Room) : Prop :=
  (kp K).tables.exec = Jvm.exec ∧ (kco K).code = cc ∧ (kco K).maxLocals = nL ∧ (ks K).vm.findClass own = some (km K).cls ∧ (∀ wd ∈ AW, wd.before (ka K) (ks K) = true) ∧ xK w (ks K) ∧ n0 ≤ (ks K).heap.size ∧ kR K = rm
theorem y_new {w : WT} {n0 : Nat} {K : KT} {cc : ByteArray} {nL : Nat} {own : String} {rm : Room} {E : Nat → va_E} {m ce sl pc : Nat} {L : List (Nat × Value)} {st : List Value} (hc : CY w n0 K cc nL own rm) {C : String} {T : u_T} {N ci index : Nat} (hin : ∀ wd ∈ u_ws C T N, wd ∈ AW) (ty : Nat → FieldType) (hty : ∀ k, k < N → parseFieldDescriptor (T k).2.2.1 = some (ty k)) (hcl : Cond.classLink own index C ∈ AW) (hinst : Cond.instantiable C N ∈ AW) (hini : Cond.initialized C ∈ AW) (hc9 : vwCl[ci]? = some (C, T, N)) {fs : List Value} (hfs : ∀ j, j < N → defaultValue (ty j) = vp_V fs j) (hcells : ce + 1 ≤ rm.cells) (hslots : sl + N ≤ rm.slots) (hd : decode cc pc = .ok (.new index, 3))
    (kk : YY w n0 K nL (updE E m (.inr (ci, fs))) (m + 1) (ce + 1) (sl + N) (pc + 3) L (.ref (n0 + m) :: st)) : YY w n0 K nL E m ce sl pc L st := by
  intro H locs ls hP hz hS hl
  obtain ⟨q1, q2, q3, q4, q5, q6, q7, q8⟩ := hc
  have hKn := q6.1 ci _ hc9
  refine W.newcK q1 q2 q4 (q5 _ hcl) (q5 _ hinst) (q5 _ hini) rfl hd (by rw [q8]; exact hcells) (by rw [q8]; exact hslots) hKn.2.1 hz fun H1 kC hkC e1 z1 o1 => ?_
  refine kk H1 locs ls (wlE_push hP hz (by rw [hz]; exact o1) ?_) (by rw [z1]; rfl) ⟨Nat.le_trans hS.1 (by omega), fun x h1 h2 => (o1 x (by have := hS.1; omega)).trans (hS.2.1 x h1 h2), hS.2.2⟩ hl
  exact ⟨_, hc9, (u_born ty q5 hin hKn hkC e1 hty).to hfs⟩
