/-! THE WORLD: 240 cells at addresses ad k, k < 240; what cell k holds is a row of numbers G k. 0 the almanac, 1 its text, 2 the text's characters, 3 the history, 4 the means, 5 + 39 j the state j (4 the snapshot), 239 the law's row of what is due. -/
abbrev GS : Type := Nat → Nat → Int32
abbrev WT : Type := va_G × (Nat → ClassId) × (Nat → Nat)
def up2 (G : GS) (k i : Nat) (v : Int32) : GS := fun q => if q = k then upd (G k) i v else G q
/-- the state that a number names -/
def stb (x : Int32) : Nat := 5 + 39 * x.toNatClampNeg
def fX0 (ad : Nat → Nat) (k : Nat) (g : Nat → Int32) : List Value := [.ref (ad (k + 1)), .int (g 1), .int (g 2), .int (g 3), .int (g 4), .int (g 5)]
def fX1 (g : Nat → Int32) : List Value := [.int (g 0), .int (g 1), .int (g 2), .int (g 3), .int (g 4)]
def fX2 (g : Nat → Int32) : List Value := [.int (g 0), .int (g 1), .int (g 2), .int (g 3)]
def fX3 (ad : Nat → Nat) (b : Nat) (g : Nat → Int32) : List Value := [.ref (ad (b + 1)), .ref (ad (b + 2)), .ref (ad (b + 28)), .ref (ad (b + 34)), .int (g 4), .int (g 5), .int (g 6), .int (g 7), .int (g 8), .int (g 9), .int (g 10), .int (g 11), .int (g 12)]
def fX4 (ad : Nat → Nat) (k : Nat) (g : Nat → Int32) : List Value := [.ref (ad (k + 1)), .ref (ad (k + 2)), .ref (ad (k + 3)), .ref (ad (k + 4)), .int (g 4)]
def fX5 (ad : Nat → Nat) (g : Nat → Int32) : List Value := [.ref (ad 1), .ref (ad 3), .ref (ad 161), .ref (ad 4), .ref (ad (stb (g 4))), .int (g 5), .int (g 6)]
def va_ai (c : ClassId) (n : Nat) (g : Nat → Int32) : va_E := .inl (c, n, .inl g)
def va_aq (c : ClassId) (n : Nat) (f : Nat → Option Nat) : va_E := .inl (c, n, .inr (.inr (.inr (.inr f))))
def stSh (ac : Nat → ClassId) (ad : Nat → Nat) (b c : Nat) (g : Nat → Int32) : va_E :=
  if c = 0 then .inr (3, fX3 ad b g) else if c = 1 then va_ai (ac 0) 4 g else if c = 2 then va_aq (ac 2) 5 (fun i => some (ad (b + (3 + 5 * i))))
  else if c < 28 then (if (c - 3) % 5 = 0 then .inr (4, fX4 ad (b + c) g) else va_ai (ac 0) 20 g)
  else if c = 28 then va_aq (ac 3) 5 (fun i => some (ad (b + (29 + i)))) else if c < 34 then .inr (2, fX2 g)
  else if c = 34 then va_aq (ac 4) 4 (fun i => some (ad (b + (35 + i)))) else .inr (1, fX1 g)
def cellSh (ac : Nat → ClassId) (ad : Nat → Nat) (k : Nat) (g : Nat → Int32) : va_E :=
  if k = 0 then .inr (5, fX5 ad g) else if k = 1 then .inr (0, fX0 ad 1 g) else if k = 2 then va_ai (ac 1) 60 g
  else if k = 3 then va_aq (ac 5) 4 (fun i => some (ad (stb (g i)))) else if k = 4 then va_ai (ac 0) 20 g
  else if k < 239 then stSh ac ad (5 + 39 * ((k - 5) / 39)) ((k - 5) % 39) g
  else va_ai (ac 0) 52 g
def wl (w : WT) (G : GS) : va_W := (List.range 240).map (fun k => (w.2.2 k, cellSh w.2.1 w.2.2 k (G k)))
def xA (w : WT) : Nat → Prop := fun q => ∃ k, k < 240 ∧ w.2.2 k = q
def tysW (w : WT) : List (ClassId × FieldType) := [(w.2.1 0, .int), (w.2.1 1, .char), (w.2.1 2, .object RX4), (w.2.1 3, .object RX2), (w.2.1 4, .object RX1), (w.2.1 5, .object RX3)]
def xK (w : WT) (U : State) : Prop := va_K w.1 vwCl (tysW w) U
def xI (w : WT) : Prop := ∀ i j, i < 240 → j < 240 → w.2.2 i = w.2.2 j → i = j
def xN (U : State) : Prop := va_Nw (.methodLinkNest RX3 120 yX5_clampWarmth RX5) U ∧ va_Nw (.methodLinkNest RX3 134 yX5_isFrost RX5) U ∧ va_Nw (.methodLinkNest RX4 38 yX5_mended RX5) U ∧ va_Nw (.methodLinkNest RX4 54 yX5_isFrost RX5) U
theorem xN.warm {s U : State} (hW : s.WarmedH U.vm) (h : xN s) : xN U := ⟨va_Nw.warmM hW h.1, va_Nw.warmM hW h.2.1, va_Nw.warmM hW h.2.2.1, va_Nw.warmM hW h.2.2.2⟩
theorem xN.same {u U : State} (hv : u.vm = U.vm) (h : xN u) : xN U := ⟨va_Nw.same rfl hv h.1, va_Nw.same rfl hv h.2.1, va_Nw.same rfl hv h.2.2.1, va_Nw.same rfl hv h.2.2.2⟩
theorem wl_get {w : WT} {G : GS} {k : Nat} (hk : k < 240) {e : va_E} (he : cellSh w.2.1 w.2.2 k (G k) = e) : (wl w G)[k]? = some (w.2.2 k, e) := by
  subst he
  simp [wl, hk]
theorem wl_len (w : WT) (G : GS) : (wl w G).length = 240 := by simp [wl]
theorem wl_D {w : WT} (hI : xI w) (G : GS) : va_D (xA w) (wl w G) := by
  have key : ∀ (k : Nat) (q : Nat × va_E), (wl w G)[k]? = some q → k < 240 ∧ q.1 = w.2.2 k := by
    intro k q hq
    have hk : k < 240 := by
      have := (List.getElem?_eq_some_iff.mp hq).1
      rwa [wl_len] at this
    rw [wl_get hk rfl] at hq
    cases hq
    exact ⟨hk, rfl⟩
  refine ⟨fun i j p q hi hj hpq => ?_, fun k q hq => ?_⟩
  · obtain ⟨h1, h2⟩ := key i p hi
    obtain ⟨h3, h4⟩ := key j q hj
    exact hI i j h1 h3 (by rw [← h2, ← h4]; exact hpq)
  · obtain ⟨h1, h2⟩ := key k q hq
    exact ⟨k, h1, h2.symm⟩
theorem wl_set {w : WT} {G : GS} {k i : Nat} {x : Int32} {e : va_E} (hk : k < 240) (he : cellSh w.2.1 w.2.2 k (upd (G k) i x) = e) : (wl w G).set k (w.2.2 k, e) = wl w (up2 G k i x) := by
  subst he
  apply List.ext_getElem?
  intro j
  by_cases hj : j < 240
  · by_cases e : j = k
    · subst e
      rw [List.getElem?_set_self (by rw [wl_len]; exact hk), wl_get hk rfl]
      simp [up2]
    · rw [List.getElem?_set_ne (Ne.symm e), wl_get hj rfl, wl_get hj rfl]
      simp [up2, e]
  · rw [List.getElem?_eq_none (by rw [List.length_set, wl_len]; omega), List.getElem?_eq_none (by rw [wl_len]; omega)]
theorem up2_s (G : GS) (k i : Nat) (v : Int32) : up2 G k i v k i = v := by simp [up2, upd]
theorem up2_k (G : GS) {k q : Nat} (i j : Nat) (v : Int32) (h : q ≠ k) : up2 G k i v q j = G q j := by simp [up2, h]
theorem up2_i (G : GS) (k q : Nat) {i j : Nat} (v : Int32) (h : j ≠ i) : up2 G k i v q j = G q j := by
  unfold up2
  split
  · rename_i e; subst e; simp [upd, h]
  · rfl
/-! what is known of a cell: an object; an array of numbers; an array of references -/
def CF (w : WT) (k ci : Nat) (fs : (Nat → Int32) → List Value) : Prop := k < 240 ∧ ∀ g, cellSh w.2.1 w.2.2 k g = .inr (ci, fs g)
def AF (w : WT) (k t n : Nat) : Prop := k < 240 ∧ ∀ g, cellSh w.2.1 w.2.2 k g = va_ai (w.2.1 t) n g
def RF (w : WT) (k t n : Nat) (f : (Nat → Int32) → Nat → Option Nat) : Prop := k < 240 ∧ ∀ g, cellSh w.2.1 w.2.2 k g = va_aq (w.2.1 t) n (f g)
def isB (b : Nat) : Prop := ∃ j, j < 6 ∧ b = 5 + 39 * j
theorem st_sh {b : Nat} (h : isB b) {c : Nat} (hc : c < 39) (ac : Nat → ClassId) (ad : Nat → Nat) (g : Nat → Int32) : b + c < 239 ∧ 5 ≤ b ∧ cellSh ac ad (b + c) g = stSh ac ad b c g := by
  obtain ⟨j, hj, rfl⟩ := h
  refine ⟨by omega, by omega, ?_⟩
  unfold cellSh
  rw [if_neg (by omega), if_neg (by omega), if_neg (by omega), if_neg (by omega), if_neg (by omega), if_pos (by omega), show (5 + 39 * j + c - 5) / 39 = j by omega, show (5 + 39 * j + c - 5) % 39 = c by omega]
theorem cfM {w : WT} : CF w 0 5 (fX5 w.2.2) := ⟨by omega, fun g => rfl⟩
theorem cfT {w : WT} : CF w 1 0 (fX0 w.2.2 1) := ⟨by omega, fun g => rfl⟩
theorem afC {w : WT} : AF w 2 1 60 := ⟨by omega, fun g => rfl⟩
theorem rfH {w : WT} : RF w 3 5 4 (fun g i => some (w.2.2 (stb (g i)))) := ⟨by omega, fun g => rfl⟩
theorem afN {w : WT} : AF w 4 0 20 := ⟨by omega, fun g => rfl⟩
theorem afD {w : WT} : AF w 239 0 52 := ⟨by omega, fun g => rfl⟩
theorem cfS {w : WT} {b : Nat} (h : isB b) : CF w b 3 (fX3 w.2.2 b) := by
  refine ⟨by have := (st_sh h (c := 0) (by omega) w.2.1 w.2.2 (fun _ => 0)).1; omega, fun g => ?_⟩
  have := (st_sh h (c := 0) (by omega) w.2.1 w.2.2 g).2.2
  simpa [stSh] using this
theorem afS {w : WT} {b : Nat} (h : isB b) : AF w (b + 1) 0 4 := ⟨by have := (st_sh h (c := 1) (by omega) w.2.1 w.2.2 (fun _ => 0)).1; omega, fun g => (st_sh h (c := 1) (by omega) w.2.1 w.2.2 g).2.2⟩
theorem rfY {w : WT} {b : Nat} (h : isB b) : RF w (b + 2) 2 5 (fun _ i => some (w.2.2 (b + (3 + 5 * i)))) := ⟨by have := (st_sh h (c := 2) (by omega) w.2.1 w.2.2 (fun _ => 0)).1; omega, fun g => (st_sh h (c := 2) (by omega) w.2.1 w.2.2 g).2.2⟩
theorem rfS {w : WT} {b : Nat} (h : isB b) : RF w (b + 28) 3 5 (fun _ i => some (w.2.2 (b + (29 + i)))) := ⟨by have := (st_sh h (c := 28) (by omega) w.2.1 w.2.2 (fun _ => 0)).1; omega, fun g => (st_sh h (c := 28) (by omega) w.2.1 w.2.2 g).2.2⟩
theorem rfR {w : WT} {b : Nat} (h : isB b) : RF w (b + 34) 4 4 (fun _ i => some (w.2.2 (b + (35 + i)))) := ⟨by have := (st_sh h (c := 34) (by omega) w.2.1 w.2.2 (fun _ => 0)).1; omega, fun g => (st_sh h (c := 34) (by omega) w.2.1 w.2.2 g).2.2⟩
/-- a year's cell, a saint's, a reader's -/
def isY (k : Nat) : Prop := ∃ b y, isB b ∧ y < 5 ∧ k = b + (3 + 5 * y)
def isN (k : Nat) : Prop := ∃ b i, isB b ∧ i < 5 ∧ k = b + (29 + i)
def isR (k : Nat) : Prop := ∃ b i, isB b ∧ i < 4 ∧ k = b + (35 + i)
theorem cfY {w : WT} {k : Nat} (h : isY k) : CF w k 4 (fX4 w.2.2 k) := by
  obtain ⟨b, y, hb, hy, rfl⟩ := h
  refine ⟨by have := (st_sh hb (c := 3 + 5 * y) (by omega) w.2.1 w.2.2 (fun _ => 0)).1; omega, fun g => ?_⟩
  rw [(st_sh hb (c := 3 + 5 * y) (by omega) w.2.1 w.2.2 g).2.2]
  unfold stSh
  rw [if_neg (by omega), if_neg (by omega), if_neg (by omega), if_pos (by omega), if_pos (by omega)]
theorem afY {w : WT} {k : Nat} (h : isY k) {i : Nat} (h1 : 1 ≤ i) (h2 : i ≤ 4) : AF w (k + i) 0 20 := by
  obtain ⟨b, y, hb, hy, rfl⟩ := h
  refine ⟨by have := (st_sh hb (c := 3 + 5 * y + i) (by omega) w.2.1 w.2.2 (fun _ => 0)).1; omega, fun g => ?_⟩
  rw [show b + (3 + 5 * y) + i = b + (3 + 5 * y + i) by omega, (st_sh hb (c := 3 + 5 * y + i) (by omega) w.2.1 w.2.2 g).2.2]
  unfold stSh
  rw [if_neg (by omega), if_neg (by omega), if_neg (by omega), if_pos (by omega), if_neg (by omega)]
theorem cfN {w : WT} {k : Nat} (h : isN k) : CF w k 2 fX2 := by
  obtain ⟨b, i, hb, hi, rfl⟩ := h
  refine ⟨by have := (st_sh hb (c := 29 + i) (by omega) w.2.1 w.2.2 (fun _ => 0)).1; omega, fun g => ?_⟩
  rw [(st_sh hb (c := 29 + i) (by omega) w.2.1 w.2.2 g).2.2]
  unfold stSh
  rw [if_neg (by omega), if_neg (by omega), if_neg (by omega), if_neg (by omega), if_neg (by omega), if_pos (by omega)]
theorem cfD {w : WT} {k : Nat} (h : isR k) : CF w k 1 fX1 := by
  obtain ⟨b, i, hb, hi, rfl⟩ := h
  refine ⟨by have := (st_sh hb (c := 35 + i) (by omega) w.2.1 w.2.2 (fun _ => 0)).1; omega, fun g => ?_⟩
  rw [(st_sh hb (c := 35 + i) (by omega) w.2.1 w.2.2 g).2.2]
  unfold stSh
  rw [if_neg (by omega), if_neg (by omega), if_neg (by omega), if_neg (by omega), if_neg (by omega), if_neg (by omega), if_neg (by omega)]
theorem isY_of {b y : Nat} (h : isB b) (hy : y < 5) : isY (b + (3 + 5 * y)) := ⟨b, y, h, hy, rfl⟩
theorem isN_of {b y : Nat} (h : isB b) (hy : y < 5) : isN (b + (29 + y)) := ⟨b, y, h, hy, rfl⟩
theorem isR_of {b y : Nat} (h : isB b) (hy : y < 4) : isR (b + (35 + y)) := ⟨b, y, h, hy, rfl⟩
/-- a class of the world: its place, its words, its types -/
def KC (ci : Nat) (C : String) (T : u_T) (N : Nat) (ty : Nat → FieldType) : Prop := vwCl[ci]? = some (C, T, N) ∧ (∀ w ∈ u_ws C T N, w ∈ AW) ∧ (∀ k, k < N → parseFieldDescriptor (T k).2.2.1 = some (ty k)) ∧ (∀ a, a < N → ∀ b, b < N → a ≠ b → (T a).2.1 ≠ (T b).2.1) ∧ ∀ k, k < N → (T k).1 = C
theorem kcX0 : KC 0 RX0 TX0 6 tyX0 := ⟨rfl, uw_X0, tyX0_ok, nmX0, by decide +kernel⟩
theorem kcX1 : KC 1 RX1 TX1 5 tyX1 := ⟨rfl, uw_X1, tyX1_ok, nmX1, by decide +kernel⟩
theorem kcX2 : KC 2 RX2 TX2 4 tyX2 := ⟨rfl, uw_X2, tyX2_ok, nmX2, by decide +kernel⟩
theorem kcX3 : KC 3 RX3 TX3 13 tyX3 := ⟨rfl, uw_X3, tyX3_ok, nmX3, by decide +kernel⟩
theorem kcX4 : KC 4 RX4 TX4 5 tyX4 := ⟨rfl, uw_X4, tyX4_ok, nmX4, by decide +kernel⟩
theorem kcX5 : KC 5 RX5 TX5 7 tyX5 := ⟨rfl, uw_X5, tyX5_ok, nmX5, by decide +kernel⟩
/-! THE WALK: XX says 'from here, whatever the heap is that holds the world, the method comes to its end'. -/
abbrev KT : Type := Program × Launch × Env × Room × State × MethodId × Array Value × List Frame × Method × Code × Nat × Nat × (State → Prop)
abbrev kp (K : KT) := K.1
abbrev kl (K : KT) := K.2.1
abbrev ke (K : KT) := K.2.2.1
abbrev kR (K : KT) := K.2.2.2.1
abbrev ks (K : KT) := K.2.2.2.2.1
abbrev km (K : KT) := K.2.2.2.2.2.1
abbrev ka (K : KT) := K.2.2.2.2.2.2.1
abbrev kb (K : KT) := K.2.2.2.2.2.2.2.1
abbrev kme (K : KT) := K.2.2.2.2.2.2.2.2.1
abbrev kco (K : KT) := K.2.2.2.2.2.2.2.2.2.1
abbrev kce (K : KT) := K.2.2.2.2.2.2.2.2.2.2.1
abbrev ksl (K : KT) := K.2.2.2.2.2.2.2.2.2.2.2.1
abbrev kQ (K : KT) := K.2.2.2.2.2.2.2.2.2.2.2.2
abbrev WK (K : KT) (H : Heap) (locs : List Loc) (g : JFrame) : Prop := W (kp K) (kl K) (ke K) (kR K) (ks K) (km K) (ka K) (kb K) (kme K) (kco K) H locs (kce K) (ksl K) (kQ K) g
def XX (w : WT) (K : KT) (nL : Nat) (G : GS) (pc : Nat) (L : List (Nat × Value)) (st : List Value) : Prop :=
  ∀ (H : Heap) (locs : List Loc) (ls : Array Slot), va_P w.1 vwCl (wl w G) H → va_S (xA w) (ks K).heap H locs → lv_has ls nL L → WK K H locs (F0 (km K) pc ls st)
def CX (w : WT) (K : KT) (cc : ByteArray) (nL : Nat) (own : String) (rm : Room) : Prop :=
  (kp K).tables.exec = Jvm.exec ∧ (kco K).code = cc ∧ (kco K).maxLocals = nL ∧ (ks K).vm.findClass own = some (km K).cls ∧ (∀ wd ∈ AW, wd.before (ka K) (ks K) = true) ∧ xK w (ks K) ∧ xI w ∧ xN (ks K) ∧ kR K = rm ∧ kce K ≤ rm.cells ∧ ksl K ≤ rm.slots
section XR
variable {w : WT} {K : KT} {cc : ByteArray} {nL : Nat} {own : String} {rm : Room} {G : GS} {pc : Nat} {L : List (Nat × Value)} {st : List Value}
theorem x_loc (ks : List Nat) {L' : List (Nat × Value)} (h : lv_pick L ks = L') (kk : XX w K nL G pc L' st) : XX w K nL G pc L st := fun H locs ls hP hS hl => kk H locs ls hP hS (lv_sub hl ks h)
theorem x_nm {x : Int32} (kk : ∀ y : Int32, y = x → XX w K nL G pc L (.int y :: st)) : XX w K nL G pc L (.int x :: st) := kk x rfl
theorem x_as {x : Int32} (y : Int32) (h : x = y) (kk : XX w K nL G pc L (.int y :: st)) : XX w K nL G pc L (.int x :: st) := h ▸ kk
theorem x_ar {a : Nat} (b : Nat) (h : a = b) (kk : XX w K nL G pc L (.ref (w.2.2 b) :: st)) : XX w K nL G pc L (.ref (w.2.2 a) :: st) := h ▸ kk
theorem x_G {G' : GS} (h : G = G') (kk : XX w K nL G' pc L st) : XX w K nL G pc L st := h ▸ kk
theorem x_Gn (kk : ∀ G' : GS, G' = G → XX w K nL G' pc L st) : XX w K nL G pc L st := kk G rfl
theorem x_as2 {x : Int32} {v : Value} (y : Int32) (h : x = y) (kk : XX w K nL G pc L (v :: .int y :: st)) : XX w K nL G pc L (v :: .int x :: st) := h ▸ kk
theorem x_pc (pc' : Nat) (h : pc = pc') (kk : XX w K nL G pc' L st) : XX w K nL G pc L st := h ▸ kk
theorem x_iadd (hc : CX w K cc nL own rm) {x y : Int32} (hd : decode cc pc = .ok (.iadd, 1)) (kk : XX w K nL G (pc + 1) L (.int (x + y) :: st)) : XX w K nL G pc L (.int y :: .int x :: st) := fun H locs ls hP hS hl => lv_iadd hc.1 hc.2.1 hd (kk H locs ls hP hS hl)
theorem x_isub (hc : CX w K cc nL own rm) {x y : Int32} (hd : decode cc pc = .ok (.isub, 1)) (kk : XX w K nL G (pc + 1) L (.int (x - y) :: st)) : XX w K nL G pc L (.int y :: .int x :: st) := fun H locs ls hP hS hl => lv_isub hc.1 hc.2.1 hd (kk H locs ls hP hS hl)
theorem x_imul (hc : CX w K cc nL own rm) {x y : Int32} (hd : decode cc pc = .ok (.imul, 1)) (kk : XX w K nL G (pc + 1) L (.int (x * y) :: st)) : XX w K nL G pc L (.int y :: .int x :: st) := fun H locs ls hP hS hl => lv_imul hc.1 hc.2.1 hd (kk H locs ls hP hS hl)
theorem x_iand (hc : CX w K cc nL own rm) {x y : Int32} (hd : decode cc pc = .ok (.iand, 1)) (kk : XX w K nL G (pc + 1) L (.int (x &&& y) :: st)) : XX w K nL G pc L (.int y :: .int x :: st) := fun H locs ls hP hS hl => lv_iand hc.1 hc.2.1 hd (kk H locs ls hP hS hl)
theorem x_idiv (hc : CX w K cc nL own rm) {x y : Int32} (hd : decode cc pc = .ok (.idiv, 1)) (hne : ¬ y = 0) (kk : XX w K nL G (pc + 1) L (.int (x / y) :: st)) : XX w K nL G pc L (.int y :: .int x :: st) := fun H locs ls hP hS hl => lv_idiv hc.1 hc.2.1 hd hne (kk H locs ls hP hS hl)
theorem x_irem (hc : CX w K cc nL own rm) {x y : Int32} (hd : decode cc pc = .ok (.irem, 1)) (hne : ¬ y = 0) (z : Int32) (hz : x - x / y * y = z) (kk : XX w K nL G (pc + 1) L (.int z :: st)) : XX w K nL G pc L (.int y :: .int x :: st) := fun H locs ls hP hS hl => lv_irem hc.1 hc.2.1 hd hne (by rw [hz]; exact kk H locs ls hP hS hl)
theorem x_ineg (hc : CX w K cc nL own rm) {x : Int32} (hd : decode cc pc = .ok (.ineg, 1)) (kk : XX w K nL G (pc + 1) L (.int (-x) :: st)) : XX w K nL G pc L (.int x :: st) := fun H locs ls hP hS hl => lv_ineg hc.1 hc.2.1 hd (kk H locs ls hP hS hl)
theorem x_i2c (hc : CX w K cc nL own rm) {x v : Int32} (hd : decode cc pc = .ok (.i2c, 1)) (hv : (x.toUInt32 % 65536).toInt32 = v) (kk : XX w K nL G (pc + 1) L (.int v :: st)) : XX w K nL G pc L (.int x :: st) := fun H locs ls hP hS hl => lv_i2c hc.1 hc.2.1 hd hv (kk H locs ls hP hS hl)
theorem x_pop (hc : CX w K cc nL own rm) {x : Int32} (hd : decode cc pc = .ok (.pop, 1)) (kk : XX w K nL G (pc + 1) L (st)) : XX w K nL G pc L (.int x :: st) := fun H locs ls hP hS hl => lv_pop hc.1 hc.2.1 hd rfl (kk H locs ls hP hS hl)
theorem x_dupi (hc : CX w K cc nL own rm) {x : Int32} (hd : decode cc pc = .ok (.dup, 1)) (kk : XX w K nL G (pc + 1) L (.int x :: .int x :: st)) : XX w K nL G pc L (.int x :: st) := fun H locs ls hP hS hl => lv_dup hc.1 hc.2.1 hd rfl (kk H locs ls hP hS hl)
theorem x_dupr (hc : CX w K cc nL own rm) {x : Nat} (hd : decode cc pc = .ok (.dup, 1)) (kk : XX w K nL G (pc + 1) L (.ref x :: .ref x :: st)) : XX w K nL G pc L (.ref x :: st) := fun H locs ls hP hS hl => lv_dup hc.1 hc.2.1 hd rfl (kk H locs ls hP hS hl)
theorem x_dup2ir (hc : CX w K cc nL own rm) {x : Int32} {a : Nat} (hd : decode cc pc = .ok (.dup2, 1)) (kk : XX w K nL G (pc + 1) L (.int x :: .ref a :: .int x :: .ref a :: st)) : XX w K nL G pc L (.int x :: .ref a :: st) := fun H locs ls hP hS hl => lv_dup2_11 hc.1 hc.2.1 hd rfl rfl (kk H locs ls hP hS hl)
theorem x_iconst (hc : CX w K cc nL own rm) {n : Int} {v : Int32} (hd : decode cc pc = .ok (.iconst n, 1)) (hv : Int32.ofInt n = v) (kk : XX w K nL G (pc + 1) L (.int v :: st)) : XX w K nL G pc L (st) := fun H locs ls hP hS hl => lv_iconst hc.1 hc.2.1 hd hv (kk H locs ls hP hS hl)
theorem x_bipush (hc : CX w K cc nL own rm) {n : Int} {v : Int32} (hd : decode cc pc = .ok (.bipush n, 2)) (hv : (Int8.ofInt n).toInt32 = v) (kk : XX w K nL G (pc + 2) L (.int v :: st)) : XX w K nL G pc L (st) := fun H locs ls hP hS hl => lv_bipush hc.1 hc.2.1 hd hv (kk H locs ls hP hS hl)
theorem x_sipush (hc : CX w K cc nL own rm) {n : Int} {v : Int32} (hd : decode cc pc = .ok (.sipush n, 3)) (hv : (Int16.ofInt n).toInt32 = v) (kk : XX w K nL G (pc + 3) L (.int v :: st)) : XX w K nL G pc L (st) := fun H locs ls hP hS hl => lv_sipush hc.1 hc.2.1 hd hv (kk H locs ls hP hS hl)
theorem x_ldc (hc : CX w K cc nL own rm) {index : Nat} {v : Int32} (hd : decode cc pc = .ok (.ldc index, 2)) (hk : Cond.constant own index v ∈ AW) (kk : XX w K nL G (pc + 2) L (.int v :: st)) : XX w K nL G pc L (st) := fun H locs ls hP hS hl => lv_ldc hc.1 hc.2.1 hc.2.2.2.1 (hc.2.2.2.2.1 _ hk) hd (kk H locs ls hP hS hl)
theorem x_iload_n (hc : CX w K cc nL own rm) {f : Fin 4} {x : Int32} (hd : decode cc pc = .ok (.iload_n f, 1)) (k : Nat) (hk : L[k]? = some (f.val, .int x)) (kk : XX w K nL G (pc + 1) L (.int x :: st)) : XX w K nL G pc L st := fun H locs ls hP hS hl => lv_iload_n hc.1 hc.2.1 hd rfl (lv_at hl k hk) (kk H locs ls hP hS hl)
theorem x_iload (hc : CX w K cc nL own rm) {i : Nat} {x : Int32} (hd : decode cc pc = .ok (.iload i, 2)) (k : Nat) (hk : L[k]? = some (i, .int x)) (kk : XX w K nL G (pc + 2) L (.int x :: st)) : XX w K nL G pc L st := fun H locs ls hP hS hl => lv_iload hc.1 hc.2.1 hd (lv_at hl k hk) (kk H locs ls hP hS hl)
theorem x_istore_n (hc : CX w K cc nL own rm) {f : Fin 4} {x : Int32} (hd : decode cc pc = .ok (.istore_n f, 1)) (hn : f.val < nL) {L' : List (Nat × Value)} (hl2 : (f.val, .int x) :: L.filter (fun q => !(q.1 == f.val) && !(q.1 + 1 == f.val && q.2.category == 2)) = L') (kk : XX w K nL G (pc + 1) L' st) : XX w K nL G pc L (.int x :: st) := fun H locs ls hP hS hl => lv_istore_n hc.1 hc.2.1 hd rfl hl hn hl2 (fun ls2 hl3 => kk H locs ls2 hP hS hl3)
theorem x_istore (hc : CX w K cc nL own rm) {i : Nat} {x : Int32} (hd : decode cc pc = .ok (.istore i, 2)) (hn : i < nL) {L' : List (Nat × Value)} (hl2 : (i, .int x) :: L.filter (fun q => !(q.1 == i) && !(q.1 + 1 == i && q.2.category == 2)) = L') (kk : XX w K nL G (pc + 2) L' st) : XX w K nL G pc L (.int x :: st) := fun H locs ls hP hS hl => lv_istore hc.1 hc.2.1 hd hl hn hl2 (fun ls2 hl3 => kk H locs ls2 hP hS hl3)
theorem x_aload_n (hc : CX w K cc nL own rm) {f : Fin 4} {x : Nat} (hd : decode cc pc = .ok (.aload_n f, 1)) (k : Nat) (hk : L[k]? = some (f.val, .ref x)) (kk : XX w K nL G (pc + 1) L (.ref x :: st)) : XX w K nL G pc L st := fun H locs ls hP hS hl => lv_aload_n hc.1 hc.2.1 hd rfl (lv_at hl k hk) (kk H locs ls hP hS hl)
theorem x_aload (hc : CX w K cc nL own rm) {i : Nat} {x : Nat} (hd : decode cc pc = .ok (.aload i, 2)) (k : Nat) (hk : L[k]? = some (i, .ref x)) (kk : XX w K nL G (pc + 2) L (.ref x :: st)) : XX w K nL G pc L st := fun H locs ls hP hS hl => lv_aload hc.1 hc.2.1 hd (lv_at hl k hk) (kk H locs ls hP hS hl)
theorem x_astore_n (hc : CX w K cc nL own rm) {f : Fin 4} {x : Nat} (hd : decode cc pc = .ok (.astore_n f, 1)) (hn : f.val < nL) {L' : List (Nat × Value)} (hl2 : (f.val, .ref x) :: L.filter (fun q => !(q.1 == f.val) && !(q.1 + 1 == f.val && q.2.category == 2)) = L') (kk : XX w K nL G (pc + 1) L' st) : XX w K nL G pc L (.ref x :: st) := fun H locs ls hP hS hl => lv_astore_n hc.1 hc.2.1 hd rfl hl hn hl2 (fun ls2 hl3 => kk H locs ls2 hP hS hl3)
theorem x_astore (hc : CX w K cc nL own rm) {i : Nat} {x : Nat} (hd : decode cc pc = .ok (.astore i, 2)) (hn : i < nL) {L' : List (Nat × Value)} (hl2 : (i, .ref x) :: L.filter (fun q => !(q.1 == i) && !(q.1 + 1 == i && q.2.category == 2)) = L') (kk : XX w K nL G (pc + 2) L' st) : XX w K nL G pc L (.ref x :: st) := fun H locs ls hP hS hl => lv_astore hc.1 hc.2.1 hd hl hn hl2 (fun ls2 hl3 => kk H locs ls2 hP hS hl3)
theorem x_iinc (hc : CX w K cc nL own rm) {i : Nat} {n : Int} {x : Int32} (hd : decode cc pc = .ok (.iinc i n, 3)) (k : Nat) (hk : L[k]? = some (i, .int x)) (v : Int32) (hv : x + Int32.ofInt n = v) (hn : i < nL) {L' : List (Nat × Value)} (hl2 : (i, .int v) :: L.filter (fun q => !(q.1 == i) && !(q.1 + 1 == i && q.2.category == 2)) = L') (kk : XX w K nL G (pc + 3) L' st) : XX w K nL G pc L st := fun H locs ls hP hS hl => lv_iinc hc.1 hc.2.1 hd hl hk hv hn hl2 (fun ls2 hl3 => kk H locs ls2 hP hS hl3)
theorem x_icmp_lt (hc : CX w K cc nL own rm) {x y : Int32} {off : Int} (hd : decode cc pc = .ok (.if_icmp .lt off, 3)) (tgt : Nat) (ht : (pc : Int) + off = (tgt : Int)) (kt : x < y → XX w K nL G tgt L st) (kf : ¬ x < y → XX w K nL G (pc + 3) L st) : XX w K nL G pc L (.int y :: .int x :: st) := fun H locs ls hP hS hl => lv_icmp_lt hc.1 hc.2.1 hd ht (fun q => kt q H locs ls hP hS hl) (fun q => kf q H locs ls hP hS hl)
theorem x_icmp_ge (hc : CX w K cc nL own rm) {x y : Int32} {off : Int} (hd : decode cc pc = .ok (.if_icmp .ge off, 3)) (tgt : Nat) (ht : (pc : Int) + off = (tgt : Int)) (kt : y ≤ x → XX w K nL G tgt L st) (kf : ¬ y ≤ x → XX w K nL G (pc + 3) L st) : XX w K nL G pc L (.int y :: .int x :: st) := fun H locs ls hP hS hl => lv_icmp_ge hc.1 hc.2.1 hd ht (fun q => kt q H locs ls hP hS hl) (fun q => kf q H locs ls hP hS hl)
theorem x_icmp_gt (hc : CX w K cc nL own rm) {x y : Int32} {off : Int} (hd : decode cc pc = .ok (.if_icmp .gt off, 3)) (tgt : Nat) (ht : (pc : Int) + off = (tgt : Int)) (kt : y < x → XX w K nL G tgt L st) (kf : ¬ y < x → XX w K nL G (pc + 3) L st) : XX w K nL G pc L (.int y :: .int x :: st) := fun H locs ls hP hS hl => lv_icmp_gt hc.1 hc.2.1 hd ht (fun q => kt q H locs ls hP hS hl) (fun q => kf q H locs ls hP hS hl)
theorem x_icmp_le (hc : CX w K cc nL own rm) {x y : Int32} {off : Int} (hd : decode cc pc = .ok (.if_icmp .le off, 3)) (tgt : Nat) (ht : (pc : Int) + off = (tgt : Int)) (kt : x ≤ y → XX w K nL G tgt L st) (kf : ¬ x ≤ y → XX w K nL G (pc + 3) L st) : XX w K nL G pc L (.int y :: .int x :: st) := fun H locs ls hP hS hl => lv_icmp_le hc.1 hc.2.1 hd ht (fun q => kt q H locs ls hP hS hl) (fun q => kf q H locs ls hP hS hl)
theorem x_icmp_eq (hc : CX w K cc nL own rm) {x y : Int32} {off : Int} (hd : decode cc pc = .ok (.if_icmp .eq off, 3)) (tgt : Nat) (ht : (pc : Int) + off = (tgt : Int)) (kt : x = y → XX w K nL G tgt L st) (kf : ¬ x = y → XX w K nL G (pc + 3) L st) : XX w K nL G pc L (.int y :: .int x :: st) := fun H locs ls hP hS hl => lv_icmp_eq hc.1 hc.2.1 hd ht (fun q => kt q H locs ls hP hS hl) (fun q => kf q H locs ls hP hS hl)
theorem x_icmp_ne (hc : CX w K cc nL own rm) {x y : Int32} {off : Int} (hd : decode cc pc = .ok (.if_icmp .ne off, 3)) (tgt : Nat) (ht : (pc : Int) + off = (tgt : Int)) (kt : x ≠ y → XX w K nL G tgt L st) (kf : x = y → XX w K nL G (pc + 3) L st) : XX w K nL G pc L (.int y :: .int x :: st) := fun H locs ls hP hS hl => lv_icmp_ne hc.1 hc.2.1 hd ht (fun q => kt q H locs ls hP hS hl) (fun q => kf q H locs ls hP hS hl)
theorem x_if_lt (hc : CX w K cc nL own rm) {x : Int32} {off : Int} (hd : decode cc pc = .ok (.ifCond .lt off, 3)) (tgt : Nat) (ht : (pc : Int) + off = (tgt : Int)) (kt : x < 0 → XX w K nL G tgt L st) (kf : ¬ x < 0 → XX w K nL G (pc + 3) L st) : XX w K nL G pc L (.int x :: st) := fun H locs ls hP hS hl => lv_if_lt hc.1 hc.2.1 hd ht (fun q => kt q H locs ls hP hS hl) (fun q => kf q H locs ls hP hS hl)
theorem x_if_ge (hc : CX w K cc nL own rm) {x : Int32} {off : Int} (hd : decode cc pc = .ok (.ifCond .ge off, 3)) (tgt : Nat) (ht : (pc : Int) + off = (tgt : Int)) (kt : 0 ≤ x → XX w K nL G tgt L st) (kf : ¬ 0 ≤ x → XX w K nL G (pc + 3) L st) : XX w K nL G pc L (.int x :: st) := fun H locs ls hP hS hl => lv_if_ge hc.1 hc.2.1 hd ht (fun q => kt q H locs ls hP hS hl) (fun q => kf q H locs ls hP hS hl)
theorem x_if_gt (hc : CX w K cc nL own rm) {x : Int32} {off : Int} (hd : decode cc pc = .ok (.ifCond .gt off, 3)) (tgt : Nat) (ht : (pc : Int) + off = (tgt : Int)) (kt : 0 < x → XX w K nL G tgt L st) (kf : ¬ 0 < x → XX w K nL G (pc + 3) L st) : XX w K nL G pc L (.int x :: st) := fun H locs ls hP hS hl => lv_if_gt hc.1 hc.2.1 hd ht (fun q => kt q H locs ls hP hS hl) (fun q => kf q H locs ls hP hS hl)
theorem x_if_le (hc : CX w K cc nL own rm) {x : Int32} {off : Int} (hd : decode cc pc = .ok (.ifCond .le off, 3)) (tgt : Nat) (ht : (pc : Int) + off = (tgt : Int)) (kt : x ≤ 0 → XX w K nL G tgt L st) (kf : ¬ x ≤ 0 → XX w K nL G (pc + 3) L st) : XX w K nL G pc L (.int x :: st) := fun H locs ls hP hS hl => lv_if_le hc.1 hc.2.1 hd ht (fun q => kt q H locs ls hP hS hl) (fun q => kf q H locs ls hP hS hl)
theorem x_if_eq (hc : CX w K cc nL own rm) {x : Int32} {off : Int} (hd : decode cc pc = .ok (.ifCond .eq off, 3)) (tgt : Nat) (ht : (pc : Int) + off = (tgt : Int)) (kt : x = 0 → XX w K nL G tgt L st) (kf : ¬ x = 0 → XX w K nL G (pc + 3) L st) : XX w K nL G pc L (.int x :: st) := fun H locs ls hP hS hl => lv_if_eq hc.1 hc.2.1 hd ht (fun q => kt q H locs ls hP hS hl) (fun q => kf q H locs ls hP hS hl)
theorem x_if_ne (hc : CX w K cc nL own rm) {x : Int32} {off : Int} (hd : decode cc pc = .ok (.ifCond .ne off, 3)) (tgt : Nat) (ht : (pc : Int) + off = (tgt : Int)) (kt : x ≠ 0 → XX w K nL G tgt L st) (kf : x = 0 → XX w K nL G (pc + 3) L st) : XX w K nL G pc L (.int x :: st) := fun H locs ls hP hS hl => lv_if_ne hc.1 hc.2.1 hd ht (fun q => kt q H locs ls hP hS hl) (fun q => kf q H locs ls hP hS hl)
theorem x_goto (hc : CX w K cc nL own rm) {off : Int} (hd : decode cc pc = .ok (.goto off, 3)) (tgt : Nat) (ht : (pc : Int) + off = (tgt : Int)) (kk : XX w K nL G tgt L st) : XX w K nL G pc L st := fun H locs ls hP hS hl => lv_goto hc.1 hc.2.1 hd ht (kk H locs ls hP hS hl)
theorem x_tableIn (hc : CX w K cc nL own rm) {dflt lo hi : Int} {offs : Array Int} {len : Nat} {x : Int32} {off : Int} (hd : decode cc pc = .ok (.tableswitch dflt lo hi offs, len)) (h1 : ¬ x.toInt < lo) (h2 : ¬ hi < x.toInt) (ho : offs[(x.toInt - lo).toNat]? = some off) (tgt : Nat) (ht : (pc : Int) + off = (tgt : Int)) (kk : XX w K nL G tgt L st) : XX w K nL G pc L (.int x :: st) := fun H locs ls hP hS hl => lv_tableIn hc.1 hc.2.1 hd h1 h2 ho ht (kk H locs ls hP hS hl)
theorem x_tableOut (hc : CX w K cc nL own rm) {dflt lo hi : Int} {offs : Array Int} {len : Nat} {x : Int32} (hd : decode cc pc = .ok (.tableswitch dflt lo hi offs, len)) (h : x.toInt < lo ∨ hi < x.toInt) (tgt : Nat) (ht : (pc : Int) + dflt = (tgt : Int)) (kk : XX w K nL G tgt L st) : XX w K nL G pc L (.int x :: st) := fun H locs ls hP hS hl => lv_tableOut hc.1 hc.2.1 hd h ht (kk H locs ls hP hS hl)
theorem x_lookup (hc : CX w K cc nL own rm) {dflt : Int} {ps : Array (Int × Int)} {len : Nat} {x : Int32} {off : Int} (hd : decode cc pc = .ok (.lookupswitch dflt ps, len)) (hp : (ps.toList.zip (ps.toList.drop 1)).all (fun (a, next) => a.1 < next.1) = true) (ho : Op.lookupswitch.offset ps.toList dflt x.toInt = off) (tgt : Nat) (ht : (pc : Int) + off = (tgt : Int)) (kk : XX w K nL G tgt L st) : XX w K nL G pc L (.int x :: st) := fun H locs ls hP hS hl => lv_lookup hc.1 hc.2.1 hd hp ho ht (kk H locs ls hP hS hl)
theorem x_get (hc : CX w K cc nL own rm) {k ci N index : Nat} {fs : (Nat → Int32) → List Value} {C : String} {T : u_T} {ty : Nat → FieldType} (hk : CF w k ci fs) (hC : KC ci C T N ty) (i : Nat) (hi : i < N) (hlink : Cond.fieldLink own index C (T i).2.1 (T i).2.2.1 ∈ AW) {v : Value} (hv : (fs (G k))[i]? = some v) (hd : decode cc pc = .ok (.getfield index, 3)) (kk : XX w K nL G (pc + 3) L (v :: st)) : XX w K nL G pc L (.ref (w.2.2 k) :: st) := fun H locs ls hP hS hl =>
  va_get (D := w.1) (ci := ci) (C := C) (T := T) (N := N) hc.1 hc.2.1 hc.2.2.2.2.1 hC.2.1 hc.2.2.2.1 hc.2.2.2.2.2.1 hP k (wl_get hk.1 (hk.2 _)) hC.1 i hi (hc.2.2.2.2.1 _ hlink) (fun x h => by rw [hC.2.2.2.2 i hi] at h; exact h) hv hd (kk H locs ls hP hS hl)
theorem x_put (hc : CX w K cc nL own rm) {k ci N index : Nat} {fs : (Nat → Int32) → List Value} {C : String} {T : u_T} {ty : Nat → FieldType} (hk : CF w k ci fs) (hC : KC ci C T N ty) (i : Nat) (hi : i < N) (hlink : Cond.fieldLink own index C (T i).2.1 (T i).2.2.1 ∈ AW) (hfin : (T i).2.2.2 = false) {v : Value} (x : Int32) (hset : fs (upd (G k) i x) = (fs (G k)).set i v) (hl0 : i < (fs (G k)).length) (hn : narrow (ty i) v = v) (hfit : fits (ty i) v = true) (hd : decode cc pc = .ok (.putfield index, 3)) (kk : XX w K nL (up2 G k i x) (pc + 3) L st) : XX w K nL G pc L (v :: .ref (w.2.2 k) :: st) := fun H locs ls hP hS hl =>
  va_put (D := w.1) (ci := ci) (C := C) (T := T) (N := N) (ty := ty i) hc.1 hc.2.1 hc.2.2.2.2.1 hC.2.1 ty hC.2.2.1 hC.2.2.2.1 hc.2.2.2.1 hc.2.2.2.2.2.1 hP (wl_D hc.2.2.2.2.2.2.1 G) hS k (wl_get hk.1 (hk.2 _)) hC.1 i hi (hc.2.2.2.2.1 _ hlink) (fun x h => by rw [hC.2.2.2.2 i hi] at h; exact h) hfin (hC.2.2.1 i hi) hn hfit hl0 hd (fun H1 locs1 hP1 _ hS1 => by
    rw [wl_set (i := i) (x := x) hk.1 (by rw [hk.2, hset])] at hP1
    exact kk H1 locs1 ls hP1 hS1 hl)
theorem x_puti (hc : CX w K cc nL own rm) {k ci N index : Nat} {fs : (Nat → Int32) → List Value} {C : String} {T : u_T} {ty : Nat → FieldType} (hk : CF w k ci fs) (hC : KC ci C T N ty) (i : Nat) (hi : i < N) (hlink : Cond.fieldLink own index C (T i).2.1 (T i).2.2.1 ∈ AW) (hfin : (T i).2.2.2 = false) {x : Int32} (hset : fs (upd (G k) i x) = (fs (G k)).set i (.int x)) (hl0 : i < (fs (G k)).length) (hty : ty i = .int) (hd : decode cc pc = .ok (.putfield index, 3)) (kk : XX w K nL (up2 G k i x) (pc + 3) L st) : XX w K nL G pc L (.int x :: .ref (w.2.2 k) :: st) :=
  x_put hc hk hC i hi hlink hfin x hset hl0 (by rw [hty]; rfl) (by rw [hty]; rfl) hd kk
theorem x_iald (hc : CX w K cc nL own rm) {k n : Nat} (hk : AF w k 0 n) {i : Int32} (hin : vp_in i n) (hd : decode cc pc = .ok (.iaload, 1)) (kk : XX w K nL G (pc + 1) L (.int (G k i.toNatClampNeg) :: st)) : XX w K nL G pc L (.int i :: .ref (w.2.2 k) :: st) := fun H locs ls hP hS hl =>
  va_iald (D := w.1) hc.1 hc.2.1 hc.2.2.2.2.2.1 hP k 0 (wl_get hk.1 (hk.2 _)) rfl hin hd (kk H locs ls hP hS hl)
theorem x_cald (hc : CX w K cc nL own rm) {k n : Nat} (hk : AF w k 1 n) {i : Int32} (hin : vp_in i n) (hd : decode cc pc = .ok (.caload, 1)) (kk : XX w K nL G (pc + 1) L (.int (G k i.toNatClampNeg) :: st)) : XX w K nL G pc L (.int i :: .ref (w.2.2 k) :: st) := fun H locs ls hP hS hl =>
  va_cald (D := w.1) hc.1 hc.2.1 hc.2.2.2.2.2.1 hP k 1 (wl_get hk.1 (hk.2 _)) rfl hin hd (kk H locs ls hP hS hl)
theorem x_iast (hc : CX w K cc nL own rm) {k n : Nat} (hk : AF w k 0 n) {i x : Int32} (hin : vp_in i n) (hd : decode cc pc = .ok (.iastore, 1)) (kk : XX w K nL (up2 G k i.toNatClampNeg x) (pc + 1) L st) : XX w K nL G pc L (.int x :: .int i :: .ref (w.2.2 k) :: st) := fun H locs ls hP hS hl =>
  va_iast (D := w.1) hc.1 hc.2.1 hc.2.2.2.2.2.1 hP (wl_D hc.2.2.2.2.2.2.1 G) hS k 0 (wl_get hk.1 (hk.2 _)) rfl hin hd (fun H1 locs1 hP1 _ hS1 => by
    rw [wl_set (i := i.toNatClampNeg) (x := x) hk.1 (by rw [hk.2]; rfl)] at hP1
    exact kk H1 locs1 ls hP1 hS1 hl)
theorem x_cast (hc : CX w K cc nL own rm) {k n : Nat} (hk : AF w k 1 n) {i x : Int32} (hin : vp_in i n) (hx : vp_nar .char x = x) (hd : decode cc pc = .ok (.castore, 1)) (kk : XX w K nL (up2 G k i.toNatClampNeg x) (pc + 1) L st) : XX w K nL G pc L (.int x :: .int i :: .ref (w.2.2 k) :: st) := fun H locs ls hP hS hl =>
  va_cast (D := w.1) hc.1 hc.2.1 hc.2.2.2.2.2.1 hP (wl_D hc.2.2.2.2.2.2.1 G) hS k 1 (wl_get hk.1 (hk.2 _)) rfl hin hd (fun H1 locs1 hP1 _ hS1 => by
    rw [hx, wl_set (i := i.toNatClampNeg) (x := x) hk.1 (by rw [hk.2]; rfl)] at hP1
    exact kk H1 locs1 ls hP1 hS1 hl)
theorem x_aald (hc : CX w K cc nL own rm) {k t n : Nat} {f : (Nat → Int32) → Nat → Option Nat} {C : String} (hk : RF w k t n f) (ht : (tysW w)[t]? = some (w.2.1 t, .object C)) {i : Int32} (hin : vp_in i n) (q : Nat) (hq : f (G k) i.toNatClampNeg = some (w.2.2 q)) (hd : decode cc pc = .ok (.aaload, 1)) (kk : XX w K nL G (pc + 1) L (.ref (w.2.2 q) :: st)) : XX w K nL G pc L (.int i :: .ref (w.2.2 k) :: st) := fun H locs ls hP hS hl =>
  va_aldq (D := w.1) hc.1 hc.2.1 hc.2.2.2.2.2.1 hP k t (wl_get hk.1 (hk.2 _)) ht hin hd (by rw [hq]; exact kk H locs ls hP hS hl)
theorem x_hast (hc : CX w K cc nL own rm) {b : Nat} {x : Int32} (hb : isB b) (hx : stb x = b) {i : Int32} (hin : vp_in i 4) (hd : decode cc pc = .ok (.aastore, 1)) (kk : XX w K nL (up2 G 3 i.toNatClampNeg x) (pc + 1) L st) : XX w K nL G pc L (.ref (w.2.2 b) :: .int i :: .ref (w.2.2 3) :: st) := fun H locs ls hP hS hl =>
  va_astq (D := w.1) hc.1 hc.2.1 hc.2.2.2.2.2.1 hP (wl_D hc.2.2.2.2.2.2.1 G) hS 3 5 b 3 (r := (RX3, TX3, 13)) (wl_get (rfH (w := w)).1 ((rfH (w := w)).2 _)) rfl (wl_get (cfS (w := w) hb).1 ((cfS hb).2 _)) rfl hin hd (fun H1 locs1 hP1 _ hS1 => by
    rw [wl_set (i := i.toNatClampNeg) (x := x) (rfH (w := w)).1 (by
      rw [(rfH (w := w)).2]
      have e : (fun j => some (w.2.2 (stb (upd (G 3) i.toNatClampNeg x j)))) = va_up (fun j => some (w.2.2 (stb (G 3 j)))) i.toNatClampNeg (some (w.2.2 b)) := by
        funext j
        unfold va_up upd
        by_cases h : j = i.toNatClampNeg
        · rw [if_pos h, if_pos h, hx]
        · rw [if_neg h, if_neg h]
      exact congrArg (fun f => (.inl (w.2.1 5, 4, .inr (.inr (.inr (.inr f)))) : va_E)) e)] at hP1
    exact kk H1 locs1 ls hP1 hS1 hl)
theorem x_max (hc : CX w K cc nL own rm) {index : Nat} (hl1 : Cond.methodLink own index Lib.Math.max.name ∈ AW) (hf : 1 ≤ rm.frames) (hlo : (st.map fun v => v.category).sum + 13 ≤ rm.locals) {x y : Int32} (hd : decode cc pc = .ok (.invokestatic index, 3)) (kk : XX w K nL G (pc + 3) L (.int (if x < y then y else x) :: st)) : XX w K nL G pc L (.int y :: .int x :: st) := fun H locs ls hP hS hl =>
  va_mmax hc.1 hc.2.1 (hc.2.2.1.trans hl.1.symm) hc.2.2.2.1 (hc.2.2.2.2.1 _ hl1) (hc.2.2.2.2.1 _ jm_max.1) (hc.2.2.2.2.1 _ jm_max.2.1) (hc.2.2.2.2.1 _ jm_max.2.2) (by rw [hc.2.2.2.2.2.2.2.2.1]; exact hf) (by rw [hc.2.2.2.2.2.2.2.2.1]; exact hlo) (by rw [hc.2.2.2.2.2.2.2.2.1]; exact hc.2.2.2.2.2.2.2.2.2.1) (by rw [hc.2.2.2.2.2.2.2.2.1]; exact hc.2.2.2.2.2.2.2.2.2.2) hd (kk H locs ls hP hS hl)
theorem x_min (hc : CX w K cc nL own rm) {index : Nat} (hl1 : Cond.methodLink own index Lib.Math.min.name ∈ AW) (hf : 1 ≤ rm.frames) (hlo : (st.map fun v => v.category).sum + 13 ≤ rm.locals) {x y : Int32} (hd : decode cc pc = .ok (.invokestatic index, 3)) (kk : XX w K nL G (pc + 3) L (.int (if y < x then y else x) :: st)) : XX w K nL G pc L (.int y :: .int x :: st) := fun H locs ls hP hS hl =>
  va_mmin hc.1 hc.2.1 (hc.2.2.1.trans hl.1.symm) hc.2.2.2.1 (hc.2.2.2.2.1 _ hl1) (hc.2.2.2.2.1 _ jm_min.1) (hc.2.2.2.2.1 _ jm_min.2.1) (hc.2.2.2.2.1 _ jm_min.2.2) (by rw [hc.2.2.2.2.2.2.2.2.1]; exact hf) (by rw [hc.2.2.2.2.2.2.2.2.1]; exact hlo) (by rw [hc.2.2.2.2.2.2.2.2.1]; exact hc.2.2.2.2.2.2.2.2.2.1) (by rw [hc.2.2.2.2.2.2.2.2.1]; exact hc.2.2.2.2.2.2.2.2.2.2) hd (kk H locs ls hP hS hl)
theorem x_abs (hc : CX w K cc nL own rm) {index : Nat} (hl1 : Cond.methodLink own index Lib.Math.abs.name ∈ AW) (hf : 1 ≤ rm.frames) (hlo : (st.map fun v => v.category).sum + 13 ≤ rm.locals) {x : Int32} (hd : decode cc pc = .ok (.invokestatic index, 3)) (kk : XX w K nL G (pc + 3) L (.int (if 0 ≤ x then x else 0 - x) :: st)) : XX w K nL G pc L (.int x :: st) := fun H locs ls hP hS hl =>
  va_mabs hc.1 hc.2.1 (hc.2.2.1.trans hl.1.symm) hc.2.2.2.1 (hc.2.2.2.2.1 _ hl1) (hc.2.2.2.2.1 _ jm_abs.1) (hc.2.2.2.2.1 _ jm_abs.2.1) (hc.2.2.2.2.1 _ jm_abs.2.2) (by rw [hc.2.2.2.2.2.2.2.2.1]; exact hf) (by rw [hc.2.2.2.2.2.2.2.2.1]; exact hlo) (by rw [hc.2.2.2.2.2.2.2.2.1]; exact hc.2.2.2.2.2.2.2.2.2.1) (by rw [hc.2.2.2.2.2.2.2.2.1]; exact hc.2.2.2.2.2.2.2.2.2.2) hd (kk H locs ls hP hS hl)
/-- System.arraycopy of a whole row of ints into another one -/
theorem x_copy (hc : CX w K cc nL own rm) {index k0 k1 n : Nat} (hl1 : Cond.methodLink own index arraycopyName ∈ AW) (h0 : AF w k0 0 n) (h1 : AF w k1 0 n) {m : Int32} (hm : m.toNatClampNeg = n) (hm0 : ¬ m < 0) (hf : 1 ≤ rm.frames) (hlo : (st.map fun v => v.category).sum + (nativeFrameWords "java/lang/System" "arraycopy" 5 + 11) ≤ rm.locals) (hd : decode cc pc = .ok (.invokestatic index, 3)) (kk : XX w K nL (fun q => if q = k1 then va_cpy (G k0) (G k1) 0 0 n else G q) (pc + 3) L st) : XX w K nL G pc L (.int m :: .int 0 :: .ref (w.2.2 k1) :: .int 0 :: .ref (w.2.2 k0) :: st) := fun H locs ls hP hS hl =>
  va_copyi (D := w.1) (sp := 0) (dp := 0) hc.1 hc.2.1 (hc.2.2.1.trans hl.1.symm) hc.2.2.2.1 (hc.2.2.2.2.1 _ hl1) (hc.2.2.2.2.1 _ jm_copy.1) (hc.2.2.2.2.1 _ jm_copy.2.1) (hc.2.2.2.2.1 _ jm_copy.2.2) hc.2.2.2.2.2.1 hP (wl_D hc.2.2.2.2.2.2.1 G) hS k0 k1 0 0 (ty := .int) (wl_get h0.1 (h0.2 _)) (wl_get h1.1 (h1.2 _)) rfl rfl rfl (by decide) (by decide) hm0 (by rw [hm]; exact Nat.le_of_eq (Nat.zero_add _)) (by rw [hm]; exact Nat.le_of_eq (Nat.zero_add _)) (fun i _ => rfl) (by rw [hc.2.2.2.2.2.2.2.2.1]; exact hf) (by rw [hc.2.2.2.2.2.2.2.2.1]; exact hlo) hd (fun H1 locs1 hP1 _ hS1 => by
    have e : (wl w G).set k1 (w.2.2 k1, .inl (w.2.1 0, n, .inl (va_cpy (G k0) (G k1) (0 : Int32).toNatClampNeg (0 : Int32).toNatClampNeg m.toNatClampNeg))) = wl w (fun q => if q = k1 then va_cpy (G k0) (G k1) 0 0 n else G q) := by
      rw [hm]
      apply List.ext_getElem?
      intro j
      by_cases hj : j < 240
      · by_cases e : j = k1
        · subst e
          rw [List.getElem?_set_self (by rw [wl_len]; exact h1.1), wl_get h1.1 (h1.2 _)]
          simp only [if_pos]
          rfl
        · rw [List.getElem?_set_ne (Ne.symm e), wl_get hj rfl, wl_get hj rfl]
          simp [e]
      · rw [List.getElem?_eq_none (by rw [List.length_set, wl_len]; omega), List.getElem?_eq_none (by rw [wl_len]; omega)]
    rw [e] at hP1
    exact kk H1 locs1 ls hP1 hS1 hl)
end XR
/-! CONTRACTS -/
def xPre (w : WT) (G : GS) (U : State) : Prop := va_P w.1 vwCl (wl w G) U.heap ∧ xK w U ∧ xN U
def Mi (w : WT) (l : Launch) (y : MethodName) (c : ByteArray) (n : Nat) (ret : Option FieldType) (rm : Room) (av : List Value) (G : GS) (post : Int32 → GS → Prop) : Prop :=
  Met l y (ws_ y c n ret) rm (va_Pc av (xPre w G)) (va_Qi post (fun G' t => va_P w.1 vwCl (wl w G') t.heap) (xA w)) 0 0 (xA w)
def Mv (w : WT) (l : Launch) (y : MethodName) (c : ByteArray) (n : Nat) (rm : Room) (av : List Value) (G : GS) (post : GS → Prop) : Prop :=
  Met l y (ws_ y c n none) rm (va_Pc av (xPre w G)) (va_Qv post (fun G' t => va_P w.1 vwCl (wl w G') t.heap) (xA w)) 0 0 (xA w)
def Mr (w : WT) (l : Launch) (y : MethodName) (c : ByteArray) (n : Nat) (ret : Option FieldType) (rm : Room) (av : List Value) (G : GS) (post : Nat → GS → Prop) : Prop :=
  Met l y (ws_ y c n ret) rm (va_Pc av (xPre w G)) (va_Qr (fun u : Nat × GS => post u.1 u.2) (fun u a t => a = w.2.2 u.1 ∧ va_P w.1 vwCl (wl w u.2) t.heap) (xA w)) 0 0 (xA w)
theorem xPre_blind {w : WT} {G : GS} {av : List Value} : FrameBlind (va_Pc av (xPre w G)) := fun a U g mk q => ⟨q.1, q.2.1, va_K.moved (u := U) (U := U.calling g mk a) (Vm.Alike.refl U.vm) q.2.2.1, xN.same rfl q.2.2.2⟩
theorem xPre_at {w : WT} {G : GS} {s : State} {H : Heap} {av : List Value} (hP : va_P w.1 vwCl (wl w G) H) (hK : xK w s) (hN : xN s) : ∀ U : State, U.heap = H → s.WarmedH U.vm → va_Pc av (xPre w G) av.toArray U := fun U hU hW => ⟨rfl, by rw [hU]; exact hP, va_K.moved hW.alike hK, xN.warm hW hN⟩
theorem hml_ {w : WT} {K : KT} {cc : ByteArray} {nL : Nat} {own : String} {rm : Room} (hc : CX w K cc nL own rm) : CallFix (kp K) (km K) (kco K) cc nL (ks K) (ka K) AW own := ⟨hc.1, hc.2.1, hc.2.2.1, hc.2.2.2.1, hc.2.2.2.2.1⟩
section XC
variable {w : WT} {K : KT} {cc : ByteArray} {nL : Nat} {own : String} {rm : Room} {G : GS} {pc : Nat} {L : List (Nat × Value)} {st st0 : List Value}
variable {y : MethodName} {bytes : ByteArray} {maxL n index : Nat} {ret : Option FieldType} {rm' : Room}
theorem cx_room (hc : CX w K cc nL own rm) (hz : rm'.cells = 0) (hs : rm'.slots = 0) (hR : rm'.frames + 1 ≤ rm.frames ∧ 8 + (maxL + 11) + rm'.locals ≤ rm.locals) : rm'.frames + 1 ≤ (kR K).frames ∧ 8 + (maxL + 11) + rm'.locals ≤ (kR K).locals := by rw [hc.2.2.2.2.2.2.2.2.1]; exact hR
theorem cx_fit (hc : CX w K cc nL own rm) : kce K + 0 ≤ (kR K).cells ∧ ksl K + 0 ≤ (kR K).slots := by rw [hc.2.2.2.2.2.2.2.2.1]; exact hc.2.2.2.2.2.2.2.2.2
theorem cx_V (hc : CX w K cc nL own rm) (hv : VW own index y bytes maxL ret n) (hz : rm'.cells = 0) (hs : rm'.slots = 0) (hR : rm'.frames + 1 ≤ rm.frames ∧ 8 + (maxL + 11) + rm'.locals ≤ rm.locals) : CallW (kR K) (ks K) (ka K) own y.cls index y bytes maxL ret (ws_ y bytes maxL ret) rm' 0 0 n :=
  ⟨callB_of n hc.2.2.2.2.1 (ws_good hv.1) rfl hz hs (hc.2.2.2.2.1 _ hv.2.2.2.2.1) (hc.2.2.2.2.1 _ hv.2.1) hv.2.2.2.2.2 (cx_room hc hz hs hR), hc.2.2.2.2.1 _ hv.2.2.1, hc.2.2.2.2.1 _ hv.2.2.2.1⟩
theorem cx_S (hc : CX w K cc nL own rm) (hv : SW own index y bytes maxL ret n) (hz : rm'.cells = 0) (hs : rm'.slots = 0) (hR : rm'.frames + 1 ≤ rm.frames ∧ 8 + (maxL + 11) + rm'.locals ≤ rm.locals) : CallB (kR K) (ks K) (ka K) own index y bytes maxL ret (ws_ y bytes maxL ret) rm' 0 0 n ∧ (Cond.static y).before (ka K) (ks K) = true :=
  ⟨callB_of n hc.2.2.2.2.1 (ws_good hv.1) rfl hz hs (hc.2.2.2.2.1 _ hv.2.2.2.1) (hc.2.2.2.2.1 _ hv.2.1) hv.2.2.2.2 (cx_room hc hz hs hR), hc.2.2.2.2.1 _ hv.2.2.1⟩
theorem cx_N {host : String} (hc : CX w K cc nL own rm) (hv : NW y bytes maxL ret n) (hl : va_Nw (.methodLinkNest own index y host) (ks K)) (hz : rm'.cells = 0) (hs : rm'.slots = 0) (hR : rm'.frames + 1 ≤ rm.frames ∧ 8 + (maxL + 11) + rm'.locals ≤ rm.locals) : va_CN (kR K) (ks K) (ka K) own index y host bytes maxL ret (ws_ y bytes maxL ret) rm' 0 0 n ∧ (Cond.static y).before (ka K) (ks K) = true ∧ True :=
  ⟨va_cnB n hc.2.2.2.2.1 (ws_good hv.1) rfl hz hs hl (hc.2.2.2.2.1 _ hv.2.2.1) hv.2.2.2 (cx_room hc hz hs hR), hc.2.2.2.2.1 _ hv.2.1, trivial⟩
theorem cx_recv (hc : CX w K cc nL own rm) {k ci N : Nat} {fs : (Nat → Int32) → List Value} {C : String} {T : u_T} {ty : Nat → FieldType} (hk : CF w k ci fs) (hC : KC ci C T N ty) {H : Heap} (hP : va_P w.1 vwCl (wl w G) H) : ∃ cell : Cell, H[w.2.2 k]? = some cell ∧ cell.vm.isStatics = false ∧ (ks K).vm.findClass C = some cell.cls :=
  va_recv hc.2.2.2.2.2.1 hP hC.1 (wl_get hk.1 (hk.2 _))
theorem x_callVi (hc : CX w K cc nL own rm) (hv : VW own index y bytes maxL ret n) {k ci N : Nat} {fs : (Nat → Int32) → List Value} {T : u_T} {ty : Nat → FieldType} (hk : CF w k ci fs) (hC : KC ci y.cls T N ty) {post : Int32 → GS → Prop} (As : List Value) (hM : Mi w (kl K) y bytes maxL ret rm' (.ref (w.2.2 k) :: As) G post) (hn : As.length = n) (hst : st0 = As.reverse ++ .ref (w.2.2 k) :: st) (hcat : (st.map fun v => v.category).sum ≤ 8) (hz : rm'.cells = 0) (hs : rm'.slots = 0) (hR : rm'.frames + 1 ≤ rm.frames ∧ 8 + (maxL + 11) + rm'.locals ≤ rm.locals) (hd : decode cc pc = .ok (.invokevirtual index, 3)) (kk : ∀ (r : Int32) (G' : GS), post r G' → XX w K nL G' (pc + 3) L (.int r :: st)) : XX w K nL G pc L st0 := by
  intro H locs ls hP hS hl
  subst hst
  exact va_calli (va_runV (As := As) (rest := st) (hml_ hc) hM (cx_V hc hv hz hs hR) ⟨xPre_blind, cx_recv hc hk hC hP, xPre_at hP hc.2.2.2.2.2.1 hc.2.2.2.2.2.2.2.1⟩ rfl hn hl.1 rfl (lv_room hcat) hd (cx_fit hc)) hS (fun q _ h => h) (fun q h => h) (fun r u t H1 locs ht hvm hw hB hz1 hk1 hS1 => kk r u hw H1 locs ls (by rw [← ht]; exact hB) hS1 hl)
theorem x_callVv (hc : CX w K cc nL own rm) (hv : VW own index y bytes maxL none n) {k ci N : Nat} {fs : (Nat → Int32) → List Value} {T : u_T} {ty : Nat → FieldType} (hk : CF w k ci fs) (hC : KC ci y.cls T N ty) {post : GS → Prop} (As : List Value) (hM : Mv w (kl K) y bytes maxL rm' (.ref (w.2.2 k) :: As) G post) (hn : As.length = n) (hst : st0 = As.reverse ++ .ref (w.2.2 k) :: st) (hcat : (st.map fun v => v.category).sum ≤ 8) (hz : rm'.cells = 0) (hs : rm'.slots = 0) (hR : rm'.frames + 1 ≤ rm.frames ∧ 8 + (maxL + 11) + rm'.locals ≤ rm.locals) (hd : decode cc pc = .ok (.invokevirtual index, 3)) (kk : ∀ (G' : GS), post G' → XX w K nL G' (pc + 3) L st) : XX w K nL G pc L st0 := by
  intro H locs ls hP hS hl
  subst hst
  exact va_callv (va_runV (As := As) (rest := st) (hml_ hc) hM (cx_V hc hv hz hs hR) ⟨xPre_blind, cx_recv hc hk hC hP, xPre_at hP hc.2.2.2.2.2.1 hc.2.2.2.2.2.2.2.1⟩ rfl hn hl.1 rfl (lv_room hcat) hd (cx_fit hc)) hS (fun q _ h => h) (fun q h => h) (fun u t H1 locs ht hvm hw hB hz1 hk1 hS1 => kk u hw H1 locs ls (by rw [← ht]; exact hB) hS1 hl)
theorem x_callVr (hc : CX w K cc nL own rm) (hv : VW own index y bytes maxL ret n) {k ci N : Nat} {fs : (Nat → Int32) → List Value} {T : u_T} {ty : Nat → FieldType} (hk : CF w k ci fs) (hC : KC ci y.cls T N ty) {post : Nat → GS → Prop} (As : List Value) (hM : Mr w (kl K) y bytes maxL ret rm' (.ref (w.2.2 k) :: As) G post) (hn : As.length = n) (hst : st0 = As.reverse ++ .ref (w.2.2 k) :: st) (hcat : (st.map fun v => v.category).sum ≤ 8) (hz : rm'.cells = 0) (hs : rm'.slots = 0) (hR : rm'.frames + 1 ≤ rm.frames ∧ 8 + (maxL + 11) + rm'.locals ≤ rm.locals) (hd : decode cc pc = .ok (.invokevirtual index, 3)) (kk : ∀ (q : Nat) (G' : GS), post q G' → XX w K nL G' (pc + 3) L (.ref (w.2.2 q) :: st)) : XX w K nL G pc L st0 := by
  intro H locs ls hP hS hl
  subst hst
  exact va_callr (va_runV (As := As) (rest := st) (hml_ hc) hM (cx_V hc hv hz hs hR) ⟨xPre_blind, cx_recv hc hk hC hP, xPre_at hP hc.2.2.2.2.2.1 hc.2.2.2.2.2.2.2.1⟩ rfl hn hl.1 rfl (lv_room hcat) hd (cx_fit hc)) hS (fun q _ h => h) (fun q h => h) (fun u ra t H1 locs ht hvm hw hB hz1 hk1 hS1 => by rw [hB.1]; exact kk u.1 u.2 hw H1 locs ls (by rw [← ht]; exact hB.2) hS1 hl)
theorem x_callSi (hc : CX w K cc nL own rm) (hv : SW own index y bytes maxL ret n) {post : Int32 → GS → Prop} (As : List Value) (hM : Mi w (kl K) y bytes maxL ret rm' (As) G post) (hn : As.length = n) (hst : st0 = As.reverse ++ st) (hcat : (st.map fun v => v.category).sum ≤ 8) (hz : rm'.cells = 0) (hs : rm'.slots = 0) (hR : rm'.frames + 1 ≤ rm.frames ∧ 8 + (maxL + 11) + rm'.locals ≤ rm.locals) (hd : decode cc pc = .ok (.invokestatic index, 3)) (kk : ∀ (r : Int32) (G' : GS), post r G' → XX w K nL G' (pc + 3) L (.int r :: st)) : XX w K nL G pc L st0 := by
  intro H locs ls hP hS hl
  subst hst
  exact va_calli (va_runS (As := As) (rest := st) (hml_ hc) hM (cx_S hc hv hz hs hR) ⟨xPre_blind, xPre_at hP hc.2.2.2.2.2.1 hc.2.2.2.2.2.2.2.1⟩ rfl hn hl.1 rfl (lv_room hcat) hd (cx_fit hc)) hS (fun q _ h => h) (fun q h => h) (fun r u t H1 locs ht hvm hw hB hz1 hk1 hS1 => kk r u hw H1 locs ls (by rw [← ht]; exact hB) hS1 hl)
theorem x_callSv (hc : CX w K cc nL own rm) (hv : SW own index y bytes maxL none n) {post : GS → Prop} (As : List Value) (hM : Mv w (kl K) y bytes maxL rm' (As) G post) (hn : As.length = n) (hst : st0 = As.reverse ++ st) (hcat : (st.map fun v => v.category).sum ≤ 8) (hz : rm'.cells = 0) (hs : rm'.slots = 0) (hR : rm'.frames + 1 ≤ rm.frames ∧ 8 + (maxL + 11) + rm'.locals ≤ rm.locals) (hd : decode cc pc = .ok (.invokestatic index, 3)) (kk : ∀ (G' : GS), post G' → XX w K nL G' (pc + 3) L st) : XX w K nL G pc L st0 := by
  intro H locs ls hP hS hl
  subst hst
  exact va_callv (va_runS (As := As) (rest := st) (hml_ hc) hM (cx_S hc hv hz hs hR) ⟨xPre_blind, xPre_at hP hc.2.2.2.2.2.1 hc.2.2.2.2.2.2.2.1⟩ rfl hn hl.1 rfl (lv_room hcat) hd (cx_fit hc)) hS (fun q _ h => h) (fun q h => h) (fun u t H1 locs ht hvm hw hB hz1 hk1 hS1 => kk u hw H1 locs ls (by rw [← ht]; exact hB) hS1 hl)
theorem x_callSr (hc : CX w K cc nL own rm) (hv : SW own index y bytes maxL ret n) {post : Nat → GS → Prop} (As : List Value) (hM : Mr w (kl K) y bytes maxL ret rm' (As) G post) (hn : As.length = n) (hst : st0 = As.reverse ++ st) (hcat : (st.map fun v => v.category).sum ≤ 8) (hz : rm'.cells = 0) (hs : rm'.slots = 0) (hR : rm'.frames + 1 ≤ rm.frames ∧ 8 + (maxL + 11) + rm'.locals ≤ rm.locals) (hd : decode cc pc = .ok (.invokestatic index, 3)) (kk : ∀ (q : Nat) (G' : GS), post q G' → XX w K nL G' (pc + 3) L (.ref (w.2.2 q) :: st)) : XX w K nL G pc L st0 := by
  intro H locs ls hP hS hl
  subst hst
  exact va_callr (va_runS (As := As) (rest := st) (hml_ hc) hM (cx_S hc hv hz hs hR) ⟨xPre_blind, xPre_at hP hc.2.2.2.2.2.1 hc.2.2.2.2.2.2.2.1⟩ rfl hn hl.1 rfl (lv_room hcat) hd (cx_fit hc)) hS (fun q _ h => h) (fun q h => h) (fun u ra t H1 locs ht hvm hw hB hz1 hk1 hS1 => by rw [hB.1]; exact kk u.1 u.2 hw H1 locs ls (by rw [← ht]; exact hB.2) hS1 hl)
theorem x_callNi (hc : CX w K cc nL own rm) {host : String} (hv : NW y bytes maxL ret n) (hnl : va_Nw (.methodLinkNest own index y host) (ks K)) {post : Int32 → GS → Prop} (As : List Value) (hM : Mi w (kl K) y bytes maxL ret rm' (As) G post) (hn : As.length = n) (hst : st0 = As.reverse ++ st) (hcat : (st.map fun v => v.category).sum ≤ 8) (hz : rm'.cells = 0) (hs : rm'.slots = 0) (hR : rm'.frames + 1 ≤ rm.frames ∧ 8 + (maxL + 11) + rm'.locals ≤ rm.locals) (hd : decode cc pc = .ok (.invokestatic index, 3)) (kk : ∀ (r : Int32) (G' : GS), post r G' → XX w K nL G' (pc + 3) L (.int r :: st)) : XX w K nL G pc L st0 := by
  intro H locs ls hP hS hl
  subst hst
  exact va_calli (va_runSN (As := As) (rest := st) (hml_ hc) hM (cx_N hc hv hnl hz hs hR) ⟨xPre_blind, xPre_at hP hc.2.2.2.2.2.1 hc.2.2.2.2.2.2.2.1⟩ rfl hn hl.1 rfl (lv_room hcat) hd (cx_fit hc)) hS (fun q _ h => h) (fun q h => h) (fun r u t H1 locs ht hvm hw hB hz1 hk1 hS1 => kk r u hw H1 locs ls (by rw [← ht]; exact hB) hS1 hl)
theorem x_callNv (hc : CX w K cc nL own rm) {host : String} (hv : NW y bytes maxL none n) (hnl : va_Nw (.methodLinkNest own index y host) (ks K)) {post : GS → Prop} (As : List Value) (hM : Mv w (kl K) y bytes maxL rm' (As) G post) (hn : As.length = n) (hst : st0 = As.reverse ++ st) (hcat : (st.map fun v => v.category).sum ≤ 8) (hz : rm'.cells = 0) (hs : rm'.slots = 0) (hR : rm'.frames + 1 ≤ rm.frames ∧ 8 + (maxL + 11) + rm'.locals ≤ rm.locals) (hd : decode cc pc = .ok (.invokestatic index, 3)) (kk : ∀ (G' : GS), post G' → XX w K nL G' (pc + 3) L st) : XX w K nL G pc L st0 := by
  intro H locs ls hP hS hl
  subst hst
  exact va_callv (va_runSN (As := As) (rest := st) (hml_ hc) hM (cx_N hc hv hnl hz hs hR) ⟨xPre_blind, xPre_at hP hc.2.2.2.2.2.1 hc.2.2.2.2.2.2.2.1⟩ rfl hn hl.1 rfl (lv_room hcat) hd (cx_fit hc)) hS (fun q _ h => h) (fun q h => h) (fun u t H1 locs ht hvm hw hB hz1 hk1 hS1 => kk u hw H1 locs ls (by rw [← ht]; exact hB) hS1 hl)
theorem x_callNr (hc : CX w K cc nL own rm) {host : String} (hv : NW y bytes maxL ret n) (hnl : va_Nw (.methodLinkNest own index y host) (ks K)) {post : Nat → GS → Prop} (As : List Value) (hM : Mr w (kl K) y bytes maxL ret rm' (As) G post) (hn : As.length = n) (hst : st0 = As.reverse ++ st) (hcat : (st.map fun v => v.category).sum ≤ 8) (hz : rm'.cells = 0) (hs : rm'.slots = 0) (hR : rm'.frames + 1 ≤ rm.frames ∧ 8 + (maxL + 11) + rm'.locals ≤ rm.locals) (hd : decode cc pc = .ok (.invokestatic index, 3)) (kk : ∀ (q : Nat) (G' : GS), post q G' → XX w K nL G' (pc + 3) L (.ref (w.2.2 q) :: st)) : XX w K nL G pc L st0 := by
  intro H locs ls hP hS hl
  subst hst
  exact va_callr (va_runSN (As := As) (rest := st) (hml_ hc) hM (cx_N hc hv hnl hz hs hR) ⟨xPre_blind, xPre_at hP hc.2.2.2.2.2.1 hc.2.2.2.2.2.2.2.1⟩ rfl hn hl.1 rfl (lv_room hcat) hd (cx_fit hc)) hS (fun q _ h => h) (fun q h => h) (fun u ra t H1 locs ht hvm hw hB hz1 hk1 hS1 => by rw [hB.1]; exact kk u.1 u.2 hw H1 locs ls (by rw [← ht]; exact hB.2) hS1 hl)
end XC
/-! A METHOD'S CONTRACT OUT OF ITS WALK -/
section XM
variable {w : WT} {l : Launch} {y : MethodName} {c : ByteArray} {n : Nat} {rm : Room} {av : List Value} {L0 : List (Nat × Value)} {G : GS}
theorem mk_i {ty : FieldType} {post : Int32 → GS → Prop} (hI : xI w) (hy : plainName y.cls = true) (hL : lv_args 0 av = L0) (hlen : (lg_sl av).length ≤ n) (hz : ∀ v G', post v G' → narrow ty (.int v) = .int v)
    (body : ∀ K : KT, CX w K c n y.cls rm → (∀ (pc : Nat) (G' : GS) (L : List (Nat × Value)) (v : Int32), decode c pc = .ok (.ireturn, 1) → post v G' → XX w K n G' pc L [.int v]) → XX w K n G 0 L0 []) : Mi w l y c n (some ty) rm av G post := by
  refine Met.ofW (cc := c) (maxL := n) (ret := some ty) hy rfl ?_
  intro p e s m args below meth cd s₁ B hml hv
  obtain ⟨rfl, hP, hK, hN⟩ := hv
  have hts := atoms_spec (ws := ws_ y c n (some ty)) B.pre
  have hc : CX w (p, l, e, (headSpec (ws_ y c n (some ty)) rm).room, s, m, av.toArray, below, meth, cd, 0, 0, MQ below (va_Qi post (fun G' t => va_P w.1 vwCl (wl w G') t.heap) (xA w)) av.toArray s 0 0 (xA w)) c n y.cls rm :=
    ⟨B.exec, B.bytes, hml, findClass_of_methodNamed B.named, fun wd h => hts wd (List.mem_cons_of_mem _ h), hK, hI, hN, rfl, Nat.zero_le _, Nat.zero_le _⟩
  have hb := body _ hc (fun pc G' L v hd hp H locs ls hP' hS' hl' =>
    W.zret (v := v) B.exec B.bytes B.returns (hz v G' hp) (fun t ht hW => ⟨⟨v, G', rfl, hp, by show va_P _ _ _ t.heap; rw [ht]; exact hP'⟩, hS'.F ht⟩) hS'.2.2 hd B.notSynchronized)
  have hl := lv_entry av (n := n) hlen
  rw [lg_entry_eq]
  exact hb s.heap [] _ hP va_S.rf (hL ▸ hl)
theorem mk_v {post : GS → Prop} (hI : xI w) (hy : plainName y.cls = true) (hL : lv_args 0 av = L0) (hlen : (lg_sl av).length ≤ n)
    (body : ∀ K : KT, CX w K c n y.cls rm → (∀ (pc : Nat) (G' : GS) (L : List (Nat × Value)), decode c pc = .ok (.return_, 1) → post G' → XX w K n G' pc L []) → XX w K n G 0 L0 []) : Mv w l y c n rm av G post := by
  refine Met.ofW (cc := c) (maxL := n) (ret := none) hy rfl ?_
  intro p e s m args below meth cd s₁ B hml hv
  obtain ⟨rfl, hP, hK, hN⟩ := hv
  have hts := atoms_spec (ws := ws_ y c n none) B.pre
  have hc : CX w (p, l, e, (headSpec (ws_ y c n none) rm).room, s, m, av.toArray, below, meth, cd, 0, 0, MQ below (va_Qv post (fun G' t => va_P w.1 vwCl (wl w G') t.heap) (xA w)) av.toArray s 0 0 (xA w)) c n y.cls rm :=
    ⟨B.exec, B.bytes, hml, findClass_of_methodNamed B.named, fun wd h => hts wd (List.mem_cons_of_mem _ h), hK, hI, hN, rfl, Nat.zero_le _, Nat.zero_le _⟩
  have hb := body _ hc (fun pc G' L hd hp H locs ls hP' hS' hl' =>
    W.vret B.exec B.bytes B.returns (fun t ht hW => ⟨⟨G', rfl, hp, by show va_P _ _ _ t.heap; rw [ht]; exact hP'⟩, hS'.F ht⟩) hS'.2.2 hd B.notSynchronized)
  have hl := lv_entry av (n := n) hlen
  rw [lg_entry_eq]
  exact hb s.heap [] _ hP va_S.rf (hL ▸ hl)
theorem mk_r {C : String} {post : Nat → GS → Prop} (hI : xI w) (hy : plainName y.cls = true) (hL : lv_args 0 av = L0) (hlen : (lg_sl av).length ≤ n)
    (body : ∀ K : KT, CX w K c n y.cls rm → (∀ (pc : Nat) (G' : GS) (L : List (Nat × Value)) (q : Nat), decode c pc = .ok (.areturn, 1) → post q G' → XX w K n G' pc L [.ref (w.2.2 q)]) → XX w K n G 0 L0 []) : Mr w l y c n (some (.object C)) rm av G post := by
  refine Met.ofW (cc := c) (maxL := n) (ret := some (.object C)) hy rfl ?_
  intro p e s m args below meth cd s₁ B hml hv
  obtain ⟨rfl, hP, hK, hN⟩ := hv
  have hts := atoms_spec (ws := ws_ y c n (some (.object C))) B.pre
  have hc : CX w (p, l, e, (headSpec (ws_ y c n (some (.object C))) rm).room, s, m, av.toArray, below, meth, cd, 0, 0, MQ below (va_Qr (fun u : Nat × GS => post u.1 u.2) (fun u a t => a = w.2.2 u.1 ∧ va_P w.1 vwCl (wl w u.2) t.heap) (xA w)) av.toArray s 0 0 (xA w)) c n y.cls rm :=
    ⟨B.exec, B.bytes, hml, findClass_of_methodNamed B.named, fun wd h => hts wd (List.mem_cons_of_mem _ h), hK, hI, hN, rfl, Nat.zero_le _, Nat.zero_le _⟩
  have hb := body _ hc (fun pc G' L q hd hp H locs ls hP' hS' hl' =>
    W.aret (v := .ref (w.2.2 q)) B.exec B.bytes B.returns (Or.inl ⟨C, rfl⟩) (Or.inr ⟨_, rfl⟩) (fun t ht hW => ⟨⟨(q, G'), w.2.2 q, rfl, hp, rfl, by show va_P _ _ _ t.heap; rw [ht]; exact hP'⟩, hS'.F ht⟩) hS'.2.2 hd B.notSynchronized)
  have hl := lv_entry av (n := n) hlen
  rw [lg_entry_eq]
  exact hb s.heap [] _ hP va_S.rf (hL ▸ hl)
end XM
def b01 (p : Prop) [Decidable p] : Int32 := if p then 1 else 0
theorem nz_b01 (p : Prop) [Decidable p] : narrow .boolean (.int (b01 p)) = .int (b01 p) := by unfold b01; split <;> rfl
theorem nz_b {v : Int32} (h : v = 0 ∨ v = 1) : narrow .boolean (.int v) = .int v := by rcases h with rfl | rfl <;> rfl
theorem isB4 : isB 161 := ⟨4, by omega, rfl⟩
