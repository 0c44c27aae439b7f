def lowV (j : Nat) : Int32 := if j = 0 then 0 else if j = 1 then 0 else if j = 2 then -20 else 1
def highV (j : Nat) : Int32 := if j = 0 then 9 else if j = 1 then 100 else if j = 2 then 20 else 9
/-- the two tables that set reads -/
def xZ (w : WT) (U : State) (H : Heap) : Prop := ∃ z1 z2 : Nat, va_Z RX5 "LOWEST_SETTINGS" "[I" (.ref z1) (xA w) U H ∧ va_T .int z1 4 (fun j => .int (lowV j)) (xA w) U H ∧ va_Z RX5 "HIGHEST_SETTINGS" "[I" (.ref z2) (xA w) U H ∧ va_T .int z2 4 (fun j => .int (highV j)) (xA w) U H
def MiZ (w : WT) (l : Launch) (y : MethodName) (c : ByteArray) (n : Nat) (ret : Option FieldType) (rm : Room) (av : List Value) (G : GS) (post : Int32 → GS → Prop) : Prop :=
  Met l y (ws_ y c n ret) rm (va_Pc av (fun U => xPre w G U ∧ xZ w U U.heap)) (va_Qi post (fun G' t => va_P w.1 vwCl (wl w G') t.heap) (xA w)) 0 0 (xA w)
theorem mk_iZ {w : WT} {l : Launch} {y : MethodName} {c : ByteArray} {n : Nat} {rm : Room} {av : List Value} {G : GS} {L0 : List (Nat × Value)} {ty : FieldType} {post : Int32 → GS → Prop} (hI : xI w) (hy : plainName y.cls = true) (hL : lv_args 0 av = L0) (hlen : (lg_sl av).length ≤ n) (hz : ∀ v G', post v G' → narrow ty (.int v) = .int v)
    (body : ∀ K : KT, CX w K c n y.cls rm → xZ w (ks K) (ks K).heap → (∀ (pc : Nat) (G' : GS) (L : List (Nat × Value)) (v : Int32), decode c pc = .ok (.ireturn, 1) → post v G' → XX w K n G' pc L [.int v]) → XX w K n G 0 L0 []) : MiZ w l y c n (some ty) rm av G post := by
  refine Met.ofW (cc := c) (maxL := n) (ret := some ty) hy rfl ?_
  intro p e s m args below meth cd s₁ B hml hv
  obtain ⟨rfl, ⟨hP, hK, hN⟩, hZ9⟩ := hv
  have hts := atoms_spec (ws := ws_ y c n (some ty)) B.pre
  have hc : CX w (p, l, e, (headSpec (ws_ y c n (some ty)) rm).room, s, m, av.toArray, below, meth, cd, 0, 0, MQ below (va_Qi post (fun G' t => va_P w.1 vwCl (wl w G') t.heap) (xA w)) av.toArray s 0 0 (xA w)) c n y.cls rm :=
    ⟨B.exec, B.bytes, hml, findClass_of_methodNamed B.named, fun wd h => hts wd (List.mem_cons_of_mem _ h), hK, hI, hN, rfl, Nat.zero_le _, Nat.zero_le _⟩
  have hb := body _ hc hZ9 (fun pc G' L v hd hp H locs ls hP' hS' hl' =>
    W.zret (v := v) B.exec B.bytes B.returns (hz v G' hp) (fun t ht hW => ⟨⟨v, G', rfl, hp, by show va_P _ _ _ t.heap; rw [ht]; exact hP'⟩, hS'.F ht⟩) hS'.2.2 hd B.notSynchronized)
  have hl := lv_entry av (n := n) hlen
  rw [lg_entry_eq]
  exact hb s.heap [] _ hP va_S.rf (hL ▸ hl)
theorem x_gets {w : WT} {K : KT} {cc : ByteArray} {nL : Nat} {own : String} {rm : Room} {G : GS} {pc : Nat} {L : List (Nat × Value)} {st : List Value} (hc : CX w K cc nL own rm) {C n d ref : String} {v : Value} {index : Nat} (hZ : va_Z C n d v (xA w) (ks K) (ks K).heap) (hl : Cond.fieldLink own index ref n d ∈ AW) (hsame : ∀ x, (ks K).fieldFound? C n d = some x → (ks K).fieldFound? ref n d = some x) (hd : decode cc pc = .ok (.getstatic index, 3)) (kk : XX w K nL G (pc + 3) L (v :: st)) : XX w K nL G pc L st := fun H locs ls hP hS hl2 =>
  va_gets hc.1 hc.2.1 hZ hS hc.2.2.2.1 (hc.2.2.2.2.1 _ hl) hsame hd (kk H locs ls hP hS hl2)
theorem x_ti {w : WT} {K : KT} {cc : ByteArray} {nL : Nat} {own : String} {rm : Room} {G : GS} {pc : Nat} {L : List (Nat × Value)} {st : List Value} (hc : CX w K cc nL own rm) {t N : Nat} {f : Nat → Value} (hT : va_T .int t N f (xA w) (ks K) (ks K).heap) {i : Int32} (hin : vp_in i N) {v : Value} (hv : f i.toNatClampNeg = v) (hd : decode cc pc = .ok (.iaload, 1)) (kk : XX w K nL G (pc + 1) L (v :: st)) : XX w K nL G pc L (.int i :: .ref t :: st) := fun H locs ls hP hS hl =>
  va_ti hc.1 hc.2.1 hT hS hin hv hd (kk H locs ls hP hS hl)
theorem canSet_eq {i : Nat} (hi : i ≤ 3) (v : Int32) : canSet (nI i) v = inB v (lowV i) (highV i) := by
  rcases (show i = 0 ∨ i = 1 ∨ i = 2 ∨ i = 3 by omega) with rfl | rfl | rfl | rfl
  · unfold canSet; rw [if_pos (by decide)]; rfl
  · unfold canSet; rw [if_neg (by decide), if_pos (by decide)]; rfl
  · unfold canSet; rw [if_neg (by decide), if_neg (by decide), if_pos (by decide)]; rfl
  · unfold canSet; rw [if_neg (by decide), if_neg (by decide), if_neg (by decide), if_pos (by decide)]; rfl
theorem canSet_out {x v : Int32} (h : inB x 0 3 = 0) : canSet x v = 0 := by
  unfold canSet
  rw [if_neg (fun e => by rw [e] at h; exact absurd h (by decide)), if_neg (fun e => by rw [e] at h; exact absurd h (by decide)), if_neg (fun e => by rw [e] at h; exact absurd h (by decide)), if_neg (fun e => by rw [e] at h; exact absurd h (by decide))]
theorem Sim_set {g : GS} {f : Nat → Int32} {i : Nat} {v : Int32} (hS : Sim g f) (hd20 : dN f ≤ 20) (hc5 : cN f ≤ 5) (hi : i ≤ 3) : Sim (up2 g 1 i v) (upd f (303 + i) v) := by
  have hf : ∀ j, j ≠ 303 + i → upd f (303 + i) v j = f j := fun j hj => upd_n _ _ hj
  have hg : ∀ q, q ≠ 1 → up2 g 1 i v q = g q := fun q hq => up2_r _ _ _ hq
  have ec : cN (upd f (303 + i) v) = cN f := by unfold cN; rw [hf 307 (by omega)]
  have hS0 := hS
  obtain ⟨s1, k2, s3, s4, _, _⟩ := hS
  refine Sim_hi hS0 hd20 (fun j hj => hf j (by omega)) (fun q h1 h2 => hg q (by omega)) (fun j hj => ?_) ?_ (fun j hj m hm => ?_) (fun k hk j hj => ?_)
  · by_cases e : j = i
    · subst e; rw [up2_s, upd_s]
    · rw [up2_i _ _ _ _ e, hf _ (by omega)]; exact s1 j hj
  · rw [hg 0 (by omega), hf 307 (by omega), hf 301 (by omega), hf 300 (by omega), hf 353 (by omega), hf 352 (by omega), hf 348 (by omega), hf 349 (by omega), hf 350 (by omega), hf 351 (by omega)]; exact k2
  · rw [ec] at hj
    rw [hg _ (by omega), hf _ (by omega)]; exact s3 j hj m hm
  · rw [hg _ (by omega), hf _ (by omega)]; exact s4 k hk j hj
theorem RV_set {f : Nat → Int32} {B i : Nat} {v : Int32} (hB : B < 2 ^ 31) (hv : RV f B) (hi : i ≤ 3) (h1 : lowV i ≤ v) (h2 : v ≤ highV i) : RV (upd f (303 + i) v) B := by
  have hf : ∀ j, j ≠ 303 + i → upd f (303 + i) v j = f j := fun j hj => upd_n _ _ hj
  obtain ⟨⟨a1, a2⟩, ⟨b1, b2, b3⟩, ⟨c1, c2⟩, ⟨o, ho1, ho2, ho3⟩, hs, hb⟩ := hv
  have hr : ∃ r, r ≤ 9 ∧ upd f (303 + i) v 303 = nI r := by
    by_cases e : i = 0
    · subst e
      rw [show lowV 0 = 0 from rfl, Int32.le_iff_toInt_le, show (0 : Int32).toInt = 0 from rfl] at h1
      rw [show highV 0 = 9 from rfl, Int32.le_iff_toInt_le, show (9 : Int32).toInt = 9 from rfl] at h2
      exact ⟨v.toInt.toNat, by omega, (upd_s _ _ _).trans (i32_nat (by omega))⟩
    · exact ⟨rN f, c1, by rw [hf _ (by omega)]; exact c2⟩
  have hod : ∃ o, 1 ≤ o ∧ o ≤ 9 ∧ upd f (303 + i) v 306 = nI o := by
    by_cases e : i = 3
    · subst e
      rw [show lowV 3 = 1 from rfl, Int32.le_iff_toInt_le, show (1 : Int32).toInt = 1 from rfl] at h1
      rw [show highV 3 = 9 from rfl, Int32.le_iff_toInt_le, show (9 : Int32).toInt = 9 from rfl] at h2
      exact ⟨v.toInt.toNat, by omega, by omega, (upd_s _ _ _).trans (i32_nat (by omega))⟩
    · exact ⟨o, ho1, ho2, by rw [hf _ (by omega)]; exact ho3⟩
  obtain ⟨r, hr1, hr2⟩ := hr
  refine RV_of a1 (by rw [hf 300 (by omega)]; exact a2) b1 hB (by rw [hf 301 (by omega)]; exact b2) (by rw [hf 302 (by omega)]; exact b3) hr1 hr2 hod (rSn_congr (fun j u w => hf j (by omega)) hs) (fun k hk => ?_)
  rw [hf _ (by omega), hf _ (by omega)]
  exact hb k hk
theorem V_set {A : AT} {B : Nat} (hB : B + 7000 < 2 ^ 30) (h : AW2 A B) (x v : Int32) : AW2 (tSet A x v) (B + 7000) := by
  unfold tSet
  by_cases h1 : canSet x v = 0
  · rw [if_pos h1]; exact V_same h
  · rw [if_neg h1]
    split
    · exact V_same h
    · have hx : ¬ inB x 0 3 = 0 := fun e => h1 (canSet_out e)
      obtain ⟨i, hi, rfl⟩ := inB_nat (n := 3) rfl hx
      rw [canSet_eq hi] at h1
      have h2 := b01_f h1
      rw [nI_clamp (by omega)]
      refine V_put h (RV_mono (by omega) (RV_set (by omega) h.1.2.1 hi h2.1 h2.2)) (fun k hk => ?_)
      rw [upd_n _ _ (by omega), upd_n _ _ (by omega)]
      exact h.2.1 k hk
set_option maxHeartbeats 4000000 in
set_option maxRecDepth 100000 in
theorem C_set {w : WT} (hI : xI w) (l : Launch) (G : GS) (x v : Int32) (A : AT) (B : Nat) (hR : RC G A) (hV : AV A B) (hZ : AZ A) (hB : B + 1 < 2 ^ 30) : MiZ w l yX5_set cX5_set 4 (some .int) ⟨4, 0, 0, 95⟩ [.ref (w.2.2 0), .int x, .int v] G (fun v9 G' => v9 = qSet A x v ∧ PCq G G' (tSet A x v)) := by
  refine mk_iZ (L0 := [(0, .ref (w.2.2 0)), (1, .int x), (2, .int v)]) hI (by decide +kernel) rfl (Nat.le_of_ble_eq_true rfl) (fun _ _ _ => rfl) (fun K hc hZ9 hret => ?_)
  obtain ⟨b, eb⟩ : ∃ b, b = stb (G 0 4) := ⟨_, rfl⟩
  obtain ⟨h1, h2, h3, h4, h5, h6, h7, h8⟩ := id hR
  rw [← eb] at h2
  have hb : isB b := by rw [eb]; exact h1.1.2.2.2.2
  have hlb := isB_lt hb
  have hS0 := h2
  obtain ⟨s1, ⟨t4, t5, t6, t7, t8, t9, t10, t11, t12⟩, s3, s4, ⟨y1, y2, y3, y4⟩, so⟩ := h2
  have hRV := hV.2.1
  obtain ⟨⟨d1, d2⟩, ⟨v1, v2, v3⟩, ⟨r1, r2⟩, ho, ⟨c1, c2, c3⟩, hb4⟩ := id hRV
  have hd20 := Nat.le_of_lt d1
  have hn4 := hV.1
  have u4 : G b 4 = nI (cN (aF A)) := t4.trans c2
  have u5 : G b 5 = nI (yN (aF A)) := t5.trans v2
  have u6 : G b 6 = nI (dN (aF A)) := t6.trans d2
  obtain ⟨z1, z2, hz1, ht1, hz2, ht2⟩ := hZ9
  refine x_iload_n (pc := 0) hc dX5_set_0 1 rfl ?_
  refine x_iconst (v := 4) (pc := 1) hc dX5_set_1 (by decide) ?_
  refine x_callSi (pc := 2) hc cl_X5_76 [.int x, .int 4] (m_X5_isIndex hI (kl K) G x 4) rfl rfl (by simp [Value.category]) rfl rfl ⟨by decide, by decide⟩ dX5_set_2 (fun r2 Gc2 q2 => ?_)
  obtain ⟨er2, eGc2⟩ := q2
  rw [eGc2]
  subst er2
  refine x_as (inB x 0 3) (ix_b _ rfl) ?_
  refine x_if_eq (pc := 5) hc dX5_set_5 26 (by decide) (fun c5 => ?_) (fun c5 => ?_)
  · refine x_bipush (v := (-2)) (pc := 26) hc dX5_set_26 (by decide) ?_
    exact hret _ _ _ _ dX5_set_28 ⟨(by
        unfold qSet
        rw [if_pos (canSet_out c5)]
        all_goals rfl), (by
        unfold tSet
        rw [if_pos (canSet_out c5)]
        exact PC_same hR)⟩
  · obtain ⟨i, hi, rfl⟩ := inB_nat (n := 3) rfl c5
    have zi : (nI i).toNatClampNeg = i := nI_clamp (by omega)
    refine x_iload_n (pc := 8) hc dX5_set_8 2 rfl ?_
    refine x_gets (pc := 9) hc hz1 fl_X5_116 (fun _ h => h) dX5_set_9 ?_
    refine x_iload_n (pc := 12) hc dX5_set_12 1 rfl ?_
    refine x_ti (pc := 13) hc ht1 (vp_in_nI (by omega) (by decide)) (v := .int (lowV i)) (by rw [nI_clamp (by omega)]) dX5_set_13 ?_
    refine x_icmp_lt (pc := 14) hc dX5_set_14 26 (by decide) (fun c14 => ?_) (fun c14 => ?_)
    · refine x_bipush (v := (-2)) (pc := 26) hc dX5_set_26 (by decide) ?_
      exact hret _ _ _ _ dX5_set_28 ⟨(by
          unfold qSet
          rw [if_pos (by rw [canSet_eq hi]; exact b01_neg (fun z => absurd z.1 (Int32.not_le.mpr c14)))]
          all_goals rfl), (by
          unfold tSet
          rw [if_pos (by rw [canSet_eq hi]; exact b01_neg (fun z => absurd z.1 (Int32.not_le.mpr c14)))]
          exact PC_same hR)⟩
    · refine x_iload_n (pc := 17) hc dX5_set_17 2 rfl ?_
      refine x_gets (pc := 18) hc hz2 fl_X5_119 (fun _ h => h) dX5_set_18 ?_
      refine x_iload_n (pc := 21) hc dX5_set_21 1 rfl ?_
      refine x_ti (pc := 22) hc ht2 (vp_in_nI (by omega) (by decide)) (v := .int (highV i)) (by rw [nI_clamp (by omega)]) dX5_set_22 ?_
      refine x_icmp_le (pc := 23) hc dX5_set_23 29 (by decide) (fun c23 => ?_) (fun c23 => ?_)
      · refine x_aload_n (pc := 29) hc dX5_set_29 0 rfl ?_
        refine x_get (pc := 30) hc cfM kcX5 4 (by decide) fl_X5_31 rfl dX5_set_30 ?_
        refine x_ar b eb.symm ?_
        refine x_get (pc := 33) hc (cfS hb) kcX3 0 (by decide) fl_X5_122 rfl dX5_set_33 ?_
        refine x_iload_n (pc := 36) hc dX5_set_36 1 rfl ?_
        refine x_iald (pc := 37) hc (afS hb) (vp_in_nI (by omega) (by decide)) dX5_set_37 ?_
        refine x_as (G (b + 1) i) (congrArg _ (nI_clamp (by omega))) ?_
        refine x_as (aF A (303 + i)) (s1 i (by omega)) ?_
        refine x_nm (fun x38 ex38 => ?_)
        refine x_istore_n (pc := 38) (L' := [(3, .int x38), (0, .ref (w.2.2 0)), (1, .int (nI i)), (2, .int v)]) hc dX5_set_38 (by decide) rfl ?_
        refine x_iload_n (pc := 39) hc dX5_set_39 0 rfl ?_
        refine x_iload_n (pc := 40) hc dX5_set_40 3 rfl ?_
        refine x_icmp_ne (pc := 41) hc dX5_set_41 47 (by decide) (fun c41 => ?_) (fun c41 => ?_)
        · refine x_aload_n (pc := 47) hc dX5_set_47 1 rfl ?_
          refine x_callVv (pc := 48) hc cl_X5_46 cfM kcX5 [] (m_X5_remember hI (kl K) G A B hR hV) rfl rfl (by simp [Value.category]) rfl rfl ⟨by decide, by decide⟩ dX5_set_48 (fun Gc48 q48 => ?_)
          obtain ⟨gR, gU, gn, gN⟩ := q48
          have hg0 : Sim (gv Gc48 b) (aF A) := by
            have q := gR.2.1
            rw [gn, ← eb] at q
            exact q
          refine x_G (gc_0 Gc48 b).symm ?_
          refine x_fn (fun z => GC Gc48 b z) (fun g eg => ?_)
          have hg : Sim g (aF A) := by
            rw [eg]
            exact hg0
          refine x_aload_n (pc := 51) hc dX5_set_51 1 rfl ?_
          refine x_get (pc := 52) hc cfM kcX5 4 (by decide) fl_X5_31 rfl dX5_set_52 ?_
          refine x_ar b (by rw [gc_out _ _ _ (by omega), gn, eb]) ?_
          refine x_get (pc := 55) hc (cfS hb) kcX3 0 (by decide) fl_X5_122 rfl dX5_set_55 ?_
          refine x_iload_n (pc := 58) hc dX5_set_58 2 rfl ?_
          refine x_iload_n (pc := 59) hc dX5_set_59 3 rfl ?_
          refine x_iast (pc := 60) hc (afS hb) (vp_in_nI (by omega) (by decide)) dX5_set_60 ?_
          refine x_G (gc_st (c := 1) (by omega) (by omega) (by omega)) ?_
          refine x_fn (fun z => GC Gc48 b z) (fun g1 eg1 => ?_)
          refine x_iload_n (pc := 61) hc dX5_set_61 0 rfl ?_
          refine x_sipush (v := 1000) (pc := 62) hc dX5_set_62 (by decide) ?_
          refine x_iadd (pc := 65) hc dX5_set_65 ?_
          exact hret _ _ _ _ dX5_set_66 ⟨(by
              subst ex38
              unfold qSet
              rw [if_neg (by rw [canSet_eq hi, show inB v (lowV i) (highV i) = 1 from b01_pos ⟨Int32.not_lt.mp c14, c23⟩]; decide), zi, if_neg (c41)]
              all_goals rfl), (by
              subst ex38
              unfold tSet
              rw [if_neg (by rw [canSet_eq hi, show inB v (lowV i) (highV i) = 1 from b01_pos ⟨Int32.not_lt.mp c14, c23⟩]; decide), zi, if_neg (c41)]
              exact (by rw [eg1]; exact PC_put eb gR gn gU hV (RV_set (by omega) hRV hi (Int32.not_lt.mp c14) c23) (Sim_set hg hd20 c1 hi)))⟩
        · refine x_bipush (v := (-5)) (pc := 44) hc dX5_set_44 (by decide) ?_
          exact hret _ _ _ _ dX5_set_46 ⟨(by
              subst ex38
              unfold qSet
              rw [if_neg (by rw [canSet_eq hi, show inB v (lowV i) (highV i) = 1 from b01_pos ⟨Int32.not_lt.mp c14, c23⟩]; decide), zi, if_pos (c41)]
              all_goals rfl), (by
              subst ex38
              unfold tSet
              rw [if_neg (by rw [canSet_eq hi, show inB v (lowV i) (highV i) = 1 from b01_pos ⟨Int32.not_lt.mp c14, c23⟩]; decide), zi, if_pos (c41)]
              exact PC_same hR)⟩
      · refine x_bipush (v := (-2)) (pc := 26) hc dX5_set_26 (by decide) ?_
        exact hret _ _ _ _ dX5_set_28 ⟨(by
            unfold qSet
            rw [if_pos (by rw [canSet_eq hi]; exact b01_neg (fun z => c23 z.2))]
            all_goals rfl), (by
            unfold tSet
            rw [if_pos (by rw [canSet_eq hi]; exact b01_neg (fun z => c23 z.2))]
            exact PC_same hR)⟩
