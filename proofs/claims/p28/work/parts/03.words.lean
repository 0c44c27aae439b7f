def AW : List Cond := lw_tbl.filter goodWord
theorem aw_mem {w : Cond} (i : Nat) (h : lw_tbl[i]? = some w ∧ goodWord w = true) : w ∈ AW := List.mem_filter.mpr ⟨List.mem_of_getElem? h.1, h.2⟩
theorem aw_tbl {w : Cond} (h : w ∈ AW) : w ∈ lw_tbl := (List.mem_filter.mp h).1
theorem aw_good {w : Cond} (h : w ∈ AW) : goodWord w = true := (List.mem_filter.mp h).2
def ws_ (y : MethodName) (c : ByteArray) (n : Nat) (ret : Option FieldType) : List Cond := .code y c n ret :: AW
theorem ws_good {y : MethodName} {c : ByteArray} {n : Nat} {ret : Option FieldType} (h : Cond.code y c n ret ∈ AW) : GoodIn AW (ws_ y c n ret) := by
  intro w hw
  rcases List.mem_cons.mp hw with rfl | hw
  · exact ⟨h, good_of_word (aw_good h)⟩
  · exact ⟨hw, good_of_word (aw_good hw)⟩
def yW (y : MethodName) (n : Nat) : Prop := y.cls ≠ "java/lang/invoke/MethodHandle" ∧ y.cls ≠ "java/lang/invoke/VarHandle" ∧ (parseMethodDescriptor y.desc).map (fun d => d.parameters.length) = some n
/-- a call's words: of an instance's method, of a static one, of a nest mate's static one, of a constructor, of a nest mate's constructor -/
def VW (own : String) (idx : Nat) (y : MethodName) (c : ByteArray) (n : Nat) (ret : Option FieldType) (k : Nat) : Prop := Cond.code y c n ret ∈ AW ∧ Cond.methodLink own idx y ∈ AW ∧ Cond.instanceMethod y ∈ AW ∧ Cond.selects y.cls y y ∈ AW ∧ Cond.initialized y.cls ∈ AW ∧ yW y k
def SW (own : String) (idx : Nat) (y : MethodName) (c : ByteArray) (n : Nat) (ret : Option FieldType) (k : Nat) : Prop := Cond.code y c n ret ∈ AW ∧ Cond.methodLink own idx y ∈ AW ∧ Cond.static y ∈ AW ∧ Cond.initialized y.cls ∈ AW ∧ yW y k
def NW (y : MethodName) (c : ByteArray) (n : Nat) (ret : Option FieldType) (k : Nat) : Prop := Cond.code y c n ret ∈ AW ∧ Cond.static y ∈ AW ∧ Cond.initialized y.cls ∈ AW ∧ yW y k
def IW (own : String) (idx : Nat) (y : MethodName) (c : ByteArray) (n : Nat) (k : Nat) : Prop := Cond.code y c n none ∈ AW ∧ Cond.methodLink own idx y ∈ AW ∧ Cond.instanceMethod y ∈ AW ∧ Cond.initialized y.cls ∈ AW ∧ yW y k
def JW (y : MethodName) (c : ByteArray) (n : Nat) (k : Nat) : Prop := Cond.code y c n none ∈ AW ∧ Cond.instanceMethod y ∈ AW ∧ Cond.initialized y.cls ∈ AW ∧ yW y k
theorem uw_X0 : ∀ w ∈ u_ws RX0 TX0 6, w ∈ AW := by
  intro w hw
  obtain ⟨k, hk, rfl⟩ := List.mem_map.mp hw
  have hk := List.mem_range.mp hk
  rcases (show k = 0 ∨ k = 1 ∨ k = 2 ∨ k = 3 ∨ k = 4 ∨ k = 5 by omega) with rfl | rfl | rfl | rfl | rfl | rfl
  · exact aw_mem 41 (by decide +kernel)
  · exact aw_mem 43 (by decide +kernel)
  · exact aw_mem 45 (by decide +kernel)
  · exact aw_mem 47 (by decide +kernel)
  · exact aw_mem 49 (by decide +kernel)
  · exact aw_mem 51 (by decide +kernel)
theorem uw_X1 : ∀ w ∈ u_ws RX1 TX1 5, w ∈ AW := by
  intro w hw
  obtain ⟨k, hk, rfl⟩ := List.mem_map.mp hw
  have hk := List.mem_range.mp hk
  rcases (show k = 0 ∨ k = 1 ∨ k = 2 ∨ k = 3 ∨ k = 4 by omega) with rfl | rfl | rfl | rfl | rfl
  · exact aw_mem 148 (by decide +kernel)
  · exact aw_mem 150 (by decide +kernel)
  · exact aw_mem 152 (by decide +kernel)
  · exact aw_mem 154 (by decide +kernel)
  · exact aw_mem 156 (by decide +kernel)
theorem uw_X2 : ∀ w ∈ u_ws RX2 TX2 4, w ∈ AW := by
  intro w hw
  obtain ⟨k, hk, rfl⟩ := List.mem_map.mp hw
  have hk := List.mem_range.mp hk
  rcases (show k = 0 ∨ k = 1 ∨ k = 2 ∨ k = 3 by omega) with rfl | rfl | rfl | rfl
  · exact aw_mem 118 (by decide +kernel)
  · exact aw_mem 120 (by decide +kernel)
  · exact aw_mem 122 (by decide +kernel)
  · exact aw_mem 124 (by decide +kernel)
theorem uw_X3 : ∀ w ∈ u_ws RX3 TX3 13, w ∈ AW := by
  intro w hw
  obtain ⟨k, hk, rfl⟩ := List.mem_map.mp hw
  have hk := List.mem_range.mp hk
  rcases (show k = 0 ∨ k = 1 ∨ k = 2 ∨ k = 3 ∨ k = 4 ∨ k = 5 ∨ k = 6 ∨ k = 7 ∨ k = 8 ∨ k = 9 ∨ k = 10 ∨ k = 11 ∨ k = 12 by omega) with rfl | rfl | rfl | rfl | rfl | rfl | rfl | rfl | rfl | rfl | rfl | rfl | rfl
  · exact aw_mem 184 (by decide +kernel)
  · exact aw_mem 186 (by decide +kernel)
  · exact aw_mem 188 (by decide +kernel)
  · exact aw_mem 190 (by decide +kernel)
  · exact aw_mem 192 (by decide +kernel)
  · exact aw_mem 194 (by decide +kernel)
  · exact aw_mem 196 (by decide +kernel)
  · exact aw_mem 198 (by decide +kernel)
  · exact aw_mem 200 (by decide +kernel)
  · exact aw_mem 202 (by decide +kernel)
  · exact aw_mem 204 (by decide +kernel)
  · exact aw_mem 206 (by decide +kernel)
  · exact aw_mem 208 (by decide +kernel)
theorem uw_X4 : ∀ w ∈ u_ws RX4 TX4 5, w ∈ AW := by
  intro w hw
  obtain ⟨k, hk, rfl⟩ := List.mem_map.mp hw
  have hk := List.mem_range.mp hk
  rcases (show k = 0 ∨ k = 1 ∨ k = 2 ∨ k = 3 ∨ k = 4 by omega) with rfl | rfl | rfl | rfl | rfl
  · exact aw_mem 88 (by decide +kernel)
  · exact aw_mem 90 (by decide +kernel)
  · exact aw_mem 92 (by decide +kernel)
  · exact aw_mem 94 (by decide +kernel)
  · exact aw_mem 96 (by decide +kernel)
theorem uw_X5 : ∀ w ∈ u_ws RX5 TX5 7, w ∈ AW := by
  intro w hw
  obtain ⟨k, hk, rfl⟩ := List.mem_map.mp hw
  have hk := List.mem_range.mp hk
  rcases (show k = 0 ∨ k = 1 ∨ k = 2 ∨ k = 3 ∨ k = 4 ∨ k = 5 ∨ k = 6 by omega) with rfl | rfl | rfl | rfl | rfl | rfl | rfl
  · exact aw_mem 218 (by decide +kernel)
  · exact aw_mem 220 (by decide +kernel)
  · exact aw_mem 222 (by decide +kernel)
  · exact aw_mem 224 (by decide +kernel)
  · exact aw_mem 226 (by decide +kernel)
  · exact aw_mem 228 (by decide +kernel)
  · exact aw_mem 230 (by decide +kernel)
theorem in_L : Cond.initialized RL ∈ AW := aw_mem 9 (by decide +kernel)
theorem in_X5 : Cond.initialized RX5 ∈ AW := aw_mem 10 (by decide +kernel)
theorem in_X0 : Cond.initialized RX0 ∈ AW := aw_mem 11 (by decide +kernel)
theorem in_X3 : Cond.initialized RX3 ∈ AW := aw_mem 12 (by decide +kernel)
theorem in_J10 : Cond.initialized RJ10 ∈ AW := aw_mem 13 (by decide +kernel)
theorem in_X4 : Cond.initialized RX4 ∈ AW := aw_mem 14 (by decide +kernel)
theorem in_X2 : Cond.initialized RX2 ∈ AW := aw_mem 15 (by decide +kernel)
theorem in_X1 : Cond.initialized RX1 ∈ AW := aw_mem 16 (by decide +kernel)
theorem in_J9 : Cond.initialized RJ9 ∈ AW := aw_mem 17 (by decide +kernel)
theorem kl_L_9 : Cond.classLink RL 9 RX5 ∈ AW := aw_mem 18 (by decide +kernel)
theorem ib_X5 : Cond.instantiable RX5 7 ∈ AW := aw_mem 19 (by decide +kernel)
theorem kl_X5_9 : Cond.classLink RX5 9 RX0 ∈ AW := aw_mem 26 (by decide +kernel)
theorem ib_X0 : Cond.instantiable RX0 6 ∈ AW := aw_mem 27 (by decide +kernel)
theorem ar_char : Cond.arrayClass .char ∈ AW := aw_mem 54 (by decide +kernel)
theorem kl_X5_16 : Cond.classLink RX5 16 RX3 ∈ AW := aw_mem 55 (by decide +kernel)
theorem ib_X3 : Cond.instantiable RX3 13 ∈ AW := aw_mem 57 (by decide +kernel)
theorem kl_X3_24 : Cond.classLink RX3 24 RX4 ∈ AW := aw_mem 67 (by decide +kernel)
theorem ib_X4 : Cond.instantiable RX4 5 ∈ AW := aw_mem 69 (by decide +kernel)
theorem ar_int : Cond.arrayClass .int ∈ AW := aw_mem 99 (by decide +kernel)
theorem kl_X3_31 : Cond.classLink RX3 31 RX2 ∈ AW := aw_mem 100 (by decide +kernel)
theorem ib_X2 : Cond.instantiable RX2 4 ∈ AW := aw_mem 102 (by decide +kernel)
theorem kl_X3_38 : Cond.classLink RX3 38 RX1 ∈ AW := aw_mem 127 (by decide +kernel)
theorem ib_X1 : Cond.instantiable RX1 5 ∈ AW := aw_mem 129 (by decide +kernel)
theorem kc_X5_209 : Cond.constant RX5 209 100000 ∈ AW := aw_mem 414 (by decide +kernel)
theorem kc_L_7 : Cond.constant RL 7 2147483647 ∈ AW := aw_mem 440 (by decide +kernel)
theorem fl_X0_9 : Cond.fieldLink RX0 9 RX0 (TX0 0).2.1 (TX0 0).2.2.1 ∈ AW := aw_mem 32 (by decide +kernel)
theorem fl_X0_15 : Cond.fieldLink RX0 15 RX0 (TX0 1).2.1 (TX0 1).2.2.1 ∈ AW := aw_mem 33 (by decide +kernel)
theorem fl_X5_143 : Cond.fieldLink RX5 143 RX0 (TX0 1).2.1 (TX0 1).2.2.1 ∈ AW := aw_mem 34 (by decide +kernel)
theorem fl_X0_19 : Cond.fieldLink RX0 19 RX0 (TX0 2).2.1 (TX0 2).2.2.1 ∈ AW := aw_mem 35 (by decide +kernel)
theorem fl_X0_40 : Cond.fieldLink RX0 40 RX0 (TX0 3).2.1 (TX0 3).2.2.1 ∈ AW := aw_mem 36 (by decide +kernel)
theorem fl_X5_70 : Cond.fieldLink RX5 70 RX0 (TX0 4).2.1 (TX0 4).2.2.1 ∈ AW := aw_mem 37 (by decide +kernel)
theorem fl_X0_43 : Cond.fieldLink RX0 43 RX0 (TX0 4).2.1 (TX0 4).2.2.1 ∈ AW := aw_mem 38 (by decide +kernel)
theorem fl_X5_67 : Cond.fieldLink RX5 67 RX0 (TX0 5).2.1 (TX0 5).2.2.1 ∈ AW := aw_mem 39 (by decide +kernel)
theorem fl_X0_46 : Cond.fieldLink RX0 46 RX0 (TX0 5).2.1 (TX0 5).2.2.1 ∈ AW := aw_mem 40 (by decide +kernel)
theorem fl_X4_9 : Cond.fieldLink RX4 9 RX4 (TX4 0).2.1 (TX4 0).2.2.1 ∈ AW := aw_mem 74 (by decide +kernel)
theorem fl_X5_86 : Cond.fieldLink RX5 86 RX4 (TX4 0).2.1 (TX4 0).2.2.1 ∈ AW := aw_mem 75 (by decide +kernel)
theorem fl_X3_106 : Cond.fieldLink RX3 106 RX4 (TX4 0).2.1 (TX4 0).2.2.1 ∈ AW := aw_mem 76 (by decide +kernel)
theorem fl_X4_15 : Cond.fieldLink RX4 15 RX4 (TX4 1).2.1 (TX4 1).2.2.1 ∈ AW := aw_mem 77 (by decide +kernel)
theorem fl_X3_103 : Cond.fieldLink RX3 103 RX4 (TX4 1).2.1 (TX4 1).2.2.1 ∈ AW := aw_mem 78 (by decide +kernel)
theorem fl_X4_18 : Cond.fieldLink RX4 18 RX4 (TX4 2).2.1 (TX4 2).2.2.1 ∈ AW := aw_mem 79 (by decide +kernel)
theorem fl_X3_97 : Cond.fieldLink RX3 97 RX4 (TX4 2).2.1 (TX4 2).2.2.1 ∈ AW := aw_mem 80 (by decide +kernel)
theorem fl_X5_155 : Cond.fieldLink RX5 155 RX4 (TX4 2).2.1 (TX4 2).2.2.1 ∈ AW := aw_mem 81 (by decide +kernel)
theorem fl_X4_21 : Cond.fieldLink RX4 21 RX4 (TX4 3).2.1 (TX4 3).2.2.1 ∈ AW := aw_mem 82 (by decide +kernel)
theorem fl_X3_127 : Cond.fieldLink RX3 127 RX4 (TX4 3).2.1 (TX4 3).2.2.1 ∈ AW := aw_mem 83 (by decide +kernel)
theorem fl_X5_158 : Cond.fieldLink RX5 158 RX4 (TX4 3).2.1 (TX4 3).2.2.1 ∈ AW := aw_mem 84 (by decide +kernel)
theorem fl_X4_24 : Cond.fieldLink RX4 24 RX4 (TX4 4).2.1 (TX4 4).2.2.1 ∈ AW := aw_mem 85 (by decide +kernel)
theorem fl_X3_130 : Cond.fieldLink RX3 130 RX4 (TX4 4).2.1 (TX4 4).2.2.1 ∈ AW := aw_mem 86 (by decide +kernel)
theorem fl_X5_205 : Cond.fieldLink RX5 205 RX4 (TX4 4).2.1 (TX4 4).2.2.1 ∈ AW := aw_mem 87 (by decide +kernel)
theorem fl_X2_7 : Cond.fieldLink RX2 7 RX2 (TX2 0).2.1 (TX2 0).2.2.1 ∈ AW := aw_mem 107 (by decide +kernel)
theorem fl_X5_98 : Cond.fieldLink RX5 98 RX2 (TX2 0).2.1 (TX2 0).2.2.1 ∈ AW := aw_mem 108 (by decide +kernel)
theorem fl_X3_90 : Cond.fieldLink RX3 90 RX2 (TX2 0).2.1 (TX2 0).2.2.1 ∈ AW := aw_mem 109 (by decide +kernel)
theorem fl_X2_13 : Cond.fieldLink RX2 13 RX2 (TX2 1).2.1 (TX2 1).2.2.1 ∈ AW := aw_mem 110 (by decide +kernel)
theorem fl_X5_103 : Cond.fieldLink RX5 103 RX2 (TX2 1).2.1 (TX2 1).2.2.1 ∈ AW := aw_mem 111 (by decide +kernel)
theorem fl_X3_100 : Cond.fieldLink RX3 100 RX2 (TX2 1).2.1 (TX2 1).2.2.1 ∈ AW := aw_mem 112 (by decide +kernel)
theorem fl_X2_16 : Cond.fieldLink RX2 16 RX2 (TX2 2).2.1 (TX2 2).2.2.1 ∈ AW := aw_mem 113 (by decide +kernel)
theorem fl_X5_106 : Cond.fieldLink RX5 106 RX2 (TX2 2).2.1 (TX2 2).2.2.1 ∈ AW := aw_mem 114 (by decide +kernel)
theorem fl_X3_117 : Cond.fieldLink RX3 117 RX2 (TX2 2).2.1 (TX2 2).2.2.1 ∈ AW := aw_mem 115 (by decide +kernel)
theorem fl_X2_19 : Cond.fieldLink RX2 19 RX2 (TX2 3).2.1 (TX2 3).2.2.1 ∈ AW := aw_mem 116 (by decide +kernel)
theorem fl_X5_109 : Cond.fieldLink RX5 109 RX2 (TX2 3).2.1 (TX2 3).2.2.1 ∈ AW := aw_mem 117 (by decide +kernel)
theorem fl_X3_45 : Cond.fieldLink RX3 45 RX1 (TX1 0).2.1 (TX1 0).2.2.1 ∈ AW := aw_mem 134 (by decide +kernel)
theorem fl_X1_7 : Cond.fieldLink RX1 7 RX1 (TX1 0).2.1 (TX1 0).2.2.1 ∈ AW := aw_mem 135 (by decide +kernel)
theorem fl_X5_134 : Cond.fieldLink RX5 134 RX1 (TX1 0).2.1 (TX1 0).2.2.1 ∈ AW := aw_mem 136 (by decide +kernel)
theorem fl_X1_13 : Cond.fieldLink RX1 13 RX1 (TX1 1).2.1 (TX1 1).2.2.1 ∈ AW := aw_mem 137 (by decide +kernel)
theorem fl_X5_129 : Cond.fieldLink RX5 129 RX1 (TX1 1).2.1 (TX1 1).2.2.1 ∈ AW := aw_mem 138 (by decide +kernel)
theorem fl_X3_150 : Cond.fieldLink RX3 150 RX1 (TX1 1).2.1 (TX1 1).2.2.1 ∈ AW := aw_mem 139 (by decide +kernel)
theorem fl_X1_16 : Cond.fieldLink RX1 16 RX1 (TX1 2).2.1 (TX1 2).2.2.1 ∈ AW := aw_mem 140 (by decide +kernel)
theorem fl_X5_137 : Cond.fieldLink RX5 137 RX1 (TX1 2).2.1 (TX1 2).2.2.1 ∈ AW := aw_mem 141 (by decide +kernel)
theorem fl_X1_20 : Cond.fieldLink RX1 20 RX1 (TX1 3).2.1 (TX1 3).2.2.1 ∈ AW := aw_mem 142 (by decide +kernel)
theorem fl_X3_157 : Cond.fieldLink RX3 157 RX1 (TX1 3).2.1 (TX1 3).2.2.1 ∈ AW := aw_mem 143 (by decide +kernel)
theorem fl_X5_187 : Cond.fieldLink RX5 187 RX1 (TX1 3).2.1 (TX1 3).2.2.1 ∈ AW := aw_mem 144 (by decide +kernel)
theorem fl_X1_23 : Cond.fieldLink RX1 23 RX1 (TX1 4).2.1 (TX1 4).2.2.1 ∈ AW := aw_mem 145 (by decide +kernel)
theorem fl_X3_160 : Cond.fieldLink RX3 160 RX1 (TX1 4).2.1 (TX1 4).2.2.1 ∈ AW := aw_mem 146 (by decide +kernel)
theorem fl_X5_190 : Cond.fieldLink RX5 190 RX1 (TX1 4).2.1 (TX1 4).2.2.1 ∈ AW := aw_mem 147 (by decide +kernel)
theorem fl_X3_9 : Cond.fieldLink RX3 9 RX3 (TX3 0).2.1 (TX3 0).2.2.1 ∈ AW := aw_mem 159 (by decide +kernel)
theorem fl_X5_122 : Cond.fieldLink RX5 122 RX3 (TX3 0).2.1 (TX3 0).2.2.1 ∈ AW := aw_mem 160 (by decide +kernel)
theorem fl_X3_26 : Cond.fieldLink RX3 26 RX3 (TX3 1).2.1 (TX3 1).2.2.1 ∈ AW := aw_mem 161 (by decide +kernel)
theorem fl_X3_33 : Cond.fieldLink RX3 33 RX3 (TX3 2).2.1 (TX3 2).2.2.1 ∈ AW := aw_mem 162 (by decide +kernel)
theorem fl_X5_94 : Cond.fieldLink RX5 94 RX3 (TX3 2).2.1 (TX3 2).2.2.1 ∈ AW := aw_mem 163 (by decide +kernel)
theorem fl_X3_40 : Cond.fieldLink RX3 40 RX3 (TX3 3).2.1 (TX3 3).2.2.1 ∈ AW := aw_mem 164 (by decide +kernel)
theorem fl_X5_125 : Cond.fieldLink RX5 125 RX3 (TX3 3).2.1 (TX3 3).2.2.1 ∈ AW := aw_mem 165 (by decide +kernel)
theorem fl_X3_59 : Cond.fieldLink RX3 59 RX3 (TX3 4).2.1 (TX3 4).2.2.1 ∈ AW := aw_mem 166 (by decide +kernel)
theorem fl_X5_91 : Cond.fieldLink RX5 91 RX3 (TX3 4).2.1 (TX3 4).2.2.1 ∈ AW := aw_mem 167 (by decide +kernel)
theorem fl_X3_62 : Cond.fieldLink RX3 62 RX3 (TX3 5).2.1 (TX3 5).2.2.1 ∈ AW := aw_mem 168 (by decide +kernel)
theorem fl_X5_193 : Cond.fieldLink RX5 193 RX3 (TX3 5).2.1 (TX3 5).2.2.1 ∈ AW := aw_mem 169 (by decide +kernel)
theorem fl_X3_65 : Cond.fieldLink RX3 65 RX3 (TX3 6).2.1 (TX3 6).2.2.1 ∈ AW := aw_mem 170 (by decide +kernel)
theorem fl_X5_79 : Cond.fieldLink RX5 79 RX3 (TX3 6).2.1 (TX3 6).2.2.1 ∈ AW := aw_mem 171 (by decide +kernel)
theorem fl_X3_68 : Cond.fieldLink RX3 68 RX3 (TX3 7).2.1 (TX3 7).2.2.1 ∈ AW := aw_mem 172 (by decide +kernel)
theorem fl_X5_57 : Cond.fieldLink RX5 57 RX3 (TX3 7).2.1 (TX3 7).2.2.1 ∈ AW := aw_mem 173 (by decide +kernel)
theorem fl_X3_71 : Cond.fieldLink RX3 71 RX3 (TX3 8).2.1 (TX3 8).2.2.1 ∈ AW := aw_mem 174 (by decide +kernel)
theorem fl_X5_210 : Cond.fieldLink RX5 210 RX3 (TX3 8).2.1 (TX3 8).2.2.1 ∈ AW := aw_mem 175 (by decide +kernel)
theorem fl_X3_74 : Cond.fieldLink RX3 74 RX3 (TX3 9).2.1 (TX3 9).2.2.1 ∈ AW := aw_mem 176 (by decide +kernel)
theorem fl_X5_196 : Cond.fieldLink RX5 196 RX3 (TX3 9).2.1 (TX3 9).2.2.1 ∈ AW := aw_mem 177 (by decide +kernel)
theorem fl_X3_77 : Cond.fieldLink RX3 77 RX3 (TX3 10).2.1 (TX3 10).2.2.1 ∈ AW := aw_mem 178 (by decide +kernel)
theorem fl_X5_199 : Cond.fieldLink RX5 199 RX3 (TX3 10).2.1 (TX3 10).2.2.1 ∈ AW := aw_mem 179 (by decide +kernel)
theorem fl_X3_80 : Cond.fieldLink RX3 80 RX3 (TX3 11).2.1 (TX3 11).2.2.1 ∈ AW := aw_mem 180 (by decide +kernel)
theorem fl_X5_202 : Cond.fieldLink RX5 202 RX3 (TX3 11).2.1 (TX3 11).2.2.1 ∈ AW := aw_mem 181 (by decide +kernel)
theorem fl_X3_83 : Cond.fieldLink RX3 83 RX3 (TX3 12).2.1 (TX3 12).2.2.1 ∈ AW := aw_mem 182 (by decide +kernel)
theorem fl_X5_208 : Cond.fieldLink RX5 208 RX3 (TX3 12).2.1 (TX3 12).2.2.1 ∈ AW := aw_mem 183 (by decide +kernel)
theorem fl_X5_12 : Cond.fieldLink RX5 12 RX5 (TX5 0).2.1 (TX5 0).2.2.1 ∈ AW := aw_mem 211 (by decide +kernel)
theorem fl_X5_18 : Cond.fieldLink RX5 18 RX5 (TX5 1).2.1 (TX5 1).2.2.1 ∈ AW := aw_mem 212 (by decide +kernel)
theorem fl_X5_23 : Cond.fieldLink RX5 23 RX5 (TX5 2).2.1 (TX5 2).2.2.1 ∈ AW := aw_mem 213 (by decide +kernel)
theorem fl_X5_27 : Cond.fieldLink RX5 27 RX5 (TX5 3).2.1 (TX5 3).2.2.1 ∈ AW := aw_mem 214 (by decide +kernel)
theorem fl_X5_31 : Cond.fieldLink RX5 31 RX5 (TX5 4).2.1 (TX5 4).2.2.1 ∈ AW := aw_mem 215 (by decide +kernel)
theorem fl_X5_34 : Cond.fieldLink RX5 34 RX5 (TX5 5).2.1 (TX5 5).2.2.1 ∈ AW := aw_mem 216 (by decide +kernel)
theorem fl_X5_38 : Cond.fieldLink RX5 38 RX5 (TX5 6).2.1 (TX5 6).2.2.1 ∈ AW := aw_mem 217 (by decide +kernel)
theorem fl_X5_116 : Cond.fieldLink RX5 116 RX5 "LOWEST_SETTINGS" "[I" ∈ AW := aw_mem 385 (by decide +kernel)
theorem fl_X5_119 : Cond.fieldLink RX5 119 RX5 "HIGHEST_SETTINGS" "[I" ∈ AW := aw_mem 387 (by decide +kernel)
set_option maxRecDepth 1000000 in
theorem cw_X5_init : Cond.code yX5_init cX5_init 2 none ∈ AW := aw_mem 22 ⟨rfl, by decide +kernel⟩
theorem im_X5_init : Cond.instanceMethod yX5_init ∈ AW := aw_mem 21 (by decide +kernel)
theorem yw_X5_init : yW yX5_init 0 := by unfold yW; decide +kernel
theorem cl_L_95 : IW RL 95 yX5_init cX5_init 2 0 := ⟨cw_X5_init, aw_mem 20 (by decide +kernel), im_X5_init, in_X5, yw_X5_init⟩
theorem jm_obj : Cond.instanceMethod objectInit ∈ AW ∧ Cond.code objectInit ⟨#[0xb1]⟩ 1 none ∈ AW := ⟨aw_mem 24 (by decide +kernel), aw_mem 25 (by decide +kernel)⟩
theorem ml_X5_3 : Cond.methodLink RX5 3 objectInit ∈ AW := aw_mem 23 (by decide +kernel)
set_option maxRecDepth 1000000 in
theorem cw_X0_init : Cond.code yX0_init cX0_init 1 none ∈ AW := aw_mem 30 ⟨rfl, by decide +kernel⟩
theorem im_X0_init : Cond.instanceMethod yX0_init ∈ AW := aw_mem 29 (by decide +kernel)
theorem yw_X0_init : yW yX0_init 0 := by unfold yW; decide +kernel
theorem cl_X5_11 : IW RX5 11 yX0_init cX0_init 1 0 := ⟨cw_X0_init, aw_mem 28 (by decide +kernel), im_X0_init, in_X0, yw_X0_init⟩
theorem ml_X0_3 : Cond.methodLink RX0 3 objectInit ∈ AW := aw_mem 31 (by decide +kernel)
set_option maxRecDepth 1000000 in
theorem cw_X3_init : Cond.code yX3_init cX3_init 2 none ∈ AW := aw_mem 60 ⟨rfl, by decide +kernel⟩
theorem im_X3_init : Cond.instanceMethod yX3_init ∈ AW := aw_mem 59 (by decide +kernel)
theorem yw_X3_init : yW yX3_init 0 := by unfold yW; decide +kernel
theorem cl_X5_22 : IW RX5 22 yX3_init cX3_init 2 0 := ⟨cw_X3_init, aw_mem 58 (by decide +kernel), im_X3_init, in_X3, yw_X3_init⟩
theorem ml_X3_3 : Cond.methodLink RX3 3 objectInit ∈ AW := aw_mem 61 (by decide +kernel)
theorem jm_copy : Cond.native arraycopyName ∈ AW ∧ Cond.static arraycopyName ∈ AW ∧ Cond.initialized "java/lang/System" ∈ AW := ⟨aw_mem 66 (by decide +kernel), aw_mem 65 (by decide +kernel), aw_mem 13 (by decide +kernel)⟩
theorem ml_X3_18 : Cond.methodLink RX3 18 arraycopyName ∈ AW := aw_mem 64 (by decide +kernel)
set_option maxRecDepth 1000000 in
theorem cw_X4_init : Cond.code yX4_init cX4_init 1 none ∈ AW := aw_mem 72 ⟨rfl, by decide +kernel⟩
theorem im_X4_init : Cond.instanceMethod yX4_init ∈ AW := aw_mem 71 (by decide +kernel)
theorem yw_X4_init : yW yX4_init 0 := by unfold yW; decide +kernel
theorem cl_X3_30 : IW RX3 30 yX4_init cX4_init 1 0 := ⟨cw_X4_init, aw_mem 70 (by decide +kernel), im_X4_init, in_X4, yw_X4_init⟩
theorem ml_X4_3 : Cond.methodLink RX4 3 objectInit ∈ AW := aw_mem 73 (by decide +kernel)
set_option maxRecDepth 1000000 in
theorem cw_X2_init : Cond.code yX2_init cX2_init 1 none ∈ AW := aw_mem 105 ⟨rfl, by decide +kernel⟩
theorem im_X2_init : Cond.instanceMethod yX2_init ∈ AW := aw_mem 104 (by decide +kernel)
theorem yw_X2_init : yW yX2_init 0 := by unfold yW; decide +kernel
theorem cl_X3_37 : JW yX2_init cX2_init 1 0 := ⟨cw_X2_init, im_X2_init, in_X2, yw_X2_init⟩
theorem ml_X2_1 : Cond.methodLink RX2 1 objectInit ∈ AW := aw_mem 106 (by decide +kernel)
set_option maxRecDepth 1000000 in
theorem cw_X1_init : Cond.code yX1_init cX1_init 1 none ∈ AW := aw_mem 132 ⟨rfl, by decide +kernel⟩
theorem im_X1_init : Cond.instanceMethod yX1_init ∈ AW := aw_mem 131 (by decide +kernel)
theorem yw_X1_init : yW yX1_init 0 := by unfold yW; decide +kernel
theorem cl_X3_44 : JW yX1_init cX1_init 1 0 := ⟨cw_X1_init, im_X1_init, in_X1, yw_X1_init⟩
theorem ml_X1_1 : Cond.methodLink RX1 1 objectInit ∈ AW := aw_mem 133 (by decide +kernel)
set_option maxRecDepth 1000000 in
theorem cw_X5_measure : Cond.code yX5_measure cX5_measure 2 (some .int) ∈ AW := aw_mem 236 ⟨rfl, by decide +kernel⟩
theorem im_X5_measure : Cond.instanceMethod yX5_measure ∈ AW := aw_mem 234 (by decide +kernel)
theorem se_X5_measure : Cond.selects yX5_measure.cls yX5_measure yX5_measure ∈ AW := aw_mem 235 (by decide +kernel)
theorem yw_X5_measure : yW yX5_measure 1 := by unfold yW; decide +kernel
theorem cl_L_49 : VW RL 49 yX5_measure cX5_measure 2 (some .int) 1 := ⟨cw_X5_measure, aw_mem 233 (by decide +kernel), im_X5_measure, se_X5_measure, in_X5, yw_X5_measure⟩
set_option maxRecDepth 1000000 in
theorem cw_X5_isWithin : Cond.code yX5_isWithin cX5_isWithin 2 (some .boolean) ∈ AW := aw_mem 239 ⟨rfl, by decide +kernel⟩
theorem sm_X5_isWithin : Cond.static yX5_isWithin ∈ AW := aw_mem 238 (by decide +kernel)
theorem yw_X5_isWithin : yW yX5_isWithin 2 := by unfold yW; decide +kernel
theorem cl_X5_42 : SW RX5 42 yX5_isWithin cX5_isWithin 2 (some .boolean) 2 := ⟨cw_X5_isWithin, aw_mem 237 (by decide +kernel), sm_X5_isWithin, in_X5, yw_X5_isWithin⟩
set_option maxRecDepth 1000000 in
theorem cw_X5_remember : Cond.code yX5_remember cX5_remember 3 none ∈ AW := aw_mem 243 ⟨rfl, by decide +kernel⟩
theorem im_X5_remember : Cond.instanceMethod yX5_remember ∈ AW := aw_mem 242 (by decide +kernel)
theorem se_X5_remember : Cond.selects yX5_remember.cls yX5_remember yX5_remember ∈ AW := aw_mem 0 (by decide +kernel)
theorem yw_X5_remember : yW yX5_remember 0 := by unfold yW; decide +kernel
theorem cl_X5_46 : VW RX5 46 yX5_remember cX5_remember 3 none 0 := ⟨cw_X5_remember, aw_mem 240 (by decide +kernel), im_X5_remember, se_X5_remember, in_X5, yw_X5_remember⟩
set_option maxRecDepth 1000000 in
theorem cw_X3_copyFrom : Cond.code yX3_copyFrom cX3_copyFrom 3 none ∈ AW := aw_mem 247 ⟨rfl, by decide +kernel⟩
theorem im_X3_copyFrom : Cond.instanceMethod yX3_copyFrom ∈ AW := aw_mem 245 (by decide +kernel)
theorem se_X3_copyFrom : Cond.selects yX3_copyFrom.cls yX3_copyFrom yX3_copyFrom ∈ AW := aw_mem 246 (by decide +kernel)
theorem yw_X3_copyFrom : yW yX3_copyFrom 1 := by unfold yW; decide +kernel
theorem cl_X5_148 : VW RX5 148 yX3_copyFrom cX3_copyFrom 3 none 1 := ⟨cw_X3_copyFrom, aw_mem 244 (by decide +kernel), im_X3_copyFrom, se_X3_copyFrom, in_X3, yw_X3_copyFrom⟩
set_option maxRecDepth 1000000 in
theorem cw_X4_copyFrom : Cond.code yX4_copyFrom cX4_copyFrom 2 none ∈ AW := aw_mem 251 ⟨rfl, by decide +kernel⟩
theorem im_X4_copyFrom : Cond.instanceMethod yX4_copyFrom ∈ AW := aw_mem 249 (by decide +kernel)
theorem se_X4_copyFrom : Cond.selects yX4_copyFrom.cls yX4_copyFrom yX4_copyFrom ∈ AW := aw_mem 250 (by decide +kernel)
theorem yw_X4_copyFrom : yW yX4_copyFrom 1 := by unfold yW; decide +kernel
theorem cl_X3_49 : VW RX3 49 yX4_copyFrom cX4_copyFrom 2 none 1 := ⟨cw_X4_copyFrom, aw_mem 248 (by decide +kernel), im_X4_copyFrom, se_X4_copyFrom, in_X4, yw_X4_copyFrom⟩
theorem ml_X4_28 : Cond.methodLink RX4 28 arraycopyName ∈ AW := aw_mem 252 (by decide +kernel)
set_option maxRecDepth 1000000 in
theorem cw_X2_copyFrom : Cond.code yX2_copyFrom cX2_copyFrom 2 none ∈ AW := aw_mem 256 ⟨rfl, by decide +kernel⟩
theorem im_X2_copyFrom : Cond.instanceMethod yX2_copyFrom ∈ AW := aw_mem 254 (by decide +kernel)
theorem se_X2_copyFrom : Cond.selects yX2_copyFrom.cls yX2_copyFrom yX2_copyFrom ∈ AW := aw_mem 255 (by decide +kernel)
theorem yw_X2_copyFrom : yW yX2_copyFrom 1 := by unfold yW; decide +kernel
theorem cl_X3_53 : VW RX3 53 yX2_copyFrom cX2_copyFrom 2 none 1 := ⟨cw_X2_copyFrom, aw_mem 253 (by decide +kernel), im_X2_copyFrom, se_X2_copyFrom, in_X2, yw_X2_copyFrom⟩
set_option maxRecDepth 1000000 in
theorem cw_X1_copyFrom : Cond.code yX1_copyFrom cX1_copyFrom 2 none ∈ AW := aw_mem 260 ⟨rfl, by decide +kernel⟩
theorem im_X1_copyFrom : Cond.instanceMethod yX1_copyFrom ∈ AW := aw_mem 258 (by decide +kernel)
theorem se_X1_copyFrom : Cond.selects yX1_copyFrom.cls yX1_copyFrom yX1_copyFrom ∈ AW := aw_mem 259 (by decide +kernel)
theorem yw_X1_copyFrom : yW yX1_copyFrom 1 := by unfold yW; decide +kernel
theorem cl_X3_56 : VW RX3 56 yX1_copyFrom cX1_copyFrom 2 none 1 := ⟨cw_X1_copyFrom, aw_mem 257 (by decide +kernel), im_X1_copyFrom, se_X1_copyFrom, in_X1, yw_X1_copyFrom⟩
set_option maxRecDepth 1000000 in
theorem cw_X3_passDay : Cond.code yX3_passDay cX3_passDay 5 (some .int) ∈ AW := aw_mem 264 ⟨rfl, by decide +kernel⟩
theorem im_X3_passDay : Cond.instanceMethod yX3_passDay ∈ AW := aw_mem 262 (by decide +kernel)
theorem se_X3_passDay : Cond.selects yX3_passDay.cls yX3_passDay yX3_passDay ∈ AW := aw_mem 263 (by decide +kernel)
theorem yw_X3_passDay : yW yX3_passDay 1 := by unfold yW; decide +kernel
theorem cl_X5_49 : VW RX5 49 yX3_passDay cX3_passDay 5 (some .int) 1 := ⟨cw_X3_passDay, aw_mem 261 (by decide +kernel), im_X3_passDay, se_X3_passDay, in_X3, yw_X3_passDay⟩
set_option maxRecDepth 1000000 in
theorem cw_X3_yearOfNow : Cond.code yX3_yearOfNow cX3_yearOfNow 1 (some (.object "MistakeAlmanac$Year")) ∈ AW := aw_mem 268 ⟨rfl, by decide +kernel⟩
theorem im_X3_yearOfNow : Cond.instanceMethod yX3_yearOfNow ∈ AW := aw_mem 266 (by decide +kernel)
theorem se_X3_yearOfNow : Cond.selects yX3_yearOfNow.cls yX3_yearOfNow yX3_yearOfNow ∈ AW := aw_mem 267 (by decide +kernel)
theorem yw_X3_yearOfNow : yW yX3_yearOfNow 0 := by unfold yW; decide +kernel
theorem cl_X3_93 : VW RX3 93 yX3_yearOfNow cX3_yearOfNow 1 (some (.object "MistakeAlmanac$Year")) 0 := ⟨cw_X3_yearOfNow, aw_mem 265 (by decide +kernel), im_X3_yearOfNow, se_X3_yearOfNow, in_X3, yw_X3_yearOfNow⟩
set_option maxRecDepth 1000000 in
theorem cw_X3_foretoldOf : Cond.code yX3_foretoldOf cX3_foretoldOf 4 (some .int) ∈ AW := aw_mem 272 ⟨rfl, by decide +kernel⟩
theorem im_X3_foretoldOf : Cond.instanceMethod yX3_foretoldOf ∈ AW := aw_mem 270 (by decide +kernel)
theorem se_X3_foretoldOf : Cond.selects yX3_foretoldOf.cls yX3_foretoldOf yX3_foretoldOf ∈ AW := aw_mem 271 (by decide +kernel)
theorem yw_X3_foretoldOf : yW yX3_foretoldOf 1 := by unfold yW; decide +kernel
theorem cl_X3_124 : VW RX3 124 yX3_foretoldOf cX3_foretoldOf 4 (some .int) 1 := ⟨cw_X3_foretoldOf, aw_mem 269 (by decide +kernel), im_X3_foretoldOf, se_X3_foretoldOf, in_X3, yw_X3_foretoldOf⟩
set_option maxRecDepth 1000000 in
theorem cw_X2_reaches : Cond.code yX2_reaches cX2_reaches 2 (some .boolean) ∈ AW := aw_mem 276 ⟨rfl, by decide +kernel⟩
theorem im_X2_reaches : Cond.instanceMethod yX2_reaches ∈ AW := aw_mem 274 (by decide +kernel)
theorem se_X2_reaches : Cond.selects yX2_reaches.cls yX2_reaches yX2_reaches ∈ AW := aw_mem 275 (by decide +kernel)
theorem yw_X2_reaches : yW yX2_reaches 1 := by unfold yW; decide +kernel
theorem cl_X3_109 : VW RX3 109 yX2_reaches cX2_reaches 2 (some .boolean) 1 := ⟨cw_X2_reaches, aw_mem 273 (by decide +kernel), im_X2_reaches, se_X2_reaches, in_X2, yw_X2_reaches⟩
set_option maxRecDepth 1000000 in
theorem cw_X3_isTelling : Cond.code yX3_isTelling cX3_isTelling 2 (some .boolean) ∈ AW := aw_mem 280 ⟨rfl, by decide +kernel⟩
theorem im_X3_isTelling : Cond.instanceMethod yX3_isTelling ∈ AW := aw_mem 278 (by decide +kernel)
theorem se_X3_isTelling : Cond.selects yX3_isTelling.cls yX3_isTelling yX3_isTelling ∈ AW := aw_mem 279 (by decide +kernel)
theorem yw_X3_isTelling : yW yX3_isTelling 1 := by unfold yW; decide +kernel
theorem cl_X3_113 : VW RX3 113 yX3_isTelling cX3_isTelling 2 (some .boolean) 1 := ⟨cw_X3_isTelling, aw_mem 277 (by decide +kernel), im_X3_isTelling, se_X3_isTelling, in_X3, yw_X3_isTelling⟩
set_option maxRecDepth 1000000 in
theorem cw_X5_clampWarmth : Cond.code yX5_clampWarmth cX5_clampWarmth 1 (some .int) ∈ AW := aw_mem 283 ⟨rfl, by decide +kernel⟩
theorem sm_X5_clampWarmth : Cond.static yX5_clampWarmth ∈ AW := aw_mem 282 (by decide +kernel)
theorem yw_X5_clampWarmth : yW yX5_clampWarmth 1 := by unfold yW; decide +kernel
theorem cl_X3_120 : NW yX5_clampWarmth cX5_clampWarmth 1 (some .int) 1 := ⟨cw_X5_clampWarmth, sm_X5_clampWarmth, in_X5, yw_X5_clampWarmth⟩
theorem jm_min : Cond.static Lib.Math.min.name ∈ AW ∧ Cond.initialized "java/lang/Math" ∈ AW ∧ Cond.code Lib.Math.min.name Lib.Math.min.code 2 (some .int) ∈ AW := ⟨aw_mem 285 (by decide +kernel), aw_mem 17 (by decide +kernel), aw_mem 286 (by decide +kernel)⟩
theorem ml_X5_234 : Cond.methodLink RX5 234 Lib.Math.min.name ∈ AW := aw_mem 284 (by decide +kernel)
theorem jm_max : Cond.static Lib.Math.max.name ∈ AW ∧ Cond.initialized "java/lang/Math" ∈ AW ∧ Cond.code Lib.Math.max.name Lib.Math.max.code 2 (some .int) ∈ AW := ⟨aw_mem 288 (by decide +kernel), aw_mem 17 (by decide +kernel), aw_mem 289 (by decide +kernel)⟩
theorem ml_X5_237 : Cond.methodLink RX5 237 Lib.Math.max.name ∈ AW := aw_mem 287 (by decide +kernel)
theorem jm_abs : Cond.static Lib.Math.abs.name ∈ AW ∧ Cond.initialized "java/lang/Math" ∈ AW ∧ Cond.code Lib.Math.abs.name Lib.Math.abs.code 1 (some .int) ∈ AW := ⟨aw_mem 291 (by decide +kernel), aw_mem 17 (by decide +kernel), aw_mem 292 (by decide +kernel)⟩
theorem ml_X3_131 : Cond.methodLink RX3 131 Lib.Math.abs.name ∈ AW := aw_mem 290 (by decide +kernel)
set_option maxRecDepth 1000000 in
theorem cw_X5_isFrost : Cond.code yX5_isFrost cX5_isFrost 1 (some .boolean) ∈ AW := aw_mem 295 ⟨rfl, by decide +kernel⟩
theorem sm_X5_isFrost : Cond.static yX5_isFrost ∈ AW := aw_mem 294 (by decide +kernel)
theorem yw_X5_isFrost : yW yX5_isFrost 1 := by unfold yW; decide +kernel
theorem cl_X3_134 : NW yX5_isFrost cX5_isFrost 1 (some .boolean) 1 := ⟨cw_X5_isFrost, sm_X5_isFrost, in_X5, yw_X5_isFrost⟩
set_option maxRecDepth 1000000 in
theorem cw_X3_isFrostForetold : Cond.code yX3_isFrostForetold cX3_isFrostForetold 2 (some .boolean) ∈ AW := aw_mem 299 ⟨rfl, by decide +kernel⟩
theorem im_X3_isFrostForetold : Cond.instanceMethod yX3_isFrostForetold ∈ AW := aw_mem 297 (by decide +kernel)
theorem se_X3_isFrostForetold : Cond.selects yX3_isFrostForetold.cls yX3_isFrostForetold yX3_isFrostForetold ∈ AW := aw_mem 298 (by decide +kernel)
theorem yw_X3_isFrostForetold : yW yX3_isFrostForetold 1 := by unfold yW; decide +kernel
theorem cl_X3_137 : VW RX3 137 yX3_isFrostForetold cX3_isFrostForetold 2 (some .boolean) 1 := ⟨cw_X3_isFrostForetold, aw_mem 296 (by decide +kernel), im_X3_isFrostForetold, se_X3_isFrostForetold, in_X3, yw_X3_isFrostForetold⟩
set_option maxRecDepth 1000000 in
theorem cw_X3_countFrost : Cond.code yX3_countFrost cX3_countFrost 3 none ∈ AW := aw_mem 303 ⟨rfl, by decide +kernel⟩
theorem im_X3_countFrost : Cond.instanceMethod yX3_countFrost ∈ AW := aw_mem 302 (by decide +kernel)
theorem se_X3_countFrost : Cond.selects yX3_countFrost.cls yX3_countFrost yX3_countFrost ∈ AW := aw_mem 1 (by decide +kernel)
theorem yw_X3_countFrost : yW yX3_countFrost 2 := by unfold yW; decide +kernel
theorem cl_X3_140 : VW RX3 140 yX3_countFrost cX3_countFrost 3 none 2 := ⟨cw_X3_countFrost, aw_mem 300 (by decide +kernel), im_X3_countFrost, se_X3_countFrost, in_X3, yw_X3_countFrost⟩
set_option maxRecDepth 1000000 in
theorem cw_X3_settleBets : Cond.code yX3_settleBets cX3_settleBets 6 none ∈ AW := aw_mem 307 ⟨rfl, by decide +kernel⟩
theorem im_X3_settleBets : Cond.instanceMethod yX3_settleBets ∈ AW := aw_mem 306 (by decide +kernel)
theorem se_X3_settleBets : Cond.selects yX3_settleBets.cls yX3_settleBets yX3_settleBets ∈ AW := aw_mem 2 (by decide +kernel)
theorem yw_X3_settleBets : yW yX3_settleBets 2 := by unfold yW; decide +kernel
theorem cl_X3_144 : VW RX3 144 yX3_settleBets cX3_settleBets 6 none 2 := ⟨cw_X3_settleBets, aw_mem 304 (by decide +kernel), im_X3_settleBets, se_X3_settleBets, in_X3, yw_X3_settleBets⟩
set_option maxRecDepth 1000000 in
theorem cw_X1_winnings : Cond.code yX1_winnings cX1_winnings 4 (some .int) ∈ AW := aw_mem 311 ⟨rfl, by decide +kernel⟩
theorem im_X1_winnings : Cond.instanceMethod yX1_winnings ∈ AW := aw_mem 309 (by decide +kernel)
theorem se_X1_winnings : Cond.selects yX1_winnings.cls yX1_winnings yX1_winnings ∈ AW := aw_mem 310 (by decide +kernel)
theorem yw_X1_winnings : yW yX1_winnings 3 := by unfold yW; decide +kernel
theorem cl_X3_153 : VW RX3 153 yX1_winnings cX1_winnings 4 (some .int) 3 := ⟨cw_X1_winnings, aw_mem 308 (by decide +kernel), im_X1_winnings, se_X1_winnings, in_X1, yw_X1_winnings⟩
set_option maxRecDepth 1000000 in
theorem cw_X1_dropBet : Cond.code yX1_dropBet cX1_dropBet 1 none ∈ AW := aw_mem 315 ⟨rfl, by decide +kernel⟩
theorem im_X1_dropBet : Cond.instanceMethod yX1_dropBet ∈ AW := aw_mem 313 (by decide +kernel)
theorem se_X1_dropBet : Cond.selects yX1_dropBet.cls yX1_dropBet yX1_dropBet ∈ AW := aw_mem 314 (by decide +kernel)
theorem yw_X1_dropBet : yW yX1_dropBet 0 := by unfold yW; decide +kernel
theorem cl_X3_163 : VW RX3 163 yX1_dropBet cX1_dropBet 1 none 0 := ⟨cw_X1_dropBet, aw_mem 312 (by decide +kernel), im_X1_dropBet, se_X1_dropBet, in_X1, yw_X1_dropBet⟩
set_option maxRecDepth 1000000 in
theorem cw_X3_endYear : Cond.code yX3_endYear cX3_endYear 2 none ∈ AW := aw_mem 319 ⟨rfl, by decide +kernel⟩
theorem im_X3_endYear : Cond.instanceMethod yX3_endYear ∈ AW := aw_mem 318 (by decide +kernel)
theorem se_X3_endYear : Cond.selects yX3_endYear.cls yX3_endYear yX3_endYear ∈ AW := aw_mem 3 (by decide +kernel)
theorem yw_X3_endYear : yW yX3_endYear 0 := by unfold yW; decide +kernel
theorem cl_X3_147 : VW RX3 147 yX3_endYear cX3_endYear 2 none 0 := ⟨cw_X3_endYear, aw_mem 316 (by decide +kernel), im_X3_endYear, se_X3_endYear, in_X3, yw_X3_endYear⟩
set_option maxRecDepth 1000000 in
theorem cw_X4_beginBehind : Cond.code yX4_beginBehind cX4_beginBehind 5 none ∈ AW := aw_mem 323 ⟨rfl, by decide +kernel⟩
theorem im_X4_beginBehind : Cond.instanceMethod yX4_beginBehind ∈ AW := aw_mem 321 (by decide +kernel)
theorem se_X4_beginBehind : Cond.selects yX4_beginBehind.cls yX4_beginBehind yX4_beginBehind ∈ AW := aw_mem 322 (by decide +kernel)
theorem yw_X4_beginBehind : yW yX4_beginBehind 3 := by unfold yW; decide +kernel
theorem cl_X3_166 : VW RX3 166 yX4_beginBehind cX4_beginBehind 5 none 3 := ⟨cw_X4_beginBehind, aw_mem 320 (by decide +kernel), im_X4_beginBehind, se_X4_beginBehind, in_X4, yw_X4_beginBehind⟩
set_option maxRecDepth 1000000 in
theorem cw_X4_meanByDays : Cond.code yX4_meanByDays cX4_meanByDays 8 (some .int) ∈ AW := aw_mem 327 ⟨rfl, by decide +kernel⟩
theorem im_X4_meanByDays : Cond.instanceMethod yX4_meanByDays ∈ AW := aw_mem 325 (by decide +kernel)
theorem se_X4_meanByDays : Cond.selects yX4_meanByDays.cls yX4_meanByDays yX4_meanByDays ∈ AW := aw_mem 326 (by decide +kernel)
theorem yw_X4_meanByDays : yW yX4_meanByDays 2 := by unfold yW; decide +kernel
theorem cl_X4_34 : VW RX4 34 yX4_meanByDays cX4_meanByDays 8 (some .int) 2 := ⟨cw_X4_meanByDays, aw_mem 324 (by decide +kernel), im_X4_meanByDays, se_X4_meanByDays, in_X4, yw_X4_meanByDays⟩
theorem ml_X4_42 : Cond.methodLink RX4 42 Lib.Math.max.name ∈ AW := aw_mem 328 (by decide +kernel)
theorem ml_X4_47 : Cond.methodLink RX4 47 Lib.Math.min.name ∈ AW := aw_mem 329 (by decide +kernel)
set_option maxRecDepth 1000000 in
theorem cw_X5_mended : Cond.code yX5_mended cX5_mended 3 (some .int) ∈ AW := aw_mem 332 ⟨rfl, by decide +kernel⟩
theorem sm_X5_mended : Cond.static yX5_mended ∈ AW := aw_mem 331 (by decide +kernel)
theorem yw_X5_mended : yW yX5_mended 3 := by unfold yW; decide +kernel
theorem cl_X4_38 : NW yX5_mended cX5_mended 3 (some .int) 3 := ⟨cw_X5_mended, sm_X5_mended, in_X5, yw_X5_mended⟩
theorem cl_X5_240 : SW RX5 240 yX5_clampWarmth cX5_clampWarmth 1 (some .int) 1 := ⟨cw_X5_clampWarmth, aw_mem 333 (by decide +kernel), sm_X5_clampWarmth, in_X5, yw_X5_clampWarmth⟩
set_option maxRecDepth 1000000 in
theorem cw_X5_measureAll : Cond.code yX5_measureAll cX5_measureAll 5 (some .int) ∈ AW := aw_mem 337 ⟨rfl, by decide +kernel⟩
theorem im_X5_measureAll : Cond.instanceMethod yX5_measureAll ∈ AW := aw_mem 335 (by decide +kernel)
theorem se_X5_measureAll : Cond.selects yX5_measureAll.cls yX5_measureAll yX5_measureAll ∈ AW := aw_mem 336 (by decide +kernel)
theorem yw_X5_measureAll : yW yX5_measureAll 0 := by unfold yW; decide +kernel
theorem cl_L_111 : VW RL 111 yX5_measureAll cX5_measureAll 5 (some .int) 0 := ⟨cw_X5_measureAll, aw_mem 334 (by decide +kernel), im_X5_measureAll, se_X5_measureAll, in_X5, yw_X5_measureAll⟩
set_option maxRecDepth 1000000 in
theorem cw_X0_findFault : Cond.code yX0_findFault cX0_findFault 2 (some .int) ∈ AW := aw_mem 341 ⟨rfl, by decide +kernel⟩
theorem im_X0_findFault : Cond.instanceMethod yX0_findFault ∈ AW := aw_mem 339 (by decide +kernel)
theorem se_X0_findFault : Cond.selects yX0_findFault.cls yX0_findFault yX0_findFault ∈ AW := aw_mem 340 (by decide +kernel)
theorem yw_X0_findFault : yW yX0_findFault 0 := by unfold yW; decide +kernel
theorem cl_X5_53 : VW RX5 53 yX0_findFault cX0_findFault 2 (some .int) 0 := ⟨cw_X0_findFault, aw_mem 338 (by decide +kernel), im_X0_findFault, se_X0_findFault, in_X0, yw_X0_findFault⟩
set_option maxRecDepth 1000000 in
theorem cw_X0_goToStart : Cond.code yX0_goToStart cX0_goToStart 1 none ∈ AW := aw_mem 345 ⟨rfl, by decide +kernel⟩
theorem im_X0_goToStart : Cond.instanceMethod yX0_goToStart ∈ AW := aw_mem 343 (by decide +kernel)
theorem se_X0_goToStart : Cond.selects yX0_goToStart.cls yX0_goToStart yX0_goToStart ∈ AW := aw_mem 344 (by decide +kernel)
theorem yw_X0_goToStart : yW yX0_goToStart 0 := by unfold yW; decide +kernel
theorem cl_X0_22 : VW RX0 22 yX0_goToStart cX0_goToStart 1 none 0 := ⟨cw_X0_goToStart, aw_mem 342 (by decide +kernel), im_X0_goToStart, se_X0_goToStart, in_X0, yw_X0_goToStart⟩
set_option maxRecDepth 1000000 in
theorem cw_X0_readEntry : Cond.code yX0_readEntry cX0_readEntry 2 (some .boolean) ∈ AW := aw_mem 349 ⟨rfl, by decide +kernel⟩
theorem im_X0_readEntry : Cond.instanceMethod yX0_readEntry ∈ AW := aw_mem 347 (by decide +kernel)
theorem se_X0_readEntry : Cond.selects yX0_readEntry.cls yX0_readEntry yX0_readEntry ∈ AW := aw_mem 348 (by decide +kernel)
theorem yw_X0_readEntry : yW yX0_readEntry 0 := by unfold yW; decide +kernel
theorem cl_X0_25 : VW RX0 25 yX0_readEntry cX0_readEntry 2 (some .boolean) 0 := ⟨cw_X0_readEntry, aw_mem 346 (by decide +kernel), im_X0_readEntry, se_X0_readEntry, in_X0, yw_X0_readEntry⟩
set_option maxRecDepth 1000000 in
theorem cw_X0_isAtPlace : Cond.code yX0_isAtPlace cX0_isAtPlace 2 (some .boolean) ∈ AW := aw_mem 353 ⟨rfl, by decide +kernel⟩
theorem im_X0_isAtPlace : Cond.instanceMethod yX0_isAtPlace ∈ AW := aw_mem 352 (by decide +kernel)
theorem se_X0_isAtPlace : Cond.selects yX0_isAtPlace.cls yX0_isAtPlace yX0_isAtPlace ∈ AW := aw_mem 4 (by decide +kernel)
theorem yw_X0_isAtPlace : yW yX0_isAtPlace 1 := by unfold yW; decide +kernel
theorem cl_X0_29 : VW RX0 29 yX0_isAtPlace cX0_isAtPlace 2 (some .boolean) 1 := ⟨cw_X0_isAtPlace, aw_mem 350 (by decide +kernel), im_X0_isAtPlace, se_X0_isAtPlace, in_X0, yw_X0_isAtPlace⟩
set_option maxRecDepth 1000000 in
theorem cw_X0_readNumber : Cond.code yX0_readNumber cX0_readNumber 5 (some .boolean) ∈ AW := aw_mem 357 ⟨rfl, by decide +kernel⟩
theorem im_X0_readNumber : Cond.instanceMethod yX0_readNumber ∈ AW := aw_mem 356 (by decide +kernel)
theorem se_X0_readNumber : Cond.selects yX0_readNumber.cls yX0_readNumber yX0_readNumber ∈ AW := aw_mem 5 (by decide +kernel)
theorem yw_X0_readNumber : yW yX0_readNumber 2 := by unfold yW; decide +kernel
theorem cl_X0_36 : VW RX0 36 yX0_readNumber cX0_readNumber 5 (some .boolean) 2 := ⟨cw_X0_readNumber, aw_mem 354 (by decide +kernel), im_X0_readNumber, se_X0_readNumber, in_X0, yw_X0_readNumber⟩
set_option maxRecDepth 1000000 in
theorem cw_X0_digitAtPlace : Cond.code yX0_digitAtPlace cX0_digitAtPlace 1 (some .int) ∈ AW := aw_mem 361 ⟨rfl, by decide +kernel⟩
theorem im_X0_digitAtPlace : Cond.instanceMethod yX0_digitAtPlace ∈ AW := aw_mem 360 (by decide +kernel)
theorem se_X0_digitAtPlace : Cond.selects yX0_digitAtPlace.cls yX0_digitAtPlace yX0_digitAtPlace ∈ AW := aw_mem 6 (by decide +kernel)
theorem yw_X0_digitAtPlace : yW yX0_digitAtPlace 0 := by unfold yW; decide +kernel
theorem cl_X0_49 : VW RX0 49 yX0_digitAtPlace cX0_digitAtPlace 1 (some .int) 0 := ⟨cw_X0_digitAtPlace, aw_mem 358 (by decide +kernel), im_X0_digitAtPlace, se_X0_digitAtPlace, in_X0, yw_X0_digitAtPlace⟩
set_option maxRecDepth 1000000 in
theorem cw_X0_skipSeparator : Cond.code yX0_skipSeparator cX0_skipSeparator 1 none ∈ AW := aw_mem 365 ⟨rfl, by decide +kernel⟩
theorem im_X0_skipSeparator : Cond.instanceMethod yX0_skipSeparator ∈ AW := aw_mem 363 (by decide +kernel)
theorem se_X0_skipSeparator : Cond.selects yX0_skipSeparator.cls yX0_skipSeparator yX0_skipSeparator ∈ AW := aw_mem 364 (by decide +kernel)
theorem yw_X0_skipSeparator : yW yX0_skipSeparator 0 := by unfold yW; decide +kernel
theorem cl_X0_33 : VW RX0 33 yX0_skipSeparator cX0_skipSeparator 1 none 0 := ⟨cw_X0_skipSeparator, aw_mem 362 (by decide +kernel), im_X0_skipSeparator, se_X0_skipSeparator, in_X0, yw_X0_skipSeparator⟩
theorem cl_X5_60 : VW RX5 60 yX0_goToStart cX0_goToStart 1 none 0 := ⟨cw_X0_goToStart, aw_mem 366 (by decide +kernel), im_X0_goToStart, se_X0_goToStart, in_X0, yw_X0_goToStart⟩
theorem cl_X5_63 : VW RX5 63 yX0_readEntry cX0_readEntry 2 (some .boolean) 0 := ⟨cw_X0_readEntry, aw_mem 367 (by decide +kernel), im_X0_readEntry, se_X0_readEntry, in_X0, yw_X0_readEntry⟩
theorem cl_X5_73 : VW RX5 73 yX0_skipSeparator cX0_skipSeparator 1 none 0 := ⟨cw_X0_skipSeparator, aw_mem 368 (by decide +kernel), im_X0_skipSeparator, se_X0_skipSeparator, in_X0, yw_X0_skipSeparator⟩
set_option maxRecDepth 1000000 in
theorem cw_X5_base : Cond.code yX5_base cX5_base 4 (some .int) ∈ AW := aw_mem 372 ⟨rfl, by decide +kernel⟩
theorem im_X5_base : Cond.instanceMethod yX5_base ∈ AW := aw_mem 370 (by decide +kernel)
theorem se_X5_base : Cond.selects yX5_base.cls yX5_base yX5_base ∈ AW := aw_mem 371 (by decide +kernel)
theorem yw_X5_base : yW yX5_base 2 := by unfold yW; decide +kernel
theorem cl_L_67 : VW RL 67 yX5_base cX5_base 4 (some .int) 2 := ⟨cw_X5_base, aw_mem 369 (by decide +kernel), im_X5_base, se_X5_base, in_X5, yw_X5_base⟩
set_option maxRecDepth 1000000 in
theorem cw_X5_isIndex : Cond.code yX5_isIndex cX5_isIndex 2 (some .boolean) ∈ AW := aw_mem 375 ⟨rfl, by decide +kernel⟩
theorem sm_X5_isIndex : Cond.static yX5_isIndex ∈ AW := aw_mem 374 (by decide +kernel)
theorem yw_X5_isIndex : yW yX5_isIndex 2 := by unfold yW; decide +kernel
theorem cl_X5_76 : SW RX5 76 yX5_isIndex cX5_isIndex 2 (some .boolean) 2 := ⟨cw_X5_isIndex, aw_mem 373 (by decide +kernel), sm_X5_isIndex, in_X5, yw_X5_isIndex⟩
theorem cl_X5_82 : VW RX5 82 yX3_yearOfNow cX3_yearOfNow 1 (some (.object "MistakeAlmanac$Year")) 0 := ⟨cw_X3_yearOfNow, aw_mem 376 (by decide +kernel), im_X3_yearOfNow, se_X3_yearOfNow, in_X3, yw_X3_yearOfNow⟩
set_option maxRecDepth 1000000 in
theorem cw_X5_saint : Cond.code yX5_saint cX5_saint 6 (some .int) ∈ AW := aw_mem 380 ⟨rfl, by decide +kernel⟩
theorem im_X5_saint : Cond.instanceMethod yX5_saint ∈ AW := aw_mem 378 (by decide +kernel)
theorem se_X5_saint : Cond.selects yX5_saint.cls yX5_saint yX5_saint ∈ AW := aw_mem 379 (by decide +kernel)
theorem yw_X5_saint : yW yX5_saint 4 := by unfold yW; decide +kernel
theorem cl_L_70 : VW RL 70 yX5_saint cX5_saint 6 (some .int) 4 := ⟨cw_X5_saint, aw_mem 377 (by decide +kernel), im_X5_saint, se_X5_saint, in_X5, yw_X5_saint⟩
set_option maxRecDepth 1000000 in
theorem cw_X5_set : Cond.code yX5_set cX5_set 4 (some .int) ∈ AW := aw_mem 384 ⟨rfl, by decide +kernel⟩
theorem im_X5_set : Cond.instanceMethod yX5_set ∈ AW := aw_mem 382 (by decide +kernel)
theorem se_X5_set : Cond.selects yX5_set.cls yX5_set yX5_set ∈ AW := aw_mem 383 (by decide +kernel)
theorem yw_X5_set : yW yX5_set 2 := by unfold yW; decide +kernel
theorem cl_L_77 : VW RL 77 yX5_set cX5_set 4 (some .int) 2 := ⟨cw_X5_set, aw_mem 381 (by decide +kernel), im_X5_set, se_X5_set, in_X5, yw_X5_set⟩
set_option maxRecDepth 1000000 in
theorem cw_X5_bet : Cond.code yX5_bet cX5_bet 5 (some .int) ∈ AW := aw_mem 392 ⟨rfl, by decide +kernel⟩
theorem im_X5_bet : Cond.instanceMethod yX5_bet ∈ AW := aw_mem 390 (by decide +kernel)
theorem se_X5_bet : Cond.selects yX5_bet.cls yX5_bet yX5_bet ∈ AW := aw_mem 391 (by decide +kernel)
theorem yw_X5_bet : yW yX5_bet 3 := by unfold yW; decide +kernel
theorem cl_L_80 : VW RL 80 yX5_bet cX5_bet 5 (some .int) 3 := ⟨cw_X5_bet, aw_mem 389 (by decide +kernel), im_X5_bet, se_X5_bet, in_X5, yw_X5_bet⟩
set_option maxRecDepth 1000000 in
theorem cw_X5_undo : Cond.code yX5_undo cX5_undo 2 (some .int) ∈ AW := aw_mem 396 ⟨rfl, by decide +kernel⟩
theorem im_X5_undo : Cond.instanceMethod yX5_undo ∈ AW := aw_mem 394 (by decide +kernel)
theorem se_X5_undo : Cond.selects yX5_undo.cls yX5_undo yX5_undo ∈ AW := aw_mem 395 (by decide +kernel)
theorem yw_X5_undo : yW yX5_undo 0 := by unfold yW; decide +kernel
theorem cl_L_108 : VW RL 108 yX5_undo cX5_undo 2 (some .int) 0 := ⟨cw_X5_undo, aw_mem 393 (by decide +kernel), im_X5_undo, se_X5_undo, in_X5, yw_X5_undo⟩
set_option maxRecDepth 1000000 in
theorem cw_X5_restore : Cond.code yX5_restore cX5_restore 1 (some .int) ∈ AW := aw_mem 400 ⟨rfl, by decide +kernel⟩
theorem im_X5_restore : Cond.instanceMethod yX5_restore ∈ AW := aw_mem 398 (by decide +kernel)
theorem se_X5_restore : Cond.selects yX5_restore.cls yX5_restore yX5_restore ∈ AW := aw_mem 399 (by decide +kernel)
theorem yw_X5_restore : yW yX5_restore 0 := by unfold yW; decide +kernel
theorem cl_L_58 : VW RL 58 yX5_restore cX5_restore 1 (some .int) 0 := ⟨cw_X5_restore, aw_mem 397 (by decide +kernel), im_X5_restore, se_X5_restore, in_X5, yw_X5_restore⟩
set_option maxRecDepth 1000000 in
theorem cw_X5_count : Cond.code yX5_count cX5_count 2 (some .int) ∈ AW := aw_mem 404 ⟨rfl, by decide +kernel⟩
theorem im_X5_count : Cond.instanceMethod yX5_count ∈ AW := aw_mem 402 (by decide +kernel)
theorem se_X5_count : Cond.selects yX5_count.cls yX5_count yX5_count ∈ AW := aw_mem 403 (by decide +kernel)
theorem yw_X5_count : yW yX5_count 1 := by unfold yW; decide +kernel
theorem cl_L_8 : VW RL 8 yX5_count cX5_count 2 (some .int) 1 := ⟨cw_X5_count, aw_mem 401 (by decide +kernel), im_X5_count, se_X5_count, in_X5, yw_X5_count⟩
set_option maxRecDepth 1000000 in
theorem cw_X3_knownYears : Cond.code yX3_knownYears cX3_knownYears 1 (some .int) ∈ AW := aw_mem 408 ⟨rfl, by decide +kernel⟩
theorem im_X3_knownYears : Cond.instanceMethod yX3_knownYears ∈ AW := aw_mem 406 (by decide +kernel)
theorem se_X3_knownYears : Cond.selects yX3_knownYears.cls yX3_knownYears yX3_knownYears ∈ AW := aw_mem 407 (by decide +kernel)
theorem yw_X3_knownYears : yW yX3_knownYears 0 := by unfold yW; decide +kernel
theorem cl_X5_169 : VW RX5 169 yX3_knownYears cX3_knownYears 1 (some .int) 0 := ⟨cw_X3_knownYears, aw_mem 405 (by decide +kernel), im_X3_knownYears, se_X3_knownYears, in_X3, yw_X3_knownYears⟩
theorem ml_X3_84 : Cond.methodLink RX3 84 Lib.Math.min.name ∈ AW := aw_mem 409 (by decide +kernel)
set_option maxRecDepth 1000000 in
theorem cw_X3_endedYear : Cond.code yX3_endedYear cX3_endedYear 2 (some (.object "MistakeAlmanac$Year")) ∈ AW := aw_mem 413 ⟨rfl, by decide +kernel⟩
theorem im_X3_endedYear : Cond.instanceMethod yX3_endedYear ∈ AW := aw_mem 411 (by decide +kernel)
theorem se_X3_endedYear : Cond.selects yX3_endedYear.cls yX3_endedYear yX3_endedYear ∈ AW := aw_mem 412 (by decide +kernel)
theorem yw_X3_endedYear : yW yX3_endedYear 1 := by unfold yW; decide +kernel
theorem cl_X5_172 : VW RX5 172 yX3_endedYear cX3_endedYear 2 (some (.object "MistakeAlmanac$Year")) 1 := ⟨cw_X3_endedYear, aw_mem 410 (by decide +kernel), im_X3_endedYear, se_X3_endedYear, in_X3, yw_X3_endedYear⟩
set_option maxRecDepth 1000000 in
theorem cw_X5_meanMistake : Cond.code yX5_meanMistake cX5_meanMistake 1 (some .float) ∈ AW := aw_mem 418 ⟨rfl, by decide +kernel⟩
theorem im_X5_meanMistake : Cond.instanceMethod yX5_meanMistake ∈ AW := aw_mem 416 (by decide +kernel)
theorem se_X5_meanMistake : Cond.selects yX5_meanMistake.cls yX5_meanMistake yX5_meanMistake ∈ AW := aw_mem 417 (by decide +kernel)
theorem yw_X5_meanMistake : yW yX5_meanMistake 0 := by unfold yW; decide +kernel
theorem cl_L_104 : VW RL 104 yX5_meanMistake cX5_meanMistake 1 (some .float) 0 := ⟨cw_X5_meanMistake, aw_mem 415 (by decide +kernel), im_X5_meanMistake, se_X5_meanMistake, in_X5, yw_X5_meanMistake⟩
set_option maxRecDepth 1000000 in
theorem cw_X5_nextBase : Cond.code yX5_nextBase cX5_nextBase 4 (some .int) ∈ AW := aw_mem 422 ⟨rfl, by decide +kernel⟩
theorem im_X5_nextBase : Cond.instanceMethod yX5_nextBase ∈ AW := aw_mem 420 (by decide +kernel)
theorem se_X5_nextBase : Cond.selects yX5_nextBase.cls yX5_nextBase yX5_nextBase ∈ AW := aw_mem 421 (by decide +kernel)
theorem yw_X5_nextBase : yW yX5_nextBase 1 := by unfold yW; decide +kernel
theorem cl_L_56 : VW RL 56 yX5_nextBase cX5_nextBase 4 (some .int) 1 := ⟨cw_X5_nextBase, aw_mem 419 (by decide +kernel), im_X5_nextBase, se_X5_nextBase, in_X5, yw_X5_nextBase⟩
theorem cl_X5_176 : VW RX5 176 yX4_meanByDays cX4_meanByDays 8 (some .int) 2 := ⟨cw_X4_meanByDays, aw_mem 423 (by decide +kernel), im_X4_meanByDays, se_X4_meanByDays, in_X4, yw_X4_meanByDays⟩
theorem cl_X5_211 : SW RX5 211 yX5_mended cX5_mended 3 (some .int) 3 := ⟨cw_X5_mended, aw_mem 424 (by decide +kernel), sm_X5_mended, in_X5, yw_X5_mended⟩
set_option maxRecDepth 1000000 in
theorem cw_X5_bestRate : Cond.code yX5_bestRate cX5_bestRate 8 (some .int) ∈ AW := aw_mem 428 ⟨rfl, by decide +kernel⟩
theorem im_X5_bestRate : Cond.instanceMethod yX5_bestRate ∈ AW := aw_mem 426 (by decide +kernel)
theorem se_X5_bestRate : Cond.selects yX5_bestRate.cls yX5_bestRate yX5_bestRate ∈ AW := aw_mem 427 (by decide +kernel)
theorem yw_X5_bestRate : yW yX5_bestRate 1 := by unfold yW; decide +kernel
theorem cl_L_61 : VW RL 61 yX5_bestRate cX5_bestRate 8 (some .int) 1 := ⟨cw_X5_bestRate, aw_mem 425 (by decide +kernel), im_X5_bestRate, se_X5_bestRate, in_X5, yw_X5_bestRate⟩
set_option maxRecDepth 1000000 in
theorem cw_X5_sumWithRate : Cond.code yX5_sumWithRate cX5_sumWithRate 6 (some .int) ∈ AW := aw_mem 432 ⟨rfl, by decide +kernel⟩
theorem im_X5_sumWithRate : Cond.instanceMethod yX5_sumWithRate ∈ AW := aw_mem 431 (by decide +kernel)
theorem se_X5_sumWithRate : Cond.selects yX5_sumWithRate.cls yX5_sumWithRate yX5_sumWithRate ∈ AW := aw_mem 7 (by decide +kernel)
theorem yw_X5_sumWithRate : yW yX5_sumWithRate 3 := by unfold yW; decide +kernel
theorem cl_X5_218 : VW RX5 218 yX5_sumWithRate cX5_sumWithRate 6 (some .int) 3 := ⟨cw_X5_sumWithRate, aw_mem 429 (by decide +kernel), im_X5_sumWithRate, se_X5_sumWithRate, in_X5, yw_X5_sumWithRate⟩
theorem ml_X5_229 : Cond.methodLink RX5 229 Lib.Math.abs.name ∈ AW := aw_mem 433 (by decide +kernel)
set_option maxRecDepth 1000000 in
theorem cw_L_cell : Cond.code yL_cell cL_cell 2 (some .int) ∈ AW := aw_mem 436 ⟨rfl, by decide +kernel⟩
theorem sm_L_cell : Cond.static yL_cell ∈ AW := aw_mem 435 (by decide +kernel)
theorem yw_L_cell : yW yL_cell 2 := by unfold yW; decide +kernel
theorem cl_L_114 : SW RL 114 yL_cell cL_cell 2 (some .int) 2 := ⟨cw_L_cell, aw_mem 434 (by decide +kernel), sm_L_cell, in_L, yw_L_cell⟩
set_option maxRecDepth 1000000 in
theorem cw_L_low : Cond.code yL_low cL_low 2 (some .int) ∈ AW := aw_mem 439 ⟨rfl, by decide +kernel⟩
theorem sm_L_low : Cond.static yL_low ∈ AW := aw_mem 438 (by decide +kernel)
theorem yw_L_low : yW yL_low 2 := by unfold yW; decide +kernel
theorem cl_L_64 : SW RL 64 yL_low cL_low 2 (some .int) 2 := ⟨cw_L_low, aw_mem 437 (by decide +kernel), sm_L_low, in_L, yw_L_low⟩
set_option maxRecDepth 1000000 in
theorem cw_L_areDays : Cond.code yL_areDays cL_areDays 9 (some .boolean) ∈ AW := aw_mem 443 ⟨rfl, by decide +kernel⟩
theorem sm_L_areDays : Cond.static yL_areDays ∈ AW := aw_mem 442 (by decide +kernel)
theorem yw_L_areDays : yW yL_areDays 1 := by unfold yW; decide +kernel
theorem cl_L_96 : SW RL 96 yL_areDays cL_areDays 9 (some .boolean) 1 := ⟨cw_L_areDays, aw_mem 441 (by decide +kernel), sm_L_areDays, in_L, yw_L_areDays⟩
set_option maxRecDepth 1000000 in
theorem cw_X5_dayOf : Cond.code yX5_dayOf cX5_dayOf 5 (some .int) ∈ AW := aw_mem 447 ⟨rfl, by decide +kernel⟩
theorem im_X5_dayOf : Cond.instanceMethod yX5_dayOf ∈ AW := aw_mem 445 (by decide +kernel)
theorem se_X5_dayOf : Cond.selects yX5_dayOf.cls yX5_dayOf yX5_dayOf ∈ AW := aw_mem 446 (by decide +kernel)
theorem yw_X5_dayOf : yW yX5_dayOf 2 := by unfold yW; decide +kernel
theorem cl_L_14 : VW RL 14 yX5_dayOf cX5_dayOf 5 (some .int) 2 := ⟨cw_X5_dayOf, aw_mem 444 (by decide +kernel), im_X5_dayOf, se_X5_dayOf, in_X5, yw_X5_dayOf⟩
theorem cl_X5_152 : VW RX5 152 yX3_foretoldOf cX3_foretoldOf 4 (some .int) 1 := ⟨cw_X3_foretoldOf, aw_mem 448 (by decide +kernel), im_X3_foretoldOf, se_X3_foretoldOf, in_X3, yw_X3_foretoldOf⟩
theorem cl_X5_161 : VW RX5 161 yX3_isFrostForetold cX3_isFrostForetold 2 (some .boolean) 1 := ⟨cw_X3_isFrostForetold, aw_mem 449 (by decide +kernel), im_X3_isFrostForetold, se_X3_isFrostForetold, in_X3, yw_X3_isFrostForetold⟩
set_option maxRecDepth 1000000 in
theorem cw_X5_oneIf : Cond.code yX5_oneIf cX5_oneIf 1 (some .int) ∈ AW := aw_mem 452 ⟨rfl, by decide +kernel⟩
theorem sm_X5_oneIf : Cond.static yX5_oneIf ∈ AW := aw_mem 451 (by decide +kernel)
theorem yw_X5_oneIf : yW yX5_oneIf 1 := by unfold yW; decide +kernel
theorem cl_X5_165 : SW RX5 165 yX5_oneIf cX5_oneIf 1 (some .int) 1 := ⟨cw_X5_oneIf, aw_mem 450 (by decide +kernel), sm_X5_oneIf, in_X5, yw_X5_oneIf⟩
set_option maxRecDepth 1000000 in
theorem cw_X5_saintOf : Cond.code yX5_saintOf cX5_saintOf 4 (some .int) ∈ AW := aw_mem 456 ⟨rfl, by decide +kernel⟩
theorem im_X5_saintOf : Cond.instanceMethod yX5_saintOf ∈ AW := aw_mem 454 (by decide +kernel)
theorem se_X5_saintOf : Cond.selects yX5_saintOf.cls yX5_saintOf yX5_saintOf ∈ AW := aw_mem 455 (by decide +kernel)
theorem yw_X5_saintOf : yW yX5_saintOf 2 := by unfold yW; decide +kernel
theorem cl_L_18 : VW RL 18 yX5_saintOf cX5_saintOf 4 (some .int) 2 := ⟨cw_X5_saintOf, aw_mem 453 (by decide +kernel), im_X5_saintOf, se_X5_saintOf, in_X5, yw_X5_saintOf⟩
theorem cl_X5_183 : VW RX5 183 yX3_isTelling cX3_isTelling 2 (some .boolean) 1 := ⟨cw_X3_isTelling, aw_mem 457 (by decide +kernel), im_X3_isTelling, se_X3_isTelling, in_X3, yw_X3_isTelling⟩
set_option maxRecDepth 1000000 in
theorem cw_L_bounded : Cond.code yL_bounded cL_bounded 1 (some .int) ∈ AW := aw_mem 460 ⟨rfl, by decide +kernel⟩
theorem sm_L_bounded : Cond.static yL_bounded ∈ AW := aw_mem 459 (by decide +kernel)
theorem yw_L_bounded : yW yL_bounded 1 := by unfold yW; decide +kernel
theorem cl_L_21 : SW RL 21 yL_bounded cL_bounded 1 (some .int) 1 := ⟨cw_L_bounded, aw_mem 458 (by decide +kernel), sm_L_bounded, in_L, yw_L_bounded⟩
set_option maxRecDepth 1000000 in
theorem cw_L_size : Cond.code yL_size cL_size 1 (some .int) ∈ AW := aw_mem 463 ⟨rfl, by decide +kernel⟩
theorem sm_L_size : Cond.static yL_size ∈ AW := aw_mem 462 (by decide +kernel)
theorem yw_L_size : yW yL_size 1 := by unfold yW; decide +kernel
theorem cl_L_26 : SW RL 26 yL_size cL_size 1 (some .int) 1 := ⟨cw_L_size, aw_mem 461 (by decide +kernel), sm_L_size, in_L, yw_L_size⟩
set_option maxRecDepth 1000000 in
theorem cw_L_areYears : Cond.code yL_areYears cL_areYears 9 (some .boolean) ∈ AW := aw_mem 466 ⟨rfl, by decide +kernel⟩
theorem sm_L_areYears : Cond.static yL_areYears ∈ AW := aw_mem 465 (by decide +kernel)
theorem yw_L_areYears : yW yL_areYears 2 := by unfold yW; decide +kernel
theorem cl_L_100 : SW RL 100 yL_areYears cL_areYears 9 (some .boolean) 2 := ⟨cw_L_areYears, aw_mem 464 (by decide +kernel), sm_L_areYears, in_L, yw_L_areYears⟩
set_option maxRecDepth 1000000 in
theorem cw_X5_past : Cond.code yX5_past cX5_past 5 (some .int) ∈ AW := aw_mem 470 ⟨rfl, by decide +kernel⟩
theorem im_X5_past : Cond.instanceMethod yX5_past ∈ AW := aw_mem 468 (by decide +kernel)
theorem se_X5_past : Cond.selects yX5_past.cls yX5_past yX5_past ∈ AW := aw_mem 469 (by decide +kernel)
theorem yw_X5_past : yW yX5_past 3 := by unfold yW; decide +kernel
theorem cl_L_29 : VW RL 29 yX5_past cX5_past 5 (some .int) 3 := ⟨cw_X5_past, aw_mem 467 (by decide +kernel), im_X5_past, se_X5_past, in_X5, yw_X5_past⟩
set_option maxRecDepth 1000000 in
theorem cw_X5_mean : Cond.code yX5_mean cX5_mean 5 (some .int) ∈ AW := aw_mem 474 ⟨rfl, by decide +kernel⟩
theorem im_X5_mean : Cond.instanceMethod yX5_mean ∈ AW := aw_mem 472 (by decide +kernel)
theorem se_X5_mean : Cond.selects yX5_mean.cls yX5_mean yX5_mean ∈ AW := aw_mem 473 (by decide +kernel)
theorem yw_X5_mean : yW yX5_mean 3 := by unfold yW; decide +kernel
theorem cl_L_33 : VW RL 33 yX5_mean cX5_mean 5 (some .int) 3 := ⟨cw_X5_mean, aw_mem 471 (by decide +kernel), im_X5_mean, se_X5_mean, in_X5, yw_X5_mean⟩
set_option maxRecDepth 1000000 in
theorem cw_X4_meanBySums : Cond.code yX4_meanBySums cX4_meanBySums 7 (some .int) ∈ AW := aw_mem 478 ⟨rfl, by decide +kernel⟩
theorem im_X4_meanBySums : Cond.instanceMethod yX4_meanBySums ∈ AW := aw_mem 476 (by decide +kernel)
theorem se_X4_meanBySums : Cond.selects yX4_meanBySums.cls yX4_meanBySums yX4_meanBySums ∈ AW := aw_mem 477 (by decide +kernel)
theorem yw_X4_meanBySums : yW yX4_meanBySums 2 := by unfold yW; decide +kernel
theorem cl_X5_180 : VW RX5 180 yX4_meanBySums cX4_meanBySums 7 (some .int) 2 := ⟨cw_X4_meanBySums, aw_mem 475 (by decide +kernel), im_X4_meanBySums, se_X4_meanBySums, in_X4, yw_X4_meanBySums⟩
set_option maxRecDepth 1000000 in
theorem cw_X4_sumBefore : Cond.code yX4_sumBefore cX4_sumBefore 4 (some .int) ∈ AW := aw_mem 482 ⟨rfl, by decide +kernel⟩
theorem im_X4_sumBefore : Cond.instanceMethod yX4_sumBefore ∈ AW := aw_mem 481 (by decide +kernel)
theorem se_X4_sumBefore : Cond.selects yX4_sumBefore.cls yX4_sumBefore yX4_sumBefore ∈ AW := aw_mem 8 (by decide +kernel)
theorem yw_X4_sumBefore : yW yX4_sumBefore 1 := by unfold yW; decide +kernel
theorem cl_X4_50 : VW RX4 50 yX4_sumBefore cX4_sumBefore 4 (some .int) 1 := ⟨cw_X4_sumBefore, aw_mem 479 (by decide +kernel), im_X4_sumBefore, se_X4_sumBefore, in_X4, yw_X4_sumBefore⟩
set_option maxRecDepth 1000000 in
theorem cw_X5_bestBound : Cond.code yX5_bestBound cX5_bestBound 8 (some .int) ∈ AW := aw_mem 486 ⟨rfl, by decide +kernel⟩
theorem im_X5_bestBound : Cond.instanceMethod yX5_bestBound ∈ AW := aw_mem 484 (by decide +kernel)
theorem se_X5_bestBound : Cond.selects yX5_bestBound.cls yX5_bestBound yX5_bestBound ∈ AW := aw_mem 485 (by decide +kernel)
theorem yw_X5_bestBound : yW yX5_bestBound 1 := by unfold yW; decide +kernel
theorem cl_L_36 : VW RL 36 yX5_bestBound cX5_bestBound 8 (some .int) 1 := ⟨cw_X5_bestBound, aw_mem 483 (by decide +kernel), im_X5_bestBound, se_X5_bestBound, in_X5, yw_X5_bestBound⟩
set_option maxRecDepth 1000000 in
theorem cw_X4_wrongFrosts : Cond.code yX4_wrongFrosts cX4_wrongFrosts 4 (some .int) ∈ AW := aw_mem 490 ⟨rfl, by decide +kernel⟩
theorem im_X4_wrongFrosts : Cond.instanceMethod yX4_wrongFrosts ∈ AW := aw_mem 488 (by decide +kernel)
theorem se_X4_wrongFrosts : Cond.selects yX4_wrongFrosts.cls yX4_wrongFrosts yX4_wrongFrosts ∈ AW := aw_mem 489 (by decide +kernel)
theorem yw_X4_wrongFrosts : yW yX4_wrongFrosts 1 := by unfold yW; decide +kernel
theorem cl_X5_215 : VW RX5 215 yX4_wrongFrosts cX4_wrongFrosts 4 (some .int) 1 := ⟨cw_X4_wrongFrosts, aw_mem 487 (by decide +kernel), im_X4_wrongFrosts, se_X4_wrongFrosts, in_X4, yw_X4_wrongFrosts⟩
theorem cl_X4_54 : NW yX5_isFrost cX5_isFrost 1 (some .boolean) 1 := ⟨cw_X5_isFrost, sm_X5_isFrost, in_X5, yw_X5_isFrost⟩
set_option maxRecDepth 1000000 in
theorem cw_L_isBound : Cond.code yL_isBound cL_isBound 8 (some .boolean) ∈ AW := aw_mem 494 ⟨rfl, by decide +kernel⟩
theorem sm_L_isBound : Cond.static yL_isBound ∈ AW := aw_mem 493 (by decide +kernel)
theorem yw_L_isBound : yW yL_isBound 1 := by unfold yW; decide +kernel
theorem cl_L_122 : SW RL 122 yL_isBound cL_isBound 8 (some .boolean) 1 := ⟨cw_L_isBound, aw_mem 492 (by decide +kernel), sm_L_isBound, in_L, yw_L_isBound⟩
theorem sm_L_does : Cond.static yL_does ∈ AW := aw_mem 496 (by decide +kernel)
theorem yw_L_does : yW yL_does 4 := by unfold yW; decide +kernel
set_option maxRecDepth 1000000 in
theorem cw_X5_strike : Cond.code yX5_strike cX5_strike 2 (some .int) ∈ AW := aw_mem 501 ⟨rfl, by decide +kernel⟩
theorem im_X5_strike : Cond.instanceMethod yX5_strike ∈ AW := aw_mem 499 (by decide +kernel)
theorem se_X5_strike : Cond.selects yX5_strike.cls yX5_strike yX5_strike ∈ AW := aw_mem 500 (by decide +kernel)
theorem yw_X5_strike : yW yX5_strike 1 := by unfold yW; decide +kernel
theorem cl_L_74 : VW RL 74 yX5_strike cX5_strike 2 (some .int) 1 := ⟨cw_X5_strike, aw_mem 498 (by decide +kernel), im_X5_strike, se_X5_strike, in_X5, yw_X5_strike⟩
set_option maxRecDepth 1000000 in
theorem cw_X3_removeSaint : Cond.code yX3_removeSaint cX3_removeSaint 3 none ∈ AW := aw_mem 505 ⟨rfl, by decide +kernel⟩
theorem im_X3_removeSaint : Cond.instanceMethod yX3_removeSaint ∈ AW := aw_mem 503 (by decide +kernel)
theorem se_X3_removeSaint : Cond.selects yX3_removeSaint.cls yX3_removeSaint yX3_removeSaint ∈ AW := aw_mem 504 (by decide +kernel)
theorem yw_X3_removeSaint : yW yX3_removeSaint 1 := by unfold yW; decide +kernel
theorem cl_X5_112 : VW RX5 112 yX3_removeSaint cX3_removeSaint 3 none 1 := ⟨cw_X3_removeSaint, aw_mem 502 (by decide +kernel), im_X3_removeSaint, se_X3_removeSaint, in_X3, yw_X3_removeSaint⟩
set_option maxRecDepth 1000000 in
theorem cw_X5_readerOf : Cond.code yX5_readerOf cX5_readerOf 4 (some .int) ∈ AW := aw_mem 509 ⟨rfl, by decide +kernel⟩
theorem im_X5_readerOf : Cond.instanceMethod yX5_readerOf ∈ AW := aw_mem 507 (by decide +kernel)
theorem se_X5_readerOf : Cond.selects yX5_readerOf.cls yX5_readerOf yX5_readerOf ∈ AW := aw_mem 508 (by decide +kernel)
theorem yw_X5_readerOf : yW yX5_readerOf 2 := by unfold yW; decide +kernel
theorem cl_L_39 : VW RL 39 yX5_readerOf cX5_readerOf 4 (some .int) 2 := ⟨cw_X5_readerOf, aw_mem 506 (by decide +kernel), im_X5_readerOf, se_X5_readerOf, in_X5, yw_X5_readerOf⟩
set_option maxRecDepth 1000000 in
theorem cw_X5_takeBack : Cond.code yX5_takeBack cX5_takeBack 3 (some .int) ∈ AW := aw_mem 513 ⟨rfl, by decide +kernel⟩
theorem im_X5_takeBack : Cond.instanceMethod yX5_takeBack ∈ AW := aw_mem 511 (by decide +kernel)
theorem se_X5_takeBack : Cond.selects yX5_takeBack.cls yX5_takeBack yX5_takeBack ∈ AW := aw_mem 512 (by decide +kernel)
theorem yw_X5_takeBack : yW yX5_takeBack 1 := by unfold yW; decide +kernel
theorem cl_L_84 : VW RL 84 yX5_takeBack cX5_takeBack 3 (some .int) 1 := ⟨cw_X5_takeBack, aw_mem 510 (by decide +kernel), im_X5_takeBack, se_X5_takeBack, in_X5, yw_X5_takeBack⟩
theorem cl_X5_140 : VW RX5 140 yX1_dropBet cX1_dropBet 1 none 0 := ⟨cw_X1_dropBet, aw_mem 514 (by decide +kernel), im_X1_dropBet, se_X1_dropBet, in_X1, yw_X1_dropBet⟩
set_option maxRecDepth 1000000 in
theorem cw_L_isNext : Cond.code yL_isNext cL_isNext 6 (some .boolean) ∈ AW := aw_mem 517 ⟨rfl, by decide +kernel⟩
theorem sm_L_isNext : Cond.static yL_isNext ∈ AW := aw_mem 516 (by decide +kernel)
theorem yw_L_isNext : yW yL_isNext 2 := by unfold yW; decide +kernel
theorem cl_L_87 : SW RL 87 yL_isNext cL_isNext 6 (some .boolean) 2 := ⟨cw_L_isNext, aw_mem 515 (by decide +kernel), sm_L_isNext, in_L, yw_L_isNext⟩
set_option maxRecDepth 1000000 in
theorem cw_X5_keep : Cond.code yX5_keep cX5_keep 1 (some .int) ∈ AW := aw_mem 521 ⟨rfl, by decide +kernel⟩
theorem im_X5_keep : Cond.instanceMethod yX5_keep ∈ AW := aw_mem 519 (by decide +kernel)
theorem se_X5_keep : Cond.selects yX5_keep.cls yX5_keep yX5_keep ∈ AW := aw_mem 520 (by decide +kernel)
theorem yw_X5_keep : yW yX5_keep 0 := by unfold yW; decide +kernel
theorem cl_L_52 : VW RL 52 yX5_keep cX5_keep 1 (some .int) 0 := ⟨cw_X5_keep, aw_mem 518 (by decide +kernel), im_X5_keep, se_X5_keep, in_X5, yw_X5_keep⟩
theorem sm_L_isDay : Cond.static yL_isDay ∈ AW := aw_mem 523 (by decide +kernel)
theorem yw_L_isDay : yW yL_isDay 3 := by unfold yW; decide +kernel
set_option maxRecDepth 1000000 in
theorem cw_X5_ifMeasured : Cond.code yX5_ifMeasured cX5_ifMeasured 5 (some .int) ∈ AW := aw_mem 528 ⟨rfl, by decide +kernel⟩
theorem im_X5_ifMeasured : Cond.instanceMethod yX5_ifMeasured ∈ AW := aw_mem 526 (by decide +kernel)
theorem se_X5_ifMeasured : Cond.selects yX5_ifMeasured.cls yX5_ifMeasured yX5_ifMeasured ∈ AW := aw_mem 527 (by decide +kernel)
theorem yw_X5_ifMeasured : yW yX5_ifMeasured 2 := by unfold yW; decide +kernel
theorem cl_L_42 : VW RL 42 yX5_ifMeasured cX5_ifMeasured 5 (some .int) 2 := ⟨cw_X5_ifMeasured, aw_mem 525 (by decide +kernel), im_X5_ifMeasured, se_X5_ifMeasured, in_X5, yw_X5_ifMeasured⟩
theorem cl_X5_222 : SW RX5 222 yX5_isFrost cX5_isFrost 1 (some .boolean) 1 := ⟨cw_X5_isFrost, aw_mem 529 (by decide +kernel), sm_X5_isFrost, in_X5, yw_X5_isFrost⟩
theorem cl_X5_225 : VW RX5 225 yX1_winnings cX1_winnings 4 (some .int) 3 := ⟨cw_X1_winnings, aw_mem 530 (by decide +kernel), im_X1_winnings, se_X1_winnings, in_X1, yw_X1_winnings⟩
set_option maxRecDepth 1000000 in
theorem cw_L_nextBase : Cond.code yL_nextBase cL_nextBase 8 (some .int) ∈ AW := aw_mem 533 ⟨rfl, by decide +kernel⟩
theorem sm_L_nextBase : Cond.static yL_nextBase ∈ AW := aw_mem 532 (by decide +kernel)
theorem yw_L_nextBase : yW yL_nextBase 3 := by unfold yW; decide +kernel
theorem cl_L_45 : SW RL 45 yL_nextBase cL_nextBase 8 (some .int) 3 := ⟨cw_L_nextBase, aw_mem 531 (by decide +kernel), sm_L_nextBase, in_L, yw_L_nextBase⟩
