set_option maxRecDepth 1000000 in
set_option maxHeartbeats 4000000 in
theorem cw_L_does : Cond.code yL_does cL_does 21 (some .boolean) ∈ AW := aw_mem 497 ⟨rfl, by decide +kernel⟩
theorem cl_L_118 : SW RL 118 yL_does cL_does 21 (some .boolean) 4 := ⟨cw_L_does, aw_mem 495 (by decide +kernel), sm_L_does, in_L, yw_L_does⟩
set_option maxRecDepth 1000000 in
set_option maxHeartbeats 4000000 in
theorem cw_L_isDay : Cond.code yL_isDay cL_isDay 18 (some .boolean) ∈ AW := aw_mem 524 ⟨rfl, by decide +kernel⟩
theorem cl_L_91 : SW RL 91 yL_isDay cL_isDay 18 (some .boolean) 3 := ⟨cw_L_isDay, aw_mem 522 (by decide +kernel), sm_L_isDay, in_L, yw_L_isDay⟩
