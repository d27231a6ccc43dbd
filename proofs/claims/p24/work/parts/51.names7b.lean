set_option maxRecDepth 20000 in
theorem wsL_law_in0_r7 : ∀ w ∈ wsL_law0_r7, w ∈ lw_tbl := fun w h => (goodIn_p wsL_law0_r7 [319, 316, 296, 300, 304, 307, 310] (by decide +kernel) (by decide +kernel) w h).1
set_option maxRecDepth 20000 in
theorem wsL_law_in0_r8 : ∀ w ∈ wsL_law0_r8, w ∈ lw_tbl := fun w h => (goodIn_p wsL_law0_r8 [313, 323, 330, 335, 339, 343] (by decide +kernel) (by decide +kernel) w h).1
set_option maxRecDepth 20000 in
theorem wsL_law_in0_r9 : ∀ w ∈ wsL_law0_r9, w ∈ lw_tbl := fun w h => (goodIn_p wsL_law0_r9 [346, 349, 352, 355, 358, 361] (by decide +kernel) (by decide +kernel) w h).1
set_option maxRecDepth 40000 in
theorem wsL_law_asks9 : Cond.code yL_asks cL_asks 20 (some .boolean) ∈ lw_tbl := List.mem_of_getElem? (i := 387) rfl
def wsL_law0_r10a : List Cond := [Cond.code yX0_paint cX0_paint 4 (some .int), Cond.methodLink RX0 152 yX0_needPixel, Cond.static yX0_needPixel, Cond.code yX0_needPixel cX0_needPixel 1 none, Cond.methodLink RL 82 yX0_spot, Cond.instanceMethod yX0_spot, Cond.selects RX0 yX0_spot yX0_spot, Cond.code yX0_spot cX0_spot 4 (some .int), Cond.methodLink RX0 155 yX0_needInk, Cond.static yX0_needInk, Cond.code yX0_needInk cX0_needInk 1 none, Cond.methodLink RL 85 yX0_mix, Cond.instanceMethod yX0_mix, Cond.selects RX0 yX0_mix yX0_mix, Cond.code yX0_mix cX0_mix 4 (some .int), Cond.methodLink RL 161 yL_asks, Cond.static yL_asks]
def wsL_law0_r10b : List Cond := [Cond.methodLink RL 122 yL_of, Cond.static yL_of, Cond.codeWith yL_of cL_of 6 (some .int) [(0, 55, 56, 37), (0, 55, 61, 39), (0, 55, 66, 41)], Cond.methodLink RL 68 yX0_curve, Cond.instanceMethod yX0_curve, Cond.selects RX0 yX0_curve yX0_curve]
set_option maxRecDepth 20000 in
theorem wsL_law_in0_r10 : ∀ w ∈ wsL_law0_r10, w ∈ lw_tbl := fun w h => by
  have e : wsL_law0_r10 = wsL_law0_r10a ++ (Cond.code yL_asks cL_asks 20 (some .boolean) :: wsL_law0_r10b) := rfl
  rw [e] at h
  rcases List.mem_append.mp h with h | h
  · exact (goodIn_p wsL_law0_r10a [368, 371, 376, 379, 384] (by decide +kernel) (by decide +kernel) w h).1
  · rcases List.mem_cons.mp h with h | h
    · rw [h]; exact wsL_law_asks9
    · exact (goodIn_p wsL_law0_r10b [] (by decide +kernel) (by decide +kernel) w h).1
set_option maxRecDepth 20000 in
theorem wsL_law_in0_r11 : ∀ w ∈ wsL_law0_r11, w ∈ lw_tbl := fun w h => (goodIn_p wsL_law0_r11 [394, 398, 402, 406, 411, 415] (by decide +kernel) (by decide +kernel) w h).1
set_option maxRecDepth 20000 in
theorem wsL_law_in0_r12 : ∀ w ∈ wsL_law0_r12, w ∈ lw_tbl := fun w h => (goodIn_p wsL_law0_r12 [423, 428, 431] (by decide +kernel) (by decide +kernel) w h).1
