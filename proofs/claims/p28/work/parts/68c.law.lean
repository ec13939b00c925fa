set_option maxRecDepth 20000 in
theorem in_wsL_law0_r15_0 : (Cond.methodLink RL 88 yL_undo) ∈ lw_tbl := by decide +kernel
set_option maxRecDepth 20000 in
theorem in_wsL_law0_r15_1 : (Cond.static yL_undo) ∈ lw_tbl := by decide +kernel
set_option maxRecDepth 20000 in
theorem in_wsL_law0_r15_2 : (Cond.codeWith yL_undo cL_undo 2 (some .int) [(0, 4, 5, 18)]) ∈ lw_tbl := (List.mem_append_right _ (List.mem_append_right _ (List.mem_append_left _ (List.mem_of_getElem? (i := 233) rfl))))
set_option maxRecDepth 20000 in
theorem in_wsL_law0_r15_3 : (Cond.methodLink RL 62 yX5_undo) ∈ lw_tbl := by decide +kernel
set_option maxRecDepth 20000 in
theorem in_wsL_law0_r15_4 : (Cond.instanceMethod yX5_undo) ∈ lw_tbl := by decide +kernel
set_option maxRecDepth 20000 in
theorem in_wsL_law0_r15_5 : (Cond.selects RX5 yX5_undo yX5_undo) ∈ lw_tbl := by decide +kernel
set_option maxRecDepth 20000 in
theorem in_wsL_law0_r15_6 : (Cond.code yX5_undo cX5_undo 2 (some .int)) ∈ lw_tbl := by decide +kernel
set_option maxRecDepth 20000 in
theorem in_wsL_law0_r15_7 : (Cond.methodLink RX5 221 yX4_takeNewest) ∈ lw_tbl := by decide +kernel
set_option maxRecDepth 20000 in
theorem in_wsL_law0_r15_8 : (Cond.instanceMethod yX4_takeNewest) ∈ lw_tbl := by decide +kernel
set_option maxRecDepth 20000 in
theorem in_wsL_law0_r15_9 : (Cond.selects RX4 yX4_takeNewest yX4_takeNewest) ∈ lw_tbl := by decide +kernel
set_option maxRecDepth 20000 in
theorem in_wsL_law0_r15_10 : (Cond.code yX4_takeNewest cX4_takeNewest 2 (some (.object "KeelBlocks$Dock"))) ∈ lw_tbl := by decide +kernel
set_option maxRecDepth 20000 in
theorem in_wsL_law0_r15_11 : (Cond.methodLink RL 142 yL_sound) ∈ lw_tbl := by decide +kernel
set_option maxRecDepth 20000 in
theorem in_wsL_law0_r15_12 : (Cond.static yL_sound) ∈ lw_tbl := by decide +kernel
set_option maxRecDepth 20000 in
theorem in_wsL_law0_r15_13 : (Cond.code yL_sound cL_sound 26 (some .boolean)) ∈ lw_tbl := (List.mem_append_right _ (List.mem_append_right _ (List.mem_append_right _ (List.mem_of_getElem? (i := 5) rfl))))
set_option maxRecDepth 20000 in
theorem in_wsL_law0_r15_14 : (Cond.methodLink RL 77 yX5_tilt) ∈ lw_tbl := by decide +kernel
set_option maxRecDepth 20000 in
theorem in_wsL_law0_r15_15 : (Cond.instanceMethod yX5_tilt) ∈ lw_tbl := by decide +kernel
set_option maxRecDepth 20000 in
theorem in_wsL_law0_r15_16 : (Cond.selects RX5 yX5_tilt yX5_tilt) ∈ lw_tbl := by decide +kernel
set_option maxRecDepth 20000 in
theorem in_wsL_law0_r15_17 : (Cond.code yX5_tilt cX5_tilt 3 (some .double)) ∈ lw_tbl := by decide +kernel
set_option maxRecDepth 20000 in
theorem in_wsL_law0_r15_18 : (Cond.methodLink RL 145 yL_lot) ∈ lw_tbl := by decide +kernel
set_option maxRecDepth 20000 in
theorem in_wsL_law0_r15_19 : (Cond.static yL_lot) ∈ lw_tbl := by decide +kernel
set_option maxRecDepth 20000 in
theorem in_wsL_law0_r15_20 : (Cond.code yL_lot cL_lot 2 (some .int)) ∈ lw_tbl := (List.mem_append_right _ (List.mem_append_right _ (List.mem_append_left _ (List.mem_of_getElem? (i := 32) rfl))))
set_option maxRecDepth 20000 in
theorem in_wsL_law0_r15_21 : (Cond.constant RL 7 (2043661235)) ∈ lw_tbl := by decide +kernel
set_option maxRecDepth 20000 in
theorem in_wsL_law0_r15_22 : (Cond.methodLink RL 117 yL_low) ∈ lw_tbl := by decide +kernel
set_option maxRecDepth 20000 in
theorem in_wsL_law0_r15_23 : (Cond.static yL_low) ∈ lw_tbl := by decide +kernel
theorem in_wsL_law0_r15 : ∀ w ∈ wsL_law0_r15, w ∈ lw_tbl := List.forall_mem_cons.mpr ⟨in_wsL_law0_r15_0, List.forall_mem_cons.mpr ⟨in_wsL_law0_r15_1, List.forall_mem_cons.mpr ⟨in_wsL_law0_r15_2, List.forall_mem_cons.mpr ⟨in_wsL_law0_r15_3, List.forall_mem_cons.mpr ⟨in_wsL_law0_r15_4, List.forall_mem_cons.mpr ⟨in_wsL_law0_r15_5, List.forall_mem_cons.mpr ⟨in_wsL_law0_r15_6, List.forall_mem_cons.mpr ⟨in_wsL_law0_r15_7, List.forall_mem_cons.mpr ⟨in_wsL_law0_r15_8, List.forall_mem_cons.mpr ⟨in_wsL_law0_r15_9, List.forall_mem_cons.mpr ⟨in_wsL_law0_r15_10, List.forall_mem_cons.mpr ⟨in_wsL_law0_r15_11, List.forall_mem_cons.mpr ⟨in_wsL_law0_r15_12, List.forall_mem_cons.mpr ⟨in_wsL_law0_r15_13, List.forall_mem_cons.mpr ⟨in_wsL_law0_r15_14, List.forall_mem_cons.mpr ⟨in_wsL_law0_r15_15, List.forall_mem_cons.mpr ⟨in_wsL_law0_r15_16, List.forall_mem_cons.mpr ⟨in_wsL_law0_r15_17, List.forall_mem_cons.mpr ⟨in_wsL_law0_r15_18, List.forall_mem_cons.mpr ⟨in_wsL_law0_r15_19, List.forall_mem_cons.mpr ⟨in_wsL_law0_r15_20, List.forall_mem_cons.mpr ⟨in_wsL_law0_r15_21, List.forall_mem_cons.mpr ⟨in_wsL_law0_r15_22, List.forall_mem_cons.mpr ⟨in_wsL_law0_r15_23, fun _ h => by cases h⟩⟩⟩⟩⟩⟩⟩⟩⟩⟩⟩⟩⟩⟩⟩⟩⟩⟩⟩⟩⟩⟩⟩⟩
set_option maxRecDepth 20000 in
theorem in_wsL_law0_r16_0 : (Cond.code yL_low cL_low 2 (some .int)) ∈ lw_tbl := (List.mem_append_right _ (List.mem_append_right _ (List.mem_append_left _ (List.mem_of_getElem? (i := 36) rfl))))
set_option maxRecDepth 20000 in
theorem in_wsL_law0_r16_1 : (Cond.constant RL 8 (2147483647)) ∈ lw_tbl := by decide +kernel
set_option maxRecDepth 20000 in
theorem in_wsL_law0_r16_2 : (Cond.methodLink RL 149 yL_pulls) ∈ lw_tbl := by decide +kernel
set_option maxRecDepth 20000 in
theorem in_wsL_law0_r16_3 : (Cond.static yL_pulls) ∈ lw_tbl := by decide +kernel
set_option maxRecDepth 20000 in
theorem in_wsL_law0_r16_4 : (Cond.code yL_pulls cL_pulls 8 (some .boolean)) ∈ lw_tbl := (List.mem_append_right _ (List.mem_append_right _ (List.mem_append_right _ (List.mem_of_getElem? (i := 20) rfl))))
set_option maxRecDepth 20000 in
theorem in_wsL_law0_r16_5 : (Cond.methodLink RL 81 yX5_pullable) ∈ lw_tbl := by decide +kernel
set_option maxRecDepth 20000 in
theorem in_wsL_law0_r16_6 : (Cond.instanceMethod yX5_pullable) ∈ lw_tbl := by decide +kernel
set_option maxRecDepth 20000 in
theorem in_wsL_law0_r16_7 : (Cond.selects RX5 yX5_pullable yX5_pullable) ∈ lw_tbl := by decide +kernel
set_option maxRecDepth 20000 in
theorem in_wsL_law0_r16_8 : (Cond.code yX5_pullable cX5_pullable 3 (some .int)) ∈ lw_tbl := by decide +kernel
set_option maxRecDepth 20000 in
theorem in_wsL_law0_r16_9 : (Cond.methodLink RL 153 yL_cascades) ∈ lw_tbl := by decide +kernel
set_option maxRecDepth 20000 in
theorem in_wsL_law0_r16_10 : (Cond.static yL_cascades) ∈ lw_tbl := by decide +kernel
set_option maxRecDepth 20000 in
theorem in_wsL_law0_r16_11 : (Cond.code yL_cascades cL_cascades 6 (some .boolean)) ∈ lw_tbl := (List.mem_append_right _ (List.mem_append_right _ (List.mem_append_right _ (List.mem_of_getElem? (i := 54) rfl))))
set_option maxRecDepth 20000 in
theorem in_wsL_law0_r16_12 : (Cond.methodLink RL 91 yX5_cascadeSteps) ∈ lw_tbl := by decide +kernel
set_option maxRecDepth 20000 in
theorem in_wsL_law0_r16_13 : (Cond.instanceMethod yX5_cascadeSteps) ∈ lw_tbl := by decide +kernel
set_option maxRecDepth 20000 in
theorem in_wsL_law0_r16_14 : (Cond.selects RX5 yX5_cascadeSteps yX5_cascadeSteps) ∈ lw_tbl := by decide +kernel
set_option maxRecDepth 20000 in
theorem in_wsL_law0_r16_15 : (Cond.code yX5_cascadeSteps cX5_cascadeSteps 1 (some .int)) ∈ lw_tbl := by decide +kernel
set_option maxRecDepth 20000 in
theorem in_wsL_law0_r16_16 : (Cond.methodLink RX5 142 yX5_tryCascade) ∈ lw_tbl := by decide +kernel
set_option maxRecDepth 20000 in
theorem in_wsL_law0_r16_17 : (Cond.instanceMethod yX5_tryCascade) ∈ lw_tbl := by decide +kernel
set_option maxRecDepth 20000 in
theorem in_wsL_law0_r16_18 : (Cond.selects RX5 yX5_tryCascade yX5_tryCascade) ∈ lw_tbl := by decide +kernel
set_option maxRecDepth 20000 in
theorem in_wsL_law0_r16_19 : (Cond.code yX5_tryCascade cX5_tryCascade 2 (some .int)) ∈ lw_tbl := by decide +kernel
set_option maxRecDepth 20000 in
theorem in_wsL_law0_r16_20 : (Cond.methodLink RX5 251 yX1_crush) ∈ lw_tbl := by decide +kernel
set_option maxRecDepth 20000 in
theorem in_wsL_law0_r16_21 : (Cond.instanceMethod yX1_crush) ∈ lw_tbl := by decide +kernel
set_option maxRecDepth 20000 in
theorem in_wsL_law0_r16_22 : (Cond.selects RX1 yX1_crush yX1_crush) ∈ lw_tbl := by decide +kernel
set_option maxRecDepth 20000 in
theorem in_wsL_law0_r16_23 : (Cond.code yX1_crush cX1_crush 2 none) ∈ lw_tbl := by decide +kernel
theorem in_wsL_law0_r16 : ∀ w ∈ wsL_law0_r16, w ∈ lw_tbl := List.forall_mem_cons.mpr ⟨in_wsL_law0_r16_0, List.forall_mem_cons.mpr ⟨in_wsL_law0_r16_1, List.forall_mem_cons.mpr ⟨in_wsL_law0_r16_2, List.forall_mem_cons.mpr ⟨in_wsL_law0_r16_3, List.forall_mem_cons.mpr ⟨in_wsL_law0_r16_4, List.forall_mem_cons.mpr ⟨in_wsL_law0_r16_5, List.forall_mem_cons.mpr ⟨in_wsL_law0_r16_6, List.forall_mem_cons.mpr ⟨in_wsL_law0_r16_7, List.forall_mem_cons.mpr ⟨in_wsL_law0_r16_8, List.forall_mem_cons.mpr ⟨in_wsL_law0_r16_9, List.forall_mem_cons.mpr ⟨in_wsL_law0_r16_10, List.forall_mem_cons.mpr ⟨in_wsL_law0_r16_11, List.forall_mem_cons.mpr ⟨in_wsL_law0_r16_12, List.forall_mem_cons.mpr ⟨in_wsL_law0_r16_13, List.forall_mem_cons.mpr ⟨in_wsL_law0_r16_14, List.forall_mem_cons.mpr ⟨in_wsL_law0_r16_15, List.forall_mem_cons.mpr ⟨in_wsL_law0_r16_16, List.forall_mem_cons.mpr ⟨in_wsL_law0_r16_17, List.forall_mem_cons.mpr ⟨in_wsL_law0_r16_18, List.forall_mem_cons.mpr ⟨in_wsL_law0_r16_19, List.forall_mem_cons.mpr ⟨in_wsL_law0_r16_20, List.forall_mem_cons.mpr ⟨in_wsL_law0_r16_21, List.forall_mem_cons.mpr ⟨in_wsL_law0_r16_22, List.forall_mem_cons.mpr ⟨in_wsL_law0_r16_23, fun _ h => by cases h⟩⟩⟩⟩⟩⟩⟩⟩⟩⟩⟩⟩⟩⟩⟩⟩⟩⟩⟩⟩⟩⟩⟩⟩
set_option maxRecDepth 20000 in
theorem in_wsL_law0_r17_0 : (Cond.methodLink RL 94 yX5_survives) ∈ lw_tbl := by decide +kernel
set_option maxRecDepth 20000 in
theorem in_wsL_law0_r17_1 : (Cond.instanceMethod yX5_survives) ∈ lw_tbl := by decide +kernel
set_option maxRecDepth 20000 in
theorem in_wsL_law0_r17_2 : (Cond.selects RX5 yX5_survives yX5_survives) ∈ lw_tbl := by decide +kernel
set_option maxRecDepth 20000 in
theorem in_wsL_law0_r17_3 : (Cond.code yX5_survives cX5_survives 1 (some .boolean)) ∈ lw_tbl := by decide +kernel
set_option maxRecDepth 20000 in
theorem in_wsL_law0_r17_4 : (Cond.methodLink RL 98 yX5_cascade) ∈ lw_tbl := by decide +kernel
set_option maxRecDepth 20000 in
theorem in_wsL_law0_r17_5 : (Cond.instanceMethod yX5_cascade) ∈ lw_tbl := by decide +kernel
set_option maxRecDepth 20000 in
theorem in_wsL_law0_r17_6 : (Cond.selects RX5 yX5_cascade yX5_cascade) ∈ lw_tbl := by decide +kernel
set_option maxRecDepth 20000 in
theorem in_wsL_law0_r17_7 : (Cond.code yX5_cascade cX5_cascade 2 (some .int)) ∈ lw_tbl := by decide +kernel
set_option maxRecDepth 20000 in
theorem in_wsL_law0_r17_8 : (Cond.methodLink RL 156 yL_shaving) ∈ lw_tbl := by decide +kernel
set_option maxRecDepth 20000 in
theorem in_wsL_law0_r17_9 : (Cond.static yL_shaving) ∈ lw_tbl := by decide +kernel
set_option maxRecDepth 20000 in
theorem in_wsL_law0_r17_10 : (Cond.code yL_shaving cL_shaving 7 (some .boolean)) ∈ lw_tbl := (List.mem_append_right _ (List.mem_append_right _ (List.mem_append_right _ (List.mem_of_getElem? (i := 65) rfl))))
set_option maxRecDepth 20000 in
theorem in_wsL_law0_r17_11 : (Cond.methodLink RL 101 yX5_shavingSteps) ∈ lw_tbl := by decide +kernel
set_option maxRecDepth 20000 in
theorem in_wsL_law0_r17_12 : (Cond.instanceMethod yX5_shavingSteps) ∈ lw_tbl := by decide +kernel
set_option maxRecDepth 20000 in
theorem in_wsL_law0_r17_13 : (Cond.selects RX5 yX5_shavingSteps yX5_shavingSteps) ∈ lw_tbl := by decide +kernel
set_option maxRecDepth 20000 in
theorem in_wsL_law0_r17_14 : (Cond.code yX5_shavingSteps cX5_shavingSteps 2 (some .int)) ∈ lw_tbl := by decide +kernel
set_option maxRecDepth 20000 in
theorem in_wsL_law0_r17_15 : (Cond.methodLink RX5 151 yX5_tryShaving) ∈ lw_tbl := by decide +kernel
set_option maxRecDepth 20000 in
theorem in_wsL_law0_r17_16 : (Cond.instanceMethod yX5_tryShaving) ∈ lw_tbl := by decide +kernel
set_option maxRecDepth 20000 in
theorem in_wsL_law0_r17_17 : (Cond.selects RX5 yX5_tryShaving yX5_tryShaving) ∈ lw_tbl := by decide +kernel
set_option maxRecDepth 20000 in
theorem in_wsL_law0_r17_18 : (Cond.code yX5_tryShaving cX5_tryShaving 2 (some .int)) ∈ lw_tbl := by decide +kernel
set_option maxRecDepth 20000 in
theorem in_wsL_law0_r17_19 : (Cond.methodLink RX5 254 yX0_mostOverloaded) ∈ lw_tbl := by decide +kernel
set_option maxRecDepth 20000 in
theorem in_wsL_law0_r17_20 : (Cond.instanceMethod yX0_mostOverloaded) ∈ lw_tbl := by decide +kernel
set_option maxRecDepth 20000 in
theorem in_wsL_law0_r17_21 : (Cond.selects RX0 yX0_mostOverloaded yX0_mostOverloaded) ∈ lw_tbl := by decide +kernel
set_option maxRecDepth 20000 in
theorem in_wsL_law0_r17_22 : (Cond.code yX0_mostOverloaded cX0_mostOverloaded 6 (some .int)) ∈ lw_tbl := by decide +kernel
set_option maxRecDepth 20000 in
theorem in_wsL_law0_r17_23 : (Cond.methodLink RX5 257 yX1_lowerCap) ∈ lw_tbl := by decide +kernel
theorem in_wsL_law0_r17 : ∀ w ∈ wsL_law0_r17, w ∈ lw_tbl := List.forall_mem_cons.mpr ⟨in_wsL_law0_r17_0, List.forall_mem_cons.mpr ⟨in_wsL_law0_r17_1, List.forall_mem_cons.mpr ⟨in_wsL_law0_r17_2, List.forall_mem_cons.mpr ⟨in_wsL_law0_r17_3, List.forall_mem_cons.mpr ⟨in_wsL_law0_r17_4, List.forall_mem_cons.mpr ⟨in_wsL_law0_r17_5, List.forall_mem_cons.mpr ⟨in_wsL_law0_r17_6, List.forall_mem_cons.mpr ⟨in_wsL_law0_r17_7, List.forall_mem_cons.mpr ⟨in_wsL_law0_r17_8, List.forall_mem_cons.mpr ⟨in_wsL_law0_r17_9, List.forall_mem_cons.mpr ⟨in_wsL_law0_r17_10, List.forall_mem_cons.mpr ⟨in_wsL_law0_r17_11, List.forall_mem_cons.mpr ⟨in_wsL_law0_r17_12, List.forall_mem_cons.mpr ⟨in_wsL_law0_r17_13, List.forall_mem_cons.mpr ⟨in_wsL_law0_r17_14, List.forall_mem_cons.mpr ⟨in_wsL_law0_r17_15, List.forall_mem_cons.mpr ⟨in_wsL_law0_r17_16, List.forall_mem_cons.mpr ⟨in_wsL_law0_r17_17, List.forall_mem_cons.mpr ⟨in_wsL_law0_r17_18, List.forall_mem_cons.mpr ⟨in_wsL_law0_r17_19, List.forall_mem_cons.mpr ⟨in_wsL_law0_r17_20, List.forall_mem_cons.mpr ⟨in_wsL_law0_r17_21, List.forall_mem_cons.mpr ⟨in_wsL_law0_r17_22, List.forall_mem_cons.mpr ⟨in_wsL_law0_r17_23, fun _ h => by cases h⟩⟩⟩⟩⟩⟩⟩⟩⟩⟩⟩⟩⟩⟩⟩⟩⟩⟩⟩⟩⟩⟩⟩⟩
set_option maxRecDepth 20000 in
theorem in_wsL_law0_r18_0 : (Cond.instanceMethod yX1_lowerCap) ∈ lw_tbl := by decide +kernel
set_option maxRecDepth 20000 in
theorem in_wsL_law0_r18_1 : (Cond.selects RX1 yX1_lowerCap yX1_lowerCap) ∈ lw_tbl := by decide +kernel
set_option maxRecDepth 20000 in
theorem in_wsL_law0_r18_2 : (Cond.code yX1_lowerCap cX1_lowerCap 2 (some .boolean)) ∈ lw_tbl := by decide +kernel
set_option maxRecDepth 20000 in
theorem in_wsL_law0_r18_3 : (Cond.methodLink RX1 43 yX1_hasBlock) ∈ lw_tbl := by decide +kernel
set_option maxRecDepth 20000 in
theorem in_wsL_law0_r18_4 : (Cond.methodLink RL 104 yX5_shave) ∈ lw_tbl := by decide +kernel
set_option maxRecDepth 20000 in
theorem in_wsL_law0_r18_5 : (Cond.instanceMethod yX5_shave) ∈ lw_tbl := by decide +kernel
set_option maxRecDepth 20000 in
theorem in_wsL_law0_r18_6 : (Cond.selects RX5 yX5_shave yX5_shave) ∈ lw_tbl := by decide +kernel
set_option maxRecDepth 20000 in
theorem in_wsL_law0_r18_7 : (Cond.code yX5_shave cX5_shave 2 (some .int)) ∈ lw_tbl := by decide +kernel
set_option maxRecDepth 20000 in
theorem in_wsL_law0_r18_8 : (Cond.methodLink RL 159 yL_bests) ∈ lw_tbl := by decide +kernel
set_option maxRecDepth 20000 in
theorem in_wsL_law0_r18_9 : (Cond.static yL_bests) ∈ lw_tbl := by decide +kernel
set_option maxRecDepth 20000 in
theorem in_wsL_law0_r18_10 : (Cond.code yL_bests cL_bests 12 (some .boolean)) ∈ lw_tbl := (List.mem_append_right _ (List.mem_append_right _ (List.mem_append_right _ (List.mem_of_getElem? (i := 89) rfl))))
set_option maxRecDepth 20000 in
theorem in_wsL_law0_r18_11 : (Cond.methodLink RL 111 yX5_greatestWeight) ∈ lw_tbl := by decide +kernel
set_option maxRecDepth 20000 in
theorem in_wsL_law0_r18_12 : (Cond.instanceMethod yX5_greatestWeight) ∈ lw_tbl := by decide +kernel
set_option maxRecDepth 20000 in
theorem in_wsL_law0_r18_13 : (Cond.selects RX5 yX5_greatestWeight yX5_greatestWeight) ∈ lw_tbl := by decide +kernel
set_option maxRecDepth 20000 in
theorem in_wsL_law0_r18_14 : (Cond.code yX5_greatestWeight cX5_greatestWeight 2 (some .int)) ∈ lw_tbl := by decide +kernel
set_option maxRecDepth 20000 in
theorem in_wsL_law0_r18_15 : (Cond.methodLink RL 114 yX5_bestCenter) ∈ lw_tbl := by decide +kernel
set_option maxRecDepth 20000 in
theorem in_wsL_law0_r18_16 : (Cond.instanceMethod yX5_bestCenter) ∈ lw_tbl := by decide +kernel
set_option maxRecDepth 20000 in
theorem in_wsL_law0_r18_17 : (Cond.selects RX5 yX5_bestCenter yX5_bestCenter) ∈ lw_tbl := by decide +kernel
set_option maxRecDepth 20000 in
theorem in_wsL_law0_r18_18 : (Cond.code yX5_bestCenter cX5_bestCenter 4 (some .int)) ∈ lw_tbl := by decide +kernel
theorem in_wsL_law0_r18 : ∀ w ∈ wsL_law0_r18, w ∈ lw_tbl := List.forall_mem_cons.mpr ⟨in_wsL_law0_r18_0, List.forall_mem_cons.mpr ⟨in_wsL_law0_r18_1, List.forall_mem_cons.mpr ⟨in_wsL_law0_r18_2, List.forall_mem_cons.mpr ⟨in_wsL_law0_r18_3, List.forall_mem_cons.mpr ⟨in_wsL_law0_r18_4, List.forall_mem_cons.mpr ⟨in_wsL_law0_r18_5, List.forall_mem_cons.mpr ⟨in_wsL_law0_r18_6, List.forall_mem_cons.mpr ⟨in_wsL_law0_r18_7, List.forall_mem_cons.mpr ⟨in_wsL_law0_r18_8, List.forall_mem_cons.mpr ⟨in_wsL_law0_r18_9, List.forall_mem_cons.mpr ⟨in_wsL_law0_r18_10, List.forall_mem_cons.mpr ⟨in_wsL_law0_r18_11, List.forall_mem_cons.mpr ⟨in_wsL_law0_r18_12, List.forall_mem_cons.mpr ⟨in_wsL_law0_r18_13, List.forall_mem_cons.mpr ⟨in_wsL_law0_r18_14, List.forall_mem_cons.mpr ⟨in_wsL_law0_r18_15, List.forall_mem_cons.mpr ⟨in_wsL_law0_r18_16, List.forall_mem_cons.mpr ⟨in_wsL_law0_r18_17, List.forall_mem_cons.mpr ⟨in_wsL_law0_r18_18, fun _ h => by cases h⟩⟩⟩⟩⟩⟩⟩⟩⟩⟩⟩⟩⟩⟩⟩⟩⟩⟩⟩
