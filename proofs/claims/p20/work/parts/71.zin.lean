theorem in_pl {big ws : List Cond} (ps : List Nat) (h : ws.map some = ps.map (fun i => big[i]?)) : ∀ w ∈ ws, w ∈ big := by
  intro w hw
  have h1 : some w ∈ ws.map some := List.mem_map.mpr ⟨w, hw, rfl⟩
  rw [h] at h1
  obtain ⟨i, -, hi⟩ := List.mem_map.mp h1
  exact List.mem_of_getElem? hi
set_option maxRecDepth 20000 in
theorem wsL_law_in_r1 : ∀ w ∈ wsL_law0_r1, w ∈ lw_tbl := in_pl [25, 26, 14, 445, 95, 417, 374, 193, 23, 194, 27, 28, 29, 30, 31, 32, 33, 34, 15, 96, 97, 35, 36, 37] (by decide +kernel)
set_option maxRecDepth 20000 in
theorem wsL_law_in_r2 : ∀ w ∈ wsL_law0_r2, w ∈ lw_tbl := in_pl [38, 42, 44, 46, 48, 50, 52, 54, 60, 61, 62, 63, 39, 40, 16, 41, 396, 397, 13, 398, 399, 355, 17, 400] (by decide +kernel)
set_option maxRecDepth 20000 in
theorem wsL_law_in_r3a : ∀ w ∈ ([Cond.instanceMethod yX2_init, Cond.code yX2_init cX2_init 6 none, Cond.methodLink RX2 1 objectInit, Cond.classLink RX2 7 "[[I", Cond.fieldLink RX2 9 "FloodGridLaw$Sim" "height" "[[I", Cond.fieldLink RX2 14 "FloodGridLaw$Sim" "water" "[[I", Cond.fieldLink RX2 17 "FloodGridLaw$Sim" "dam" "[[I", Cond.fieldLink RX2 20 "FloodGridLaw$Sim" "wear" "[[I", Cond.fieldLink RX2 23 "FloodGridLaw$Sim" "drain" "[[I", Cond.fieldLink RX2 26 "FloodGridLaw$Sim" "town" "[[I", Cond.fieldLink RX2 29 "FloodGridLaw$Sim" "rain" "[I", Cond.methodLink RL 65 yL_cell, Cond.static yL_cell, Cond.code yL_cell cL_cell 2 (some .int), Cond.constant RL 8 (790386105), Cond.methodLink RL 69 yL_act, Cond.static yL_act] : List Cond), w ∈ lw_tbl := in_pl [401, 402, 403, 333, 404, 406, 408, 410, 412, 414, 416, 363, 364, 365, 366, 367, 368] (by decide +kernel)
set_option maxRecDepth 20000 in
theorem wsL_law_in_r3b : ∀ w ∈ ([Cond.fieldLink RL 15 "FloodGridLaw$Sim" "height" "[[I", Cond.fieldLink RL 27 "FloodGridLaw$Sim" "water" "[[I", Cond.fieldLink RL 38 "FloodGridLaw$Sim" "dam" "[[I", Cond.fieldLink RL 41 "FloodGridLaw$Sim" "wear" "[[I", Cond.fieldLink RL 46 "FloodGridLaw$Sim" "drain" "[[I", Cond.fieldLink RL 51 "FloodGridLaw$Sim" "town" "[[I"] : List Cond), w ∈ lw_tbl := in_pl [405, 407, 409, 411, 413, 415] (by decide +kernel)
set_option maxRecDepth 20000 in
theorem wsL_law_in_r3c : (Cond.code yL_act cL_act 8 (some .boolean) : Cond) ∈ lw_tbl := List.mem_of_getElem? (i := 369) rfl
theorem wsL_law_in_r3 : ∀ w ∈ wsL_law0_r3, w ∈ lw_tbl := fun w h => (List.mem_append.mp (show w ∈ [Cond.instanceMethod yX2_init, Cond.code yX2_init cX2_init 6 none, Cond.methodLink RX2 1 objectInit, Cond.classLink RX2 7 "[[I", Cond.fieldLink RX2 9 "FloodGridLaw$Sim" "height" "[[I", Cond.fieldLink RX2 14 "FloodGridLaw$Sim" "water" "[[I", Cond.fieldLink RX2 17 "FloodGridLaw$Sim" "dam" "[[I", Cond.fieldLink RX2 20 "FloodGridLaw$Sim" "wear" "[[I", Cond.fieldLink RX2 23 "FloodGridLaw$Sim" "drain" "[[I", Cond.fieldLink RX2 26 "FloodGridLaw$Sim" "town" "[[I", Cond.fieldLink RX2 29 "FloodGridLaw$Sim" "rain" "[I", Cond.methodLink RL 65 yL_cell, Cond.static yL_cell, Cond.code yL_cell cL_cell 2 (some .int), Cond.constant RL 8 (790386105), Cond.methodLink RL 69 yL_act, Cond.static yL_act] ++ ((Cond.code yL_act cL_act 8 (some .boolean) : Cond) :: [Cond.fieldLink RL 15 "FloodGridLaw$Sim" "height" "[[I", Cond.fieldLink RL 27 "FloodGridLaw$Sim" "water" "[[I", Cond.fieldLink RL 38 "FloodGridLaw$Sim" "dam" "[[I", Cond.fieldLink RL 41 "FloodGridLaw$Sim" "wear" "[[I", Cond.fieldLink RL 46 "FloodGridLaw$Sim" "drain" "[[I", Cond.fieldLink RL 51 "FloodGridLaw$Sim" "town" "[[I"]) from h)).elim (fun h => wsL_law_in_r3a w h) (fun h => (List.mem_cons.mp h).elim (fun e => by rw [e]; exact wsL_law_in_r3c) (fun h => wsL_law_in_r3b w h))
set_option maxRecDepth 20000 in
theorem wsL_law_in_r4 : ∀ w ∈ wsL_law0_r4, w ∈ lw_tbl := in_pl [359, 360, 361, 362, 370, 371, 372, 373, 43, 107, 108, 109, 110, 111, 112, 113, 21, 242, 243, 244, 245, 22, 375, 376] (by decide +kernel)
set_option maxRecDepth 20000 in
theorem wsL_law_in_r5 : ∀ w ∈ wsL_law0_r5, w ∈ lw_tbl := in_pl [377, 378, 45, 379, 380, 381, 382, 383, 47, 49, 384, 385, 386, 387, 51, 388, 389, 390, 391, 53, 392, 393, 394, 395] (by decide +kernel)
set_option maxRecDepth 20000 in
theorem wsL_law_in_r6 : ∀ w ∈ wsL_law0_r6, w ∈ lw_tbl := in_pl [55, 103, 104, 105, 106, 180, 181, 182, 183, 184, 185, 186, 187, 188, 189, 190, 191, 192, 214, 215, 216, 217, 218, 219] (by decide +kernel)
