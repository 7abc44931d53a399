theorem wsL_law_x0 : ∀ w ∈ (vx_atS RX1 103 "java/lang/IndexOutOfBoundsException" ["java/lang/RuntimeException", "java/lang/Exception"]).filter goodWord, w ∈ lw_tbl := by decide +kernel
theorem wsL_law_x1 : ∀ w ∈ (vx_atS RX1 110 "java/lang/IllegalArgumentException" ["java/lang/RuntimeException", "java/lang/Exception"]).filter goodWord, w ∈ lw_tbl := by decide +kernel
theorem wsL_law_in : ∀ w ∈ wsL_law, w ∈ lw_tbl := fun w h => (List.mem_append.mp h).elim (fun h => (List.mem_append.mp h).elim (fun h => wsL_law_in0 w h) (fun h => wsL_law_x0 w h)) (fun h => wsL_law_x1 w h)
theorem inlX0 : ∀ w ∈ wsX00, w ∈ wsL_law := fun _ h => List.mem_append_left _ (List.mem_append_left _ (List.mem_append_left _ (List.mem_append_right _ h)))
theorem inX0 : ∀ w ∈ wsX00, w ∈ lw_tbl := fun w h => wsL_law_in w (inlX0 w h)
theorem inlX1 : ∀ w ∈ wsX10, w ∈ wsL_law := fun _ h => List.mem_append_left _ (List.mem_append_left _ (List.mem_append_left _ (List.mem_append_left _ (List.mem_append_left _ (List.mem_append_right _ h)))))
theorem inX1 : ∀ w ∈ wsX10, w ∈ lw_tbl := fun w h => wsL_law_in w (inlX1 w h)
theorem inlX2 : ∀ w ∈ wsX20, w ∈ wsL_law := fun _ h => List.mem_append_left _ (List.mem_append_left _ (List.mem_append_left _ (List.mem_append_left _ (List.mem_append_right _ h))))
theorem inX2 : ∀ w ∈ wsX20, w ∈ lw_tbl := fun w h => wsL_law_in w (inlX2 w h)
theorem inJx145de : ∀ w ∈ wsJx145de0, w ∈ lw_tbl := by decide +kernel
theorem inJx8e188 : ∀ w ∈ wsJx8e1880, w ∈ lw_tbl := by decide +kernel
theorem inJ9 : ∀ w ∈ wsJ90, w ∈ lw_tbl := by decide +kernel
theorem inJ0 : ∀ w ∈ wsJ00, w ∈ lw_tbl := by decide +kernel
theorem inJ10 : ∀ w ∈ wsJ100, w ∈ lw_tbl := by decide +kernel
theorem inJ7 : ∀ w ∈ wsJ70, w ∈ lw_tbl := by decide +kernel
set_option maxRecDepth 20000 in
theorem ggL_law_X1_init : GoodIn wsL_law wsX1_init := goodIn_r _ [9, 10, 11, 12, 13, 14, 15, 16, 17, 18, 19, 20, 21, 22, 23, 24, 25, 26, 27, 28, 29, 30, 31, 32, 33, 34, 35, 36, 37, 475, 476, 477, 478, 479, 480, 481, 482, 483, 484, 485, 486, 487, 488, 489, 461, 462] (by decide +kernel) (by decide +kernel)
set_option maxRecDepth 20000 in
theorem gL_law_X1_init : GoodIn wsL_law (wsX1_init) := ggL_law_X1_init
set_option maxRecDepth 20000 in
theorem ggL_law_X2_init : GoodIn wsL_law wsX2_init := goodIn_r _ [40, 41, 11, 12, 22, 42, 43, 44, 45, 46, 47, 48, 49, 50, 51, 52, 463, 464, 465, 466, 467, 468, 469, 470, 471, 472, 473, 474] (by decide +kernel) (by decide +kernel)
set_option maxRecDepth 20000 in
theorem gL_law_X2_init : GoodIn wsL_law (wsX2_init) := ggL_law_X2_init
set_option maxRecDepth 20000 in
theorem ggL_law_L_raise : GoodIn wsL_law wsL_raise := goodIn_ca (goodIn_ca (goodIn_r _ [56, 57, 58, 59, 60, 61, 2, 62, 16, 63, 64, 65, 66, 67, 68, 69, 70, 71, 72, 73, 74, 75, 76, 461, 462, 475, 476, 477, 478, 479, 480, 481, 482, 483, 484, 485, 486, 487, 488, 489] (by decide +kernel) (by decide +kernel)) (goodIn_sub (fun _ h => List.mem_append_left _ (List.mem_append_right _ h)) (by decide +kernel))) (goodIn_sub (fun _ h => List.mem_append_right _ h) (by decide +kernel))
set_option maxRecDepth 20000 in
theorem gL_law_L_raise : GoodIn wsL_law (va_wsS RL 65 yL_raise wsL_raise) := goodIn_app (goodIn_of _ (by decide +kernel)) ggL_law_L_raise
set_option maxRecDepth 20000 in
theorem ggL_law_X2_raise : GoodIn wsL_law wsX2_raise := goodIn_r _ [80, 42, 81, 82, 83, 5, 84, 85, 86, 87, 88, 89, 90, 91, 463, 464, 465, 466, 467, 468, 469, 470, 471, 472, 473, 474] (by decide +kernel) (by decide +kernel)
set_option maxRecDepth 20000 in
theorem gL_law_X2_raise : GoodIn wsL_law (wsV RL 70 RX2 yX2_raise wsX2_raise) := goodIn_app (goodIn_of _ (by decide +kernel)) ggL_law_X2_raise
set_option maxRecDepth 20000 in
theorem ggL_law_X2_thrown : GoodIn wsL_law wsX2_thrown := goodIn_r _ [95, 85, 463, 464, 465, 466, 467, 468, 469, 470, 471, 472, 473, 474] (by decide +kernel) (by decide +kernel)
set_option maxRecDepth 20000 in
theorem gL_law_X2_thrown : GoodIn wsL_law (wsV RL 71 RX2 yX2_thrown wsX2_thrown) := goodIn_app (goodIn_of _ (by decide +kernel)) ggL_law_X2_thrown
set_option maxRecDepth 20000 in
theorem ggL_law_L_pour : GoodIn wsL_law wsL_pour := goodIn_ca (goodIn_ca (goodIn_r _ [98, 57, 58, 99, 100, 101, 2, 102, 16, 103, 104, 105, 106, 107, 64, 65, 66, 67, 68, 69, 70, 71, 72, 73, 74, 75, 76, 461, 462, 475, 476, 477, 478, 479, 480, 481, 482, 483, 484, 485, 486, 487, 488, 489] (by decide +kernel) (by decide +kernel)) (goodIn_sub (fun _ h => List.mem_append_left _ (List.mem_append_right _ h)) (by decide +kernel))) (goodIn_sub (fun _ h => List.mem_append_right _ h) (by decide +kernel))
set_option maxRecDepth 20000 in
theorem gL_law_L_pour : GoodIn wsL_law (va_wsS RL 75 yL_pour wsL_pour) := goodIn_app (goodIn_of _ (by decide +kernel)) ggL_law_L_pour
set_option maxRecDepth 20000 in
theorem ggL_law_X2_pour : GoodIn wsL_law wsX2_pour := goodIn_r _ [111, 85, 43, 112, 105, 106, 107, 86, 87, 5, 88, 89, 90, 91, 463, 464, 465, 466, 467, 468, 469, 470, 471, 472, 473, 474] (by decide +kernel) (by decide +kernel)
set_option maxRecDepth 20000 in
theorem gL_law_X2_pour : GoodIn wsL_law (wsV RL 77 RX2 yX2_pour wsX2_pour) := goodIn_app (goodIn_of _ (by decide +kernel)) ggL_law_X2_pour
set_option maxRecDepth 20000 in
theorem ggL_law_L_dam : GoodIn wsL_law wsL_dam := goodIn_ca (goodIn_ca (goodIn_r _ [115, 57, 58, 116, 117, 118, 2, 119, 16, 120, 121, 64, 65, 66, 67, 68, 69, 70, 71, 72, 73, 74, 75, 76, 461, 462, 475, 476, 477, 478, 479, 480, 481, 482, 483, 484, 485, 486, 487, 488, 489] (by decide +kernel) (by decide +kernel)) (goodIn_sub (fun _ h => List.mem_append_left _ (List.mem_append_right _ h)) (by decide +kernel))) (goodIn_sub (fun _ h => List.mem_append_right _ h) (by decide +kernel))
set_option maxRecDepth 20000 in
theorem gL_law_L_dam : GoodIn wsL_law (va_wsS RL 78 yL_dam wsL_dam) := goodIn_app (goodIn_of _ (by decide +kernel)) ggL_law_L_dam
set_option maxRecDepth 20000 in
theorem ggL_law_X2_dam : GoodIn wsL_law wsX2_dam := goodIn_r _ [125, 44, 85, 45, 81, 82, 83, 5, 84, 86, 87, 88, 89, 90, 91, 463, 464, 465, 466, 467, 468, 469, 470, 471, 472, 473, 474] (by decide +kernel) (by decide +kernel)
set_option maxRecDepth 20000 in
theorem gL_law_X2_dam : GoodIn wsL_law (wsV RL 80 RX2 yX2_dam wsX2_dam) := goodIn_app (goodIn_of _ (by decide +kernel)) ggL_law_X2_dam
set_option maxRecDepth 20000 in
theorem ggL_law_L_drain : GoodIn wsL_law wsL_drain := goodIn_ca (goodIn_ca (goodIn_r _ [128, 57, 58, 129, 130, 131, 2, 132, 16, 133, 64, 65, 66, 67, 68, 69, 70, 71, 72, 73, 74, 75, 76, 461, 462, 475, 476, 477, 478, 479, 480, 481, 482, 483, 484, 485, 486, 487, 488, 489] (by decide +kernel) (by decide +kernel)) (goodIn_sub (fun _ h => List.mem_append_left _ (List.mem_append_right _ h)) (by decide +kernel))) (goodIn_sub (fun _ h => List.mem_append_right _ h) (by decide +kernel))
set_option maxRecDepth 20000 in
theorem gL_law_L_drain : GoodIn wsL_law (va_wsS RL 81 yL_drain wsL_drain) := goodIn_app (goodIn_of _ (by decide +kernel)) ggL_law_L_drain
set_option maxRecDepth 20000 in
theorem ggL_law_X2_drain : GoodIn wsL_law wsX2_drain := goodIn_r _ [137, 46, 81, 82, 83, 5, 84, 85, 86, 87, 88, 89, 90, 91, 463, 464, 465, 466, 467, 468, 469, 470, 471, 472, 473, 474] (by decide +kernel) (by decide +kernel)
set_option maxRecDepth 20000 in
theorem gL_law_X2_drain : GoodIn wsL_law (wsV RL 83 RX2 yX2_drain wsX2_drain) := goodIn_app (goodIn_of _ (by decide +kernel)) ggL_law_X2_drain
set_option maxRecDepth 20000 in
theorem ggL_law_L_settle : GoodIn wsL_law wsL_settle := goodIn_ca (goodIn_ca (goodIn_r _ [140, 57, 58, 141, 142, 143, 2, 144, 16, 145, 64, 65, 66, 67, 68, 69, 70, 71, 72, 73, 74, 75, 76, 461, 462, 475, 476, 477, 478, 479, 480, 481, 482, 483, 484, 485, 486, 487, 488, 489] (by decide +kernel) (by decide +kernel)) (goodIn_sub (fun _ h => List.mem_append_left _ (List.mem_append_right _ h)) (by decide +kernel))) (goodIn_sub (fun _ h => List.mem_append_right _ h) (by decide +kernel))
set_option maxRecDepth 20000 in
theorem gL_law_L_settle : GoodIn wsL_law (va_wsS RL 84 yL_settle wsL_settle) := goodIn_app (goodIn_of _ (by decide +kernel)) ggL_law_L_settle
set_option maxRecDepth 20000 in
theorem ggL_law_X2_settle : GoodIn wsL_law wsX2_settle := goodIn_r _ [149, 47, 81, 82, 83, 5, 84, 85, 86, 87, 88, 89, 90, 91, 463, 464, 465, 466, 467, 468, 469, 470, 471, 472, 473, 474] (by decide +kernel) (by decide +kernel)
set_option maxRecDepth 20000 in
theorem gL_law_X2_settle : GoodIn wsL_law (wsV RL 86 RX2 yX2_settle wsX2_settle) := goodIn_app (goodIn_of _ (by decide +kernel)) ggL_law_X2_settle
set_option maxRecDepth 20000 in
theorem ggL_law_L_setRain : GoodIn wsL_law wsL_setRain := goodIn_ca (goodIn_ca (goodIn_r _ [152, 57, 58, 153, 154, 155, 2, 156, 16, 157, 67, 68, 69, 70, 71, 72, 73, 74, 75, 76, 461, 462, 475, 476, 477, 478, 479, 480, 481, 482, 483, 484, 485, 486, 487, 488, 489] (by decide +kernel) (by decide +kernel)) (goodIn_sub (fun _ h => List.mem_append_left _ (List.mem_append_right _ h)) (by decide +kernel))) (goodIn_sub (fun _ h => List.mem_append_right _ h) (by decide +kernel))
set_option maxRecDepth 20000 in
theorem gL_law_L_setRain : GoodIn wsL_law (va_wsS RL 87 yL_setRain wsL_setRain) := goodIn_app (goodIn_of _ (by decide +kernel)) ggL_law_L_setRain
set_option maxRecDepth 20000 in
theorem ggL_law_X2_setRain : GoodIn wsL_law wsX2_setRain := goodIn_r _ [161, 85, 48, 89, 90, 5, 91, 162, 163, 164, 165, 463, 464, 465, 466, 467, 468, 469, 470, 471, 472, 473, 474] (by decide +kernel) (by decide +kernel)
set_option maxRecDepth 20000 in
theorem gL_law_X2_setRain : GoodIn wsL_law (wsV RL 90 RX2 yX2_setRain wsX2_setRain) := goodIn_app (goodIn_of _ (by decide +kernel)) ggL_law_X2_setRain
set_option maxRecDepth 20000 in
theorem ggL_law_L_cell : GoodIn wsL_law wsL_cell := goodIn_ca (goodIn_r _ [168, 57, 169, 170, 171, 2, 172, 16, 64, 65, 66, 67, 68, 69, 70, 71, 173, 174, 175, 15, 176, 23, 24, 25, 26, 27, 28, 177, 178, 179, 180, 181, 182, 183, 184, 185, 105, 106, 107, 461, 462, 475, 476, 477, 478, 479, 480, 481, 482, 483, 484, 485, 486, 487, 488, 489] (by decide +kernel) (by decide +kernel)) (goodIn_sub (fun _ h => List.mem_append_left _ (List.mem_append_right _ h)) (by decide +kernel))
set_option maxRecDepth 20000 in
theorem gL_law_L_cell : GoodIn wsL_law (va_wsS RL 91 yL_cell wsL_cell) := goodIn_app (goodIn_of _ (by decide +kernel)) ggL_law_L_cell
set_option maxRecDepth 20000 in
theorem ggL_law_X2_cell : GoodIn wsL_law wsX2_cell := goodIn_r _ [189, 85, 86, 87, 5, 88, 89, 90, 91, 190, 191, 192, 193, 42, 43, 44, 45, 46, 47, 194, 195, 196, 197, 198, 199, 200, 201, 112, 105, 106, 107, 162, 163, 164, 165, 463, 464, 465, 466, 467, 468, 469, 470, 471, 472, 473, 474] (by decide +kernel) (by decide +kernel)
set_option maxRecDepth 20000 in
theorem gL_law_X2_cell : GoodIn wsL_law (wsV RL 93 RX2 yX2_cell wsX2_cell) := goodIn_app (goodIn_of _ (by decide +kernel)) ggL_law_X2_cell
set_option maxRecDepth 20000 in
theorem ggL_law_L_lake : GoodIn wsL_law wsL_lake := goodIn_ca (goodIn_r _ [204, 57, 205, 206, 207, 2, 208, 16, 64, 65, 66, 67, 68, 69, 70, 71, 209, 210, 211, 15, 212, 32, 34, 35, 36, 37, 213, 214, 215, 216, 33, 217, 218, 219, 220, 24, 221, 222, 223, 461, 462, 475, 476, 477, 478, 479, 480, 481, 482, 483, 484, 485, 486, 487, 488, 489] (by decide +kernel) (by decide +kernel)) (goodIn_sub (fun _ h => List.mem_append_left _ (List.mem_append_right _ h)) (by decide +kernel))
set_option maxRecDepth 20000 in
theorem gL_law_L_lake : GoodIn wsL_law (va_wsS RL 94 yL_lake wsL_lake) := goodIn_app (goodIn_of _ (by decide +kernel)) ggL_law_L_lake
set_option maxRecDepth 20000 in
theorem ggL_law_X2_lake : GoodIn wsL_law wsX2_lake := goodIn_r _ [227, 85, 51, 43, 86, 87, 5, 88, 89, 90, 91, 162, 163, 164, 165, 228, 229, 230, 231, 52, 232, 233, 234, 463, 464, 465, 466, 467, 468, 469, 470, 471, 472, 473, 474] (by decide +kernel) (by decide +kernel)
set_option maxRecDepth 20000 in
theorem gL_law_X2_lake : GoodIn wsL_law (wsV RL 96 RX2 yX2_lake wsX2_lake) := goodIn_app (goodIn_of _ (by decide +kernel)) ggL_law_X2_lake
set_option maxRecDepth 20000 in
theorem ggL_law_L_count : GoodIn wsL_law wsL_count := goodIn_ca (goodIn_r _ [237, 57, 238, 239, 240, 2, 241, 16, 67, 68, 69, 70, 71, 242, 243, 244, 15, 245, 246, 24, 25, 247, 248, 28, 249, 250, 251, 252, 253, 254, 255, 256, 257, 258, 259, 260, 261, 262, 263, 264, 265, 32, 34, 35, 36, 37, 213, 214, 215, 216, 33, 217, 218, 219, 220, 221, 222, 223, 461, 462, 475, 476, 477, 478, 479, 480, 481, 482, 483, 484, 485, 486, 487, 488, 489] (by decide +kernel) (by decide +kernel)) (goodIn_sub (fun _ h => List.mem_append_left _ (List.mem_append_right _ h)) (by decide +kernel))
set_option maxRecDepth 20000 in
theorem gL_law_L_count : GoodIn wsL_law (va_wsS RL 97 yL_count wsL_count) := goodIn_app (goodIn_of _ (by decide +kernel)) ggL_law_L_count
set_option maxRecDepth 20000 in
theorem ggL_law_X2_count : GoodIn wsL_law wsX2_count := goodIn_r _ [269, 85, 89, 90, 5, 91, 270, 271, 272, 273, 49, 43, 44, 47, 274, 275, 276, 277, 278, 279, 280, 281, 282, 283, 51, 228, 229, 230, 231, 52, 232, 233, 234, 162, 163, 164, 165, 463, 464, 465, 466, 467, 468, 469, 470, 471, 472, 473, 474] (by decide +kernel) (by decide +kernel)
set_option maxRecDepth 20000 in
theorem gL_law_X2_count : GoodIn wsL_law (wsV RL 100 RX2 yX2_count wsX2_count) := goodIn_app (goodIn_of _ (by decide +kernel)) ggL_law_X2_count
set_option maxRecDepth 20000 in
theorem ggL_law_L_pass : GoodIn wsL_law wsL_pass := goodIn_ca (goodIn_r _ [286, 58, 287, 288, 289, 2, 290, 16, 72, 73, 74, 75, 76, 291, 292, 293, 15, 294, 249, 295, 296, 297, 298, 246, 299, 300, 301, 302, 29, 24, 303, 304, 305, 306, 307, 308, 309, 310, 30, 31, 25, 181, 182, 183, 184, 23, 185, 105, 106, 107, 34, 35, 36, 37, 311, 312, 313, 314, 221, 222, 223, 315, 316, 317, 318, 319, 320, 321, 177, 178, 179, 180, 322, 323, 324, 325, 26, 247, 326, 327, 328, 329, 27, 248, 330, 331, 332, 333, 28, 461, 462, 475, 476, 477, 478, 479, 480, 481, 482, 483, 484, 485, 486, 487, 488, 489] (by decide +kernel) (by decide +kernel)) (goodIn_sub (fun _ h => List.mem_append_right _ h) (by decide +kernel))
set_option maxRecDepth 20000 in
theorem gL_law_L_pass : GoodIn wsL_law (va_wsS RL 101 yL_pass wsL_pass) := goodIn_app (goodIn_of _ (by decide +kernel)) ggL_law_L_pass
set_option maxRecDepth 20000 in
theorem ggL_law_X2_pass : GoodIn wsL_law wsX2_pass := goodIn_r _ [337, 85, 89, 90, 5, 91, 338, 339, 340, 341, 49, 342, 343, 344, 345, 43, 48, 50, 44, 45, 46, 346, 320, 106, 321, 47, 347, 348, 349, 350, 112, 105, 107, 232, 233, 234, 198, 199, 200, 201, 42, 194, 195, 196, 197, 162, 163, 164, 165, 463, 464, 465, 466, 467, 468, 469, 470, 471, 472, 473, 474] (by decide +kernel) (by decide +kernel)
set_option maxRecDepth 20000 in
theorem gL_law_X2_pass : GoodIn wsL_law (wsV RL 103 RX2 yX2_pass wsX2_pass) := goodIn_app (goodIn_of _ (by decide +kernel)) ggL_law_X2_pass
set_option maxRecDepth 20000 in
theorem ggL_law_L_floods : GoodIn wsL_law wsL_floods := goodIn_ca (goodIn_r _ [353, 57, 354, 355, 356, 2, 357, 17, 16, 103, 64, 65, 66, 67, 68, 69, 70, 71, 358, 359, 360, 15, 361, 23, 362, 363, 364, 365, 24, 25, 26, 27, 28, 29, 246, 247, 248, 249, 366, 296, 297, 298, 299, 300, 301, 302, 303, 304, 305, 306, 307, 308, 309, 310, 30, 31, 181, 182, 183, 184, 185, 105, 106, 107, 34, 35, 36, 37, 311, 312, 313, 314, 221, 222, 223, 315, 316, 317, 318, 319, 320, 321, 177, 178, 179, 180, 322, 323, 324, 325, 326, 327, 328, 329, 330, 331, 332, 333, 461, 462, 475, 476, 477, 478, 479, 480, 481, 482, 483, 484, 485, 486, 487, 488, 489] (by decide +kernel) (by decide +kernel)) (goodIn_sub (fun _ h => List.mem_append_left _ (List.mem_append_right _ h)) (by decide +kernel))
set_option maxRecDepth 20000 in
theorem gL_law_L_floods : GoodIn wsL_law (va_wsS RL 104 yL_floods wsL_floods) := goodIn_app (goodIn_of _ (by decide +kernel)) ggL_law_L_floods
set_option maxRecDepth 20000 in
theorem ggL_law_X2_floods : GoodIn wsL_law wsX2_floods := goodIn_r _ [370, 85, 43, 86, 87, 5, 88, 89, 90, 91, 162, 163, 164, 165, 371, 372, 373, 374, 375, 376, 377, 378, 379, 380, 44, 45, 47, 49, 342, 343, 344, 345, 48, 50, 46, 346, 320, 106, 321, 347, 348, 349, 350, 112, 105, 107, 232, 233, 234, 198, 199, 200, 201, 42, 194, 195, 196, 197, 381, 382, 383, 384, 385, 363, 364, 365, 463, 464, 465, 466, 467, 468, 469, 470, 471, 472, 473, 474] (by decide +kernel) (by decide +kernel)
set_option maxRecDepth 20000 in
theorem gL_law_X2_floods : GoodIn wsL_law (wsV RL 106 RX2 yX2_floods wsX2_floods) := goodIn_app (goodIn_of _ (by decide +kernel)) ggL_law_X2_floods
set_option maxRecDepth 20000 in
theorem ggL_law_L_breaks : GoodIn wsL_law wsL_breaks := goodIn_ca (goodIn_r _ [388, 57, 389, 390, 391, 2, 392, 16, 120, 17, 64, 65, 66, 67, 68, 69, 70, 71, 358, 359, 360, 15, 361, 23, 362, 363, 364, 365, 24, 25, 26, 27, 28, 29, 246, 247, 248, 249, 366, 296, 297, 298, 299, 300, 301, 302, 303, 304, 305, 306, 307, 308, 309, 310, 30, 31, 181, 182, 183, 184, 185, 105, 106, 107, 34, 35, 36, 37, 311, 312, 313, 314, 221, 222, 223, 315, 316, 317, 318, 319, 320, 321, 177, 178, 179, 180, 322, 323, 324, 325, 326, 327, 328, 329, 330, 331, 332, 333, 461, 462, 475, 476, 477, 478, 479, 480, 481, 482, 483, 484, 485, 486, 487, 488, 489] (by decide +kernel) (by decide +kernel)) (goodIn_sub (fun _ h => List.mem_append_left _ (List.mem_append_right _ h)) (by decide +kernel))
set_option maxRecDepth 20000 in
theorem gL_law_L_breaks : GoodIn wsL_law (va_wsS RL 107 yL_breaks wsL_breaks) := goodIn_app (goodIn_of _ (by decide +kernel)) ggL_law_L_breaks
set_option maxRecDepth 20000 in
theorem ggL_law_X2_breaks : GoodIn wsL_law wsX2_breaks := goodIn_r _ [396, 85, 44, 86, 87, 5, 88, 89, 90, 91, 162, 163, 164, 165, 371, 372, 373, 374, 375, 43, 376, 377, 378, 379, 380, 45, 47, 49, 342, 343, 344, 345, 48, 50, 46, 346, 320, 106, 321, 347, 348, 349, 350, 112, 105, 107, 232, 233, 234, 198, 199, 200, 201, 42, 194, 195, 196, 197, 381, 382, 383, 384, 385, 363, 364, 365, 463, 464, 465, 466, 467, 468, 469, 470, 471, 472, 473, 474] (by decide +kernel) (by decide +kernel)
set_option maxRecDepth 20000 in
theorem gL_law_X2_breaks : GoodIn wsL_law (wsV RL 109 RX2 yX2_breaks wsX2_breaks) := goodIn_app (goodIn_of _ (by decide +kernel)) ggL_law_X2_breaks
set_option maxRecDepth 20000 in
theorem ggL_law_L_foresee : GoodIn wsL_law wsL_foresee := goodIn_ca (goodIn_ca (goodIn_r _ [399, 58, 57, 400, 401, 402, 2, 403, 17, 16, 72, 73, 74, 75, 76, 67, 68, 69, 70, 71, 358, 359, 360, 15, 361, 23, 362, 363, 364, 365, 24, 25, 26, 27, 28, 29, 246, 247, 248, 249, 291, 292, 293, 294, 295, 296, 297, 298, 299, 300, 301, 302, 303, 304, 305, 306, 307, 308, 309, 310, 30, 31, 181, 182, 183, 184, 185, 105, 106, 107, 34, 35, 36, 37, 311, 312, 313, 314, 221, 222, 223, 315, 316, 317, 318, 319, 320, 321, 177, 178, 179, 180, 322, 323, 324, 325, 326, 327, 328, 329, 330, 331, 332, 333, 242, 243, 244, 245, 250, 251, 252, 253, 254, 255, 256, 257, 258, 259, 260, 261, 262, 263, 264, 265, 32, 213, 214, 215, 216, 33, 217, 218, 219, 220, 461, 462, 475, 476, 477, 478, 479, 480, 481, 482, 483, 484, 485, 486, 487, 488, 489] (by decide +kernel) (by decide +kernel)) (goodIn_sub (fun _ h => List.mem_append_right _ h) (by decide +kernel))) (goodIn_sub (fun _ h => List.mem_append_left _ (List.mem_append_right _ h)) (by decide +kernel))
set_option maxRecDepth 20000 in
theorem gL_law_L_foresee : GoodIn wsL_law (va_wsS RL 110 yL_foresee wsL_foresee) := goodIn_app (goodIn_of _ (by decide +kernel)) ggL_law_L_foresee
set_option maxRecDepth 20000 in
theorem ggL_law_X2_foresee : GoodIn wsL_law wsX2_foresee := goodIn_r _ [407, 85, 89, 90, 5, 91, 162, 163, 164, 165, 371, 372, 373, 374, 375, 43, 376, 377, 378, 379, 380, 44, 45, 47, 49, 338, 339, 340, 341, 342, 343, 344, 345, 48, 50, 46, 346, 320, 106, 321, 347, 348, 349, 350, 112, 105, 107, 232, 233, 234, 198, 199, 200, 201, 42, 194, 195, 196, 197, 270, 271, 272, 273, 274, 275, 276, 277, 278, 279, 280, 281, 282, 283, 51, 228, 229, 230, 231, 52, 381, 382, 383, 384, 385, 363, 364, 365, 463, 464, 465, 466, 467, 468, 469, 470, 471, 472, 473, 474] (by decide +kernel) (by decide +kernel)
set_option maxRecDepth 20000 in
theorem gL_law_X2_foresee : GoodIn wsL_law (wsV RL 112 RX2 yX2_foresee wsX2_foresee) := goodIn_app (goodIn_of _ (by decide +kernel)) ggL_law_X2_foresee
set_option maxRecDepth 20000 in
theorem ggL_law_L_holds : GoodIn wsL_law wsL_holds := goodIn_ca (goodIn_r _ [410, 58, 411, 412, 413, 2, 414, 16, 120, 72, 73, 74, 75, 76, 415, 416, 417, 418, 17, 358, 359, 360, 15, 361, 23, 362, 363, 364, 365, 24, 25, 26, 27, 28, 29, 246, 247, 248, 249, 291, 292, 293, 294, 295, 296, 297, 298, 299, 300, 301, 302, 303, 304, 305, 306, 307, 308, 309, 310, 30, 31, 181, 182, 183, 184, 185, 105, 106, 107, 34, 35, 36, 37, 311, 312, 313, 314, 221, 222, 223, 315, 316, 317, 318, 319, 320, 321, 177, 178, 179, 180, 322, 323, 324, 325, 326, 327, 328, 329, 330, 331, 332, 333, 419, 420, 421, 422, 121, 461, 462, 475, 476, 477, 478, 479, 480, 481, 482, 483, 484, 485, 486, 487, 488, 489] (by decide +kernel) (by decide +kernel)) (goodIn_sub (fun _ h => List.mem_append_right _ h) (by decide +kernel))
set_option maxRecDepth 20000 in
theorem gL_law_L_holds : GoodIn wsL_law (va_wsS RL 113 yL_holds wsL_holds) := goodIn_app (goodIn_of _ (by decide +kernel)) ggL_law_L_holds
set_option maxRecDepth 20000 in
theorem ggL_law_X2_holds : GoodIn wsL_law wsX2_holds := goodIn_r _ [426, 85, 44, 45, 89, 90, 5, 91, 162, 163, 164, 165, 371, 372, 373, 374, 375, 43, 376, 377, 378, 379, 380, 47, 49, 338, 339, 340, 341, 342, 343, 344, 345, 48, 50, 46, 346, 320, 106, 321, 347, 348, 349, 350, 112, 105, 107, 232, 233, 234, 198, 199, 200, 201, 42, 194, 195, 196, 197, 381, 382, 383, 384, 385, 363, 364, 365, 463, 464, 465, 466, 467, 468, 469, 470, 471, 472, 473, 474] (by decide +kernel) (by decide +kernel)
set_option maxRecDepth 20000 in
theorem gL_law_X2_holds : GoodIn wsL_law (wsV RL 115 RX2 yX2_holds wsX2_holds) := goodIn_app (goodIn_of _ (by decide +kernel)) ggL_law_X2_holds
set_option maxRecDepth 20000 in
theorem ggL_law_L_advise : GoodIn wsL_law wsL_advise := goodIn_ca (goodIn_r _ [429, 58, 430, 431, 432, 2, 433, 16, 120, 434, 320, 106, 321, 72, 73, 74, 75, 76, 415, 416, 417, 418, 17, 358, 359, 360, 15, 361, 23, 362, 363, 364, 365, 24, 25, 26, 27, 28, 29, 246, 247, 248, 249, 291, 292, 293, 294, 295, 296, 297, 298, 299, 300, 301, 302, 303, 304, 305, 306, 307, 308, 309, 310, 30, 31, 181, 182, 183, 184, 185, 105, 107, 34, 35, 36, 37, 311, 312, 313, 314, 221, 222, 223, 315, 316, 317, 318, 319, 177, 178, 179, 180, 322, 323, 324, 325, 326, 327, 328, 329, 330, 331, 332, 333, 419, 420, 421, 422, 121, 461, 462, 475, 476, 477, 478, 479, 480, 481, 482, 483, 484, 485, 486, 487, 488, 489] (by decide +kernel) (by decide +kernel)) (goodIn_sub (fun _ h => List.mem_append_right _ h) (by decide +kernel))
set_option maxRecDepth 20000 in
theorem gL_law_L_advise : GoodIn wsL_law (va_wsS RL 116 yL_advise wsL_advise) := goodIn_app (goodIn_of _ (by decide +kernel)) ggL_law_L_advise
set_option maxRecDepth 20000 in
theorem ggL_law_X2_advise : GoodIn wsL_law wsX2_advise := goodIn_r _ [438, 85, 44, 346, 320, 106, 321, 45, 89, 90, 5, 91, 162, 163, 164, 165, 371, 372, 373, 374, 375, 43, 376, 377, 378, 379, 380, 47, 49, 338, 339, 340, 341, 342, 343, 344, 345, 48, 50, 46, 347, 348, 349, 350, 112, 105, 107, 232, 233, 234, 198, 199, 200, 201, 42, 194, 195, 196, 197, 381, 382, 383, 384, 385, 363, 364, 365, 463, 464, 465, 466, 467, 468, 469, 470, 471, 472, 473, 474] (by decide +kernel) (by decide +kernel)
set_option maxRecDepth 20000 in
theorem gL_law_X2_advise : GoodIn wsL_law (wsV RL 118 RX2 yX2_advise wsX2_advise) := goodIn_app (goodIn_of _ (by decide +kernel)) ggL_law_X2_advise
set_option maxRecDepth 20000 in
theorem ggL_law_X1_mean : GoodIn wsL_law wsX1_mean := goodIn_r _ [442, 16, 103, 443, 255, 256, 15, 257, 24, 258, 259, 260, 261, 444, 251, 252, 253, 461, 462, 475, 476, 477, 478, 479, 480, 481, 482, 483, 484, 485, 486, 487, 488, 489] (by decide +kernel) (by decide +kernel)
set_option maxRecDepth 20000 in
theorem gL_law_X1_mean : GoodIn wsL_law (wsV RL 119 RX1 yX1_mean wsX1_mean) := goodIn_app (goodIn_of _ (by decide +kernel)) ggL_law_X1_mean
set_option maxRecDepth 20000 in
theorem ggL_law_X2_mean : GoodIn wsL_law wsX2_mean := goodIn_r _ [448, 85, 43, 277, 278, 5, 279, 274, 275, 276, 463, 464, 465, 466, 467, 468, 469, 470, 471, 472, 473, 474] (by decide +kernel) (by decide +kernel)
set_option maxRecDepth 20000 in
theorem gL_law_X2_mean : GoodIn wsL_law (wsV RL 123 RX2 yX2_mean wsX2_mean) := goodIn_app (goodIn_of _ (by decide +kernel)) ggL_law_X2_mean
set_option maxRecDepth 20000 in
theorem ggL_law_X1_digest : GoodIn wsL_law wsX1_digest := goodIn_r _ [452, 453, 454, 16, 157, 242, 243, 244, 15, 245, 246, 24, 25, 247, 248, 28, 249, 250, 251, 252, 253, 254, 255, 256, 257, 258, 259, 260, 261, 262, 263, 264, 265, 32, 34, 35, 36, 37, 213, 214, 215, 216, 33, 217, 218, 219, 220, 221, 222, 223, 173, 174, 175, 176, 23, 26, 27, 177, 178, 179, 180, 181, 182, 183, 184, 185, 105, 106, 107, 461, 462, 475, 476, 477, 478, 479, 480, 481, 482, 483, 484, 485, 486, 487, 488, 489] (by decide +kernel) (by decide +kernel)
set_option maxRecDepth 20000 in
theorem gL_law_X1_digest : GoodIn wsL_law (wsV RL 124 RX1 yX1_digest wsX1_digest) := goodIn_app (goodIn_of _ (by decide +kernel)) ggL_law_X1_digest
set_option maxRecDepth 20000 in
theorem ggL_law_X2_digest : GoodIn wsL_law wsX2_digest := goodIn_r _ [458, 85, 459, 460, 48, 270, 271, 272, 5, 273, 49, 43, 44, 47, 274, 275, 276, 277, 278, 279, 280, 281, 282, 283, 51, 228, 229, 230, 231, 52, 232, 233, 234, 190, 191, 192, 193, 42, 45, 46, 194, 195, 196, 197, 198, 199, 200, 201, 112, 105, 106, 107, 463, 464, 465, 466, 467, 468, 469, 470, 471, 472, 473, 474] (by decide +kernel) (by decide +kernel)
set_option maxRecDepth 20000 in
theorem gL_law_X2_digest : GoodIn wsL_law (wsV RL 128 RX2 yX2_digest wsX2_digest) := goodIn_app (goodIn_of _ (by decide +kernel)) ggL_law_X2_digest
