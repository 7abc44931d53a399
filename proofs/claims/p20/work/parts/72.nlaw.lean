theorem wsL_law_x0 : ∀ w ∈ (vx_atS RX1 103 "java/lang/IndexOutOfBoundsException" ["java/lang/RuntimeException", "java/lang/Exception"]).filter goodWord, w ∈ lw_tbl := by decide +kernel
theorem wsL_law_x1 : ∀ w ∈ (vx_atS RX1 110 "java/lang/IllegalArgumentException" ["java/lang/RuntimeException", "java/lang/Exception"]).filter goodWord, w ∈ lw_tbl := by decide +kernel
theorem wsL_law_in : ∀ w ∈ wsL_law, w ∈ lw_tbl := fun w h => (List.mem_append.mp h).elim (fun h => (List.mem_append.mp h).elim (fun h => wsL_law_in0 w h) (fun h => wsL_law_x0 w h)) (fun h => wsL_law_x1 w h)
theorem inlX0 : ∀ w ∈ wsX00, w ∈ wsL_law := fun _ h => List.mem_append_left _ (List.mem_append_left _ (List.mem_append_left _ (List.mem_append_right _ h)))
theorem inX0 : ∀ w ∈ wsX00, w ∈ lw_tbl := fun w h => wsL_law_in w (inlX0 w h)
theorem inlX1 : ∀ w ∈ wsX10, w ∈ wsL_law := fun _ h => List.mem_append_left _ (List.mem_append_left _ (List.mem_append_left _ (List.mem_append_left _ (List.mem_append_left _ (List.mem_append_right _ h)))))
theorem inX1 : ∀ w ∈ wsX10, w ∈ lw_tbl := fun w h => wsL_law_in w (inlX1 w h)
theorem inlX2 : ∀ w ∈ wsX20, w ∈ wsL_law := fun _ h => List.mem_append_left _ (List.mem_append_left _ (List.mem_append_left _ (List.mem_append_left _ (List.mem_append_right _ h))))
theorem inX2 : ∀ w ∈ wsX20, w ∈ lw_tbl := fun w h => wsL_law_in w (inlX2 w h)
theorem inX3 : ∀ w ∈ wsX30, w ∈ lw_tbl := by decide +kernel
theorem inJx145de : ∀ w ∈ wsJx145de0, w ∈ lw_tbl := by decide +kernel
theorem inJ9 : ∀ w ∈ wsJ90, w ∈ lw_tbl := by decide +kernel
theorem inJ0 : ∀ w ∈ wsJ00, w ∈ lw_tbl := by decide +kernel
theorem inJ10 : ∀ w ∈ wsJ100, w ∈ lw_tbl := by decide +kernel
theorem inJ7 : ∀ w ∈ wsJ70, w ∈ lw_tbl := by decide +kernel
set_option maxRecDepth 20000 in
theorem ggL_law_X1_init : GoodIn wsL_law wsX1_init := goodIn_r _ [12, 13, 14, 15, 16, 17, 18, 19, 20, 21, 22, 23, 24, 4, 25, 26, 27, 28, 29, 30, 31, 32, 33, 34, 35, 36, 37, 38, 39, 302, 303, 304, 305, 306, 307, 308, 309, 310, 311, 312, 313, 314, 315, 316, 289, 290] (by decide +kernel) (by decide +kernel)
set_option maxRecDepth 20000 in
theorem gL_law_X1_init : GoodIn wsL_law (wsX1_init) := ggL_law_X1_init
set_option maxRecDepth 20000 in
theorem ggL_law_L_build : GoodIn wsL_law wsL_build := goodIn_ca (goodIn_ca (goodIn_r _ [43, 44, 45, 46, 47, 48, 49, 50, 14, 15, 51, 4, 52, 53, 54, 55, 56, 57, 58, 59, 60, 42, 61, 62, 63, 64, 65, 66, 67, 6, 7, 8, 9, 68, 69, 70, 71, 5, 72, 73, 74, 75, 76, 77, 78, 2, 79, 19, 80, 81, 82, 83, 84, 85, 86, 87, 88, 89, 90, 91, 92, 93, 94, 95, 96, 97, 98, 99, 100, 101, 102, 103, 104, 105, 106, 107, 108, 109, 110, 111, 112, 113, 114, 115, 116, 117, 118, 119, 120, 291, 292, 293, 294, 295, 296, 297, 298, 299, 300, 301, 289, 290, 302, 303, 304, 305, 306, 307, 308, 309, 310, 311, 312, 313, 314, 315, 316] (by decide +kernel) (by decide +kernel)) (goodIn_sub (fun _ h => List.mem_append_left _ (List.mem_append_right _ h)) (by decide +kernel))) (goodIn_sub (fun _ h => List.mem_append_right _ h) (by decide +kernel))
set_option maxRecDepth 20000 in
theorem gL_law_L_build : GoodIn wsL_law (va_wsS RL 74 yL_build wsL_build) := goodIn_app (goodIn_of _ (by decide +kernel)) ggL_law_L_build
set_option maxRecDepth 20000 in
theorem ggL_law_L_cell : GoodIn wsL_law wsL_cell := goodIn_r _ [61, 62] (by decide +kernel) (by decide +kernel)
set_option maxRecDepth 20000 in
theorem gL_law_L_cell : GoodIn wsL_law (va_wsS RL 65 yL_cell wsL_cell) := goodIn_app (goodIn_of _ (by decide +kernel)) ggL_law_L_cell
set_option maxRecDepth 20000 in
theorem ggL_law_L_act : GoodIn wsL_law wsL_act := goodIn_ca (goodIn_ca (goodIn_r _ [65, 66, 67, 6, 7, 8, 9, 68, 69, 70, 71, 5, 72, 73, 42, 74, 75, 76, 77, 78, 2, 79, 19, 80, 81, 82, 83, 84, 85, 86, 87, 88, 89, 90, 91, 92, 93, 94, 95, 96, 97, 98, 99, 100, 101, 102, 103, 104, 105, 106, 107, 108, 109, 110, 111, 112, 113, 114, 115, 116, 117, 118, 119, 120, 291, 292, 293, 294, 295, 296, 297, 298, 299, 300, 301, 289, 290, 302, 303, 304, 305, 306, 307, 308, 309, 310, 311, 312, 313, 314, 315, 316] (by decide +kernel) (by decide +kernel)) (goodIn_sub (fun _ h => List.mem_append_left _ (List.mem_append_right _ h)) (by decide +kernel))) (goodIn_sub (fun _ h => List.mem_append_right _ h) (by decide +kernel))
set_option maxRecDepth 20000 in
theorem gL_law_L_act : GoodIn wsL_law (va_wsS RL 69 yL_act wsL_act) := goodIn_app (goodIn_of _ (by decide +kernel)) ggL_law_L_act
set_option maxRecDepth 20000 in
theorem ggL_law_X1_cell : GoodIn wsL_law wsX1_cell := goodIn_ca (goodIn_r _ [124, 19, 81, 82, 2, 83, 84, 85, 86, 87, 88, 125, 126, 127, 18, 128, 25, 26, 27, 28, 29, 30, 129, 130, 131, 132, 133, 134, 135, 136, 137, 7, 8, 9, 289, 290, 302, 303, 304, 305, 306, 307, 308, 309, 310, 311, 312, 313, 314, 315, 316] (by decide +kernel) (by decide +kernel)) (goodIn_sub (fun _ h => List.mem_append_left _ (List.mem_append_right _ h)) (by decide +kernel))
set_option maxRecDepth 20000 in
theorem gL_law_X1_cell : GoodIn wsL_law (wsV RL 79 RX1 yX1_cell wsX1_cell) := goodIn_app (goodIn_of _ (by decide +kernel)) ggL_law_X1_cell
set_option maxRecDepth 20000 in
theorem ggL_law_X1_count : GoodIn wsL_law wsX1_count := goodIn_ca (goodIn_r _ [141, 19, 84, 85, 2, 86, 87, 88, 142, 143, 144, 18, 145, 146, 26, 27, 147, 148, 30, 149, 150, 151, 152, 153, 154, 155, 156, 157, 158, 159, 160, 161, 162, 163, 164, 165, 34, 36, 37, 38, 39, 166, 167, 168, 169, 35, 170, 171, 172, 173, 174, 175, 176, 289, 290, 302, 303, 304, 305, 306, 307, 308, 309, 310, 311, 312, 313, 314, 315, 316] (by decide +kernel) (by decide +kernel)) (goodIn_sub (fun _ h => List.mem_append_left _ (List.mem_append_right _ h)) (by decide +kernel))
set_option maxRecDepth 20000 in
theorem gL_law_X1_count : GoodIn wsL_law (wsV RL 81 RX1 yX1_count wsX1_count) := goodIn_app (goodIn_of _ (by decide +kernel)) ggL_law_X1_count
set_option maxRecDepth 20000 in
theorem ggL_law_X1_foresee : GoodIn wsL_law wsX1_foresee := goodIn_ca (goodIn_ca (goodIn_r _ [180, 20, 19, 89, 90, 2, 91, 92, 93, 84, 85, 86, 87, 88, 181, 182, 183, 18, 184, 25, 185, 186, 187, 188, 26, 27, 28, 29, 30, 31, 146, 147, 148, 149, 189, 190, 191, 192, 193, 194, 195, 196, 197, 198, 199, 200, 201, 202, 203, 204, 205, 206, 207, 208, 32, 33, 133, 134, 135, 136, 137, 7, 8, 9, 36, 37, 38, 39, 209, 210, 211, 212, 174, 175, 176, 213, 214, 215, 216, 217, 218, 219, 129, 130, 131, 132, 220, 221, 222, 223, 224, 225, 226, 227, 228, 229, 230, 231, 142, 143, 144, 145, 150, 151, 152, 153, 154, 155, 156, 157, 158, 159, 160, 161, 162, 163, 164, 165, 34, 166, 167, 168, 169, 35, 170, 171, 172, 173, 289, 290, 302, 303, 304, 305, 306, 307, 308, 309, 310, 311, 312, 313, 314, 315, 316] (by decide +kernel) (by decide +kernel)) (goodIn_sub (fun _ h => List.mem_append_right _ h) (by decide +kernel))) (goodIn_sub (fun _ h => List.mem_append_left _ (List.mem_append_right _ h)) (by decide +kernel))
set_option maxRecDepth 20000 in
theorem gL_law_X1_foresee : GoodIn wsL_law (wsV RL 85 RX1 yX1_foresee wsX1_foresee) := goodIn_app (goodIn_of _ (by decide +kernel)) ggL_law_X1_foresee
set_option maxRecDepth 20000 in
theorem ggL_law_L_below : GoodIn wsL_law wsL_below := goodIn_r _ [74, 75] (by decide +kernel) (by decide +kernel)
set_option maxRecDepth 20000 in
theorem gL_law_L_below : GoodIn wsL_law (va_wsS RL 9 yL_below wsL_below) := goodIn_app (goodIn_of _ (by decide +kernel)) ggL_law_L_below
set_option maxRecDepth 20000 in
theorem ggL_law_X1_floods : GoodIn wsL_law wsX1_floods := goodIn_ca (goodIn_r _ [235, 20, 19, 98, 81, 82, 2, 83, 84, 85, 86, 87, 88, 181, 182, 183, 18, 184, 25, 185, 186, 187, 188, 26, 27, 28, 29, 30, 31, 146, 147, 148, 149, 236, 194, 195, 196, 197, 198, 199, 200, 201, 202, 203, 204, 205, 206, 207, 208, 32, 33, 133, 134, 135, 136, 137, 7, 8, 9, 36, 37, 38, 39, 209, 210, 211, 212, 174, 175, 176, 213, 214, 215, 216, 217, 218, 219, 129, 130, 131, 132, 220, 221, 222, 223, 224, 225, 226, 227, 228, 229, 230, 231, 289, 290, 302, 303, 304, 305, 306, 307, 308, 309, 310, 311, 312, 313, 314, 315, 316] (by decide +kernel) (by decide +kernel)) (goodIn_sub (fun _ h => List.mem_append_left _ (List.mem_append_right _ h)) (by decide +kernel))
set_option maxRecDepth 20000 in
theorem gL_law_X1_floods : GoodIn wsL_law (wsV RL 88 RX1 yX1_floods wsX1_floods) := goodIn_app (goodIn_of _ (by decide +kernel)) ggL_law_X1_floods
set_option maxRecDepth 20000 in
theorem ggL_law_X1_breaks : GoodIn wsL_law wsX1_breaks := goodIn_ca (goodIn_r _ [240, 19, 104, 20, 81, 82, 2, 83, 84, 85, 86, 87, 88, 181, 182, 183, 18, 184, 25, 185, 186, 187, 188, 26, 27, 28, 29, 30, 31, 146, 147, 148, 149, 236, 194, 195, 196, 197, 198, 199, 200, 201, 202, 203, 204, 205, 206, 207, 208, 32, 33, 133, 134, 135, 136, 137, 7, 8, 9, 36, 37, 38, 39, 209, 210, 211, 212, 174, 175, 176, 213, 214, 215, 216, 217, 218, 219, 129, 130, 131, 132, 220, 221, 222, 223, 224, 225, 226, 227, 228, 229, 230, 231, 289, 290, 302, 303, 304, 305, 306, 307, 308, 309, 310, 311, 312, 313, 314, 315, 316] (by decide +kernel) (by decide +kernel)) (goodIn_sub (fun _ h => List.mem_append_left _ (List.mem_append_right _ h)) (by decide +kernel))
set_option maxRecDepth 20000 in
theorem gL_law_X1_breaks : GoodIn wsL_law (wsV RL 91 RX1 yX1_breaks wsX1_breaks) := goodIn_app (goodIn_of _ (by decide +kernel)) ggL_law_X1_breaks
set_option maxRecDepth 20000 in
theorem ggL_law_X1_pass : GoodIn wsL_law wsX1_pass := goodIn_ca (goodIn_r _ [244, 19, 89, 90, 2, 91, 92, 93, 189, 190, 191, 18, 192, 149, 193, 194, 195, 196, 146, 197, 198, 199, 200, 31, 26, 201, 202, 203, 204, 205, 206, 207, 208, 32, 33, 27, 133, 134, 135, 136, 25, 137, 7, 8, 9, 36, 37, 38, 39, 209, 210, 211, 212, 174, 175, 176, 213, 214, 215, 216, 217, 218, 219, 129, 130, 131, 132, 220, 221, 222, 223, 28, 147, 224, 225, 226, 227, 29, 148, 228, 229, 230, 231, 30, 289, 290, 302, 303, 304, 305, 306, 307, 308, 309, 310, 311, 312, 313, 314, 315, 316] (by decide +kernel) (by decide +kernel)) (goodIn_sub (fun _ h => List.mem_append_right _ h) (by decide +kernel))
set_option maxRecDepth 20000 in
theorem gL_law_X1_pass : GoodIn wsL_law (wsV RL 94 RX1 yX1_pass wsX1_pass) := goodIn_app (goodIn_of _ (by decide +kernel)) ggL_law_X1_pass
set_option maxRecDepth 20000 in
theorem ggL_law_X2_pass : GoodIn wsL_law wsX2_pass := goodIn_r _ [248, 249, 51, 4, 53, 58, 250, 54, 251, 52, 55, 252, 56, 253, 57, 254, 255, 256, 46, 257, 291, 292, 293, 294, 295, 296, 297, 298, 299, 300, 301] rfl (by decide +kernel)
set_option maxRecDepth 20000 in
theorem gL_law_X2_pass : GoodIn wsL_law (wsV RL 97 RX2 yX2_pass wsX2_pass) := goodIn_app (goodIn_of _ (by decide +kernel)) ggL_law_X2_pass
set_option maxRecDepth 20000 in
theorem ggL_law_X1_lake : GoodIn wsL_law wsX1_lake := goodIn_ca (goodIn_r _ [261, 19, 81, 82, 2, 83, 84, 85, 86, 87, 88, 262, 263, 264, 18, 265, 34, 36, 37, 38, 39, 166, 167, 168, 169, 35, 170, 171, 172, 173, 26, 174, 175, 176, 289, 290, 302, 303, 304, 305, 306, 307, 308, 309, 310, 311, 312, 313, 314, 315, 316] (by decide +kernel) (by decide +kernel)) (goodIn_sub (fun _ h => List.mem_append_left _ (List.mem_append_right _ h)) (by decide +kernel))
set_option maxRecDepth 20000 in
theorem gL_law_X1_lake : GoodIn wsL_law (wsV RL 100 RX1 yX1_lake wsX1_lake) := goodIn_app (goodIn_of _ (by decide +kernel)) ggL_law_X1_lake
set_option maxRecDepth 20000 in
theorem ggL_law_X1_mean : GoodIn wsL_law wsX1_mean := goodIn_r _ [269, 19, 98, 270, 155, 156, 18, 157, 26, 158, 159, 160, 161, 271, 151, 152, 153, 289, 290, 302, 303, 304, 305, 306, 307, 308, 309, 310, 311, 312, 313, 314, 315, 316] (by decide +kernel) (by decide +kernel)
set_option maxRecDepth 20000 in
theorem gL_law_X1_mean : GoodIn wsL_law (wsV RL 103 RX1 yX1_mean wsX1_mean) := goodIn_app (goodIn_of _ (by decide +kernel)) ggL_law_X1_mean
set_option maxRecDepth 20000 in
theorem ggL_law_X2_isSame : GoodIn wsL_law wsX2_isSame := goodIn_ca (goodIn_r _ [275, 4, 52, 53, 54, 55, 56, 57, 254, 255, 256, 46, 257, 276, 122, 123, 2, 124, 19, 81, 82, 83, 84, 85, 86, 87, 88, 125, 126, 127, 18, 128, 25, 26, 27, 28, 29, 30, 129, 130, 131, 132, 133, 134, 135, 136, 137, 7, 8, 9, 277, 139, 140, 141, 142, 143, 144, 145, 146, 147, 148, 149, 150, 151, 152, 153, 154, 155, 156, 157, 158, 159, 160, 161, 162, 163, 164, 165, 34, 36, 37, 38, 39, 166, 167, 168, 169, 35, 170, 171, 172, 173, 174, 175, 176, 278, 279, 280, 281, 282, 283, 250, 252, 253, 249, 284, 285, 286, 287, 288, 267, 268, 269, 98, 270, 271, 291, 292, 293, 294, 295, 296, 297, 298, 299, 300, 301, 289, 290, 302, 303, 304, 305, 306, 307, 308, 309, 310, 311, 312, 313, 314, 315, 316] (by decide +kernel) (by decide +kernel)) (goodIn_sub (fun _ h => List.mem_append_left _ (List.mem_append_right _ h)) (by decide +kernel))
set_option maxRecDepth 20000 in
theorem gL_law_X2_isSame : GoodIn wsL_law (wsV RL 107 RX2 yX2_isSame wsX2_isSame) := goodIn_app (goodIn_of _ (by decide +kernel)) ggL_law_X2_isSame
