theorem in_pl {big ws : List Cond} (ps : List Nat) (h : ws.map some = ps.map (fun i => big[i]?)) : ∀ w ∈ ws, w ∈ big := by
  intro w hw
  have h1 : some w ∈ ws.map some := List.mem_map.mpr ⟨w, hw, rfl⟩
  rw [h] at h1
  obtain ⟨i, -, hi⟩ := List.mem_map.mp h1
  exact List.mem_of_getElem? hi
set_option maxRecDepth 20000 in
theorem wsL_law_in_r1 : ∀ w ∈ wsL_law0_r1, w ∈ lw_tbl := in_pl [39, 40, 28, 438, 439, 31, 633, 41, 42, 43, 44, 45, 46, 47, 48, 29, 110, 111, 49, 50, 51, 52, 109, 56] (by decide +kernel)
set_option maxRecDepth 20000 in
theorem wsL_law_in_r2 : ∀ w ∈ wsL_law0_r2, w ∈ lw_tbl := in_pl [58, 60, 62, 64, 66, 68, 74, 75, 76, 77, 53, 54, 30, 55, 440, 441, 442, 443, 445, 446, 447, 448, 449, 450] (by decide +kernel)
set_option maxRecDepth 20000 in
theorem wsL_law_in_r3 : ∀ w ∈ wsL_law0_r3, w ∈ lw_tbl := in_pl [451, 452, 453, 454, 455, 175, 176, 27, 177, 178, 179, 180, 181, 182, 183, 57, 184, 185, 186, 187, 188, 189, 190, 35] (by decide +kernel)
set_option maxRecDepth 20000 in
theorem wsL_law_in_r4 : ∀ w ∈ wsL_law0_r4, w ∈ lw_tbl := in_pl [257, 258, 259, 260, 36, 485, 486, 487, 488, 489, 491, 14, 492, 444, 493, 494, 495, 496, 497, 498, 481, 482, 483, 484] (by decide +kernel)
set_option maxRecDepth 20000 in
theorem wsL_law_in_r5 : ∀ w ∈ wsL_law0_r5, w ∈ lw_tbl := in_pl [276, 277, 278, 279, 280, 281, 282, 59, 283, 173, 37, 174, 499, 500, 501, 502, 503, 284, 285, 286, 287, 288, 289, 290] (by decide +kernel)
set_option maxRecDepth 20000 in
theorem wsL_law_in_r6 : ∀ w ∈ wsL_law0_r6, w ∈ lw_tbl := in_pl [61, 63, 504, 505, 506, 507, 291, 292, 293, 294, 295, 296, 297, 65, 508, 509, 510, 511, 298, 299, 300, 301, 302, 303] (by decide +kernel)
set_option maxRecDepth 20000 in
theorem wsL_law_in_r7 : ∀ w ∈ wsL_law0_r7, w ∈ lw_tbl := in_pl [304, 67, 512, 513, 514, 515, 305, 306, 307, 308, 309, 310, 311, 69, 516, 517, 518, 519, 520, 522, 15, 523, 312, 313] (by decide +kernel)
set_option maxRecDepth 20000 in
theorem wsL_law_in_r8 : ∀ w ∈ wsL_law0_r8, w ∈ lw_tbl := in_pl [314, 315, 316, 317, 318, 160, 161, 162, 163, 164, 165, 166, 167, 168, 169, 170, 171, 172, 524, 525, 526, 527, 528, 530] (by decide +kernel)
set_option maxRecDepth 20000 in
theorem wsL_law_in_r9 : ∀ w ∈ wsL_law0_r9, w ∈ lw_tbl := in_pl [16, 531, 532, 534, 17, 535, 536, 538, 18, 539, 319, 320, 321, 322, 323, 324, 325, 326, 327, 328, 329, 149, 151, 2] (by decide +kernel)
set_option maxRecDepth 20000 in
theorem wsL_law_in_r10 : ∀ w ∈ wsL_law0_r10, w ∈ lw_tbl := in_pl [152, 153, 155, 3, 156, 157, 158, 159, 540, 541, 542, 543, 544, 546, 19, 547, 548, 549, 550, 330, 331, 332, 333, 334] (by decide +kernel)
set_option maxRecDepth 20000 in
theorem wsL_law_in_r11 : ∀ w ∈ wsL_law0_r11, w ∈ lw_tbl := in_pl [335, 336, 139, 140, 141, 142, 70, 71, 72, 73, 143, 130, 131, 132, 144, 122, 123, 124, 125, 127, 0, 128, 145, 147] (by decide +kernel)
set_option maxRecDepth 20000 in
theorem wsL_law_in_r12 : ∀ w ∈ wsL_law0_r12, w ∈ lw_tbl := in_pl [1, 148, 551, 552, 553, 554, 555, 557, 20, 558, 559, 560, 561, 562, 563, 564, 565, 567, 21, 568, 337, 338, 339, 340] (by decide +kernel)
set_option maxRecDepth 20000 in
theorem wsL_law_in_r13 : ∀ w ∈ wsL_law0_r13, w ∈ lw_tbl := in_pl [341, 342, 343, 344, 345, 346, 347, 348, 349, 350, 351, 352, 354, 5, 355, 356, 357, 37, 358, 359, 361, 6, 362, 363] (by decide +kernel)
set_option maxRecDepth 20000 in
theorem wsL_law_in_r14 : ∀ w ∈ wsL_law0_r14, w ∈ lw_tbl := in_pl [365, 7, 366, 367, 369, 8, 370, 371, 372, 373, 374, 376, 9, 377, 378, 380, 10, 381, 382, 384, 11, 385, 569, 570] (by decide +kernel)
set_option maxRecDepth 20000 in
theorem wsL_law_in_r15 : ∀ w ∈ wsL_law0_r15, w ∈ lw_tbl := in_pl [571, 572, 573, 575, 22, 576, 577, 579, 23, 580, 585, 581, 583, 24, 584, 386, 387, 388, 389, 390, 391, 392, 393, 394] (by decide +kernel)
set_option maxRecDepth 20000 in
theorem wsL_law_in_r16 : ∀ w ∈ wsL_law0_r16, w ∈ lw_tbl := in_pl [395, 396, 397, 399, 398, 38, 400, 586, 587, 588, 589, 590, 592, 25, 593, 594, 596, 597, 598, 599, 600, 602, 604, 26] (by decide +kernel)
set_option maxRecDepth 20000 in
theorem wsL_law_in_r17 : ∀ w ∈ wsL_law0_r17, w ∈ lw_tbl := in_pl [605, 606, 401, 402, 403, 404, 405, 406, 407, 607, 608, 609, 610, 408, 409, 410, 411, 412, 413, 414, 611, 612, 613, 614] (by decide +kernel)
set_option maxRecDepth 20000 in
theorem wsL_law_in_r18 : ∀ w ∈ wsL_law0_r18, w ∈ lw_tbl := in_pl [415, 416, 417, 418, 419, 420, 421, 422, 424, 12, 425, 426, 428, 13, 429, 615, 616, 617, 618, 430, 431, 432, 433, 434] (by decide +kernel)
set_option maxRecDepth 20000 in
theorem wsL_law_in_r19 : ∀ w ∈ wsL_law0_r19, w ∈ lw_tbl := in_pl [435, 436, 437, 619, 620, 621, 622, 117, 118, 119, 120, 121, 129, 623, 624, 625, 626, 133, 134, 135, 136, 137, 138, 627] (by decide +kernel)
set_option maxRecDepth 20000 in
theorem wsL_law_in_r20 : ∀ w ∈ wsL_law0_r20, w ∈ lw_tbl := in_pl [628, 629, 630, 631, 632] (by decide +kernel)
set_option maxRecDepth 20000 in
theorem wsL_law_in_X1 : ∀ w ∈ wsX10, w ∈ lw_tbl := in_pl [112, 114] (by decide +kernel)
set_option maxRecDepth 20000 in
theorem wsL_law_in_X2 : ∀ w ∈ wsX20, w ∈ lw_tbl := in_pl [456, 458, 460, 462, 464, 466, 468, 470, 472, 474, 476, 478] (by decide +kernel)
set_option maxRecDepth 20000 in
theorem wsL_law_in_X0 : ∀ w ∈ wsX00, w ∈ lw_tbl := in_pl [78, 80, 82, 84, 86, 88, 90, 92, 94, 96, 98, 100, 102, 104, 106] (by decide +kernel)
theorem wsL_law_in0 : ∀ w ∈ wsL_law0, w ∈ lw_tbl := fun w h => (List.mem_append.mp h).elim (fun h => (List.mem_append.mp h).elim (fun h => (List.mem_append.mp h).elim (fun h => (List.mem_append.mp h).elim (fun h => (List.mem_append.mp h).elim (fun h => wsL_law_in_r1 w h) (fun h => (List.mem_append.mp h).elim (fun h => wsL_law_in_r2 w h) (fun h => (List.mem_append.mp h).elim (fun h => wsL_law_in_r3 w h) (fun h => (List.mem_append.mp h).elim (fun h => wsL_law_in_r4 w h) (fun h => (List.mem_append.mp h).elim (fun h => wsL_law_in_r5 w h) (fun h => (List.mem_append.mp h).elim (fun h => wsL_law_in_r6 w h) (fun h => (List.mem_append.mp h).elim (fun h => wsL_law_in_r7 w h) (fun h => (List.mem_append.mp h).elim (fun h => wsL_law_in_r8 w h) (fun h => (List.mem_append.mp h).elim (fun h => wsL_law_in_r9 w h) (fun h => (List.mem_append.mp h).elim (fun h => wsL_law_in_r10 w h) (fun h => (List.mem_append.mp h).elim (fun h => wsL_law_in_r11 w h) (fun h => (List.mem_append.mp h).elim (fun h => wsL_law_in_r12 w h) (fun h => (List.mem_append.mp h).elim (fun h => wsL_law_in_r13 w h) (fun h => (List.mem_append.mp h).elim (fun h => wsL_law_in_r14 w h) (fun h => (List.mem_append.mp h).elim (fun h => wsL_law_in_r15 w h) (fun h => (List.mem_append.mp h).elim (fun h => wsL_law_in_r16 w h) (fun h => (List.mem_append.mp h).elim (fun h => wsL_law_in_r17 w h) (fun h => (List.mem_append.mp h).elim (fun h => wsL_law_in_r18 w h) (fun h => (List.mem_append.mp h).elim (fun h => wsL_law_in_r19 w h) (fun h => wsL_law_in_r20 w h)))))))))))))))))))) (fun h => wsL_law_in_X1 w h)) (fun h => wsL_law_in_X2 w h)) (fun h => wsL_law_in_X0 w h)) (fun h => nomatch h)
