theorem dJ9_floorMod_7cf53_0 : decode cJ9_floorMod_7cf53 0 = .ok (.iload_n 0, 1) := by decide +kernel
theorem dJ9_floorMod_7cf53_1 : decode cJ9_floorMod_7cf53 1 = .ok (.iload_n 1, 1) := by decide +kernel
theorem dJ9_floorMod_7cf53_2 : decode cJ9_floorMod_7cf53 2 = .ok (.irem, 1) := by decide +kernel
theorem dJ9_floorMod_7cf53_3 : decode cJ9_floorMod_7cf53 3 = .ok (.istore_n 2, 1) := by decide +kernel
theorem dJ9_floorMod_7cf53_4 : decode cJ9_floorMod_7cf53 4 = .ok (.iload_n 0, 1) := by decide +kernel
theorem dJ9_floorMod_7cf53_5 : decode cJ9_floorMod_7cf53 5 = .ok (.iload_n 1, 1) := by decide +kernel
theorem dJ9_floorMod_7cf53_6 : decode cJ9_floorMod_7cf53 6 = .ok (.ixor, 1) := by decide +kernel
theorem dJ9_floorMod_7cf53_7 : decode cJ9_floorMod_7cf53 7 = .ok (.ifCond .ge 11, 3) := by decide +kernel
theorem dJ9_floorMod_7cf53_10 : decode cJ9_floorMod_7cf53 10 = .ok (.iload_n 2, 1) := by decide +kernel
theorem dJ9_floorMod_7cf53_11 : decode cJ9_floorMod_7cf53 11 = .ok (.ifCond .eq 7, 3) := by decide +kernel
theorem dJ9_floorMod_7cf53_14 : decode cJ9_floorMod_7cf53 14 = .ok (.iload_n 2, 1) := by decide +kernel
theorem dJ9_floorMod_7cf53_15 : decode cJ9_floorMod_7cf53 15 = .ok (.iload_n 1, 1) := by decide +kernel
theorem dJ9_floorMod_7cf53_16 : decode cJ9_floorMod_7cf53 16 = .ok (.iadd, 1) := by decide +kernel
theorem dJ9_floorMod_7cf53_17 : decode cJ9_floorMod_7cf53 17 = .ok (.ireturn, 1) := by decide +kernel
theorem dJ9_floorMod_7cf53_18 : decode cJ9_floorMod_7cf53 18 = .ok (.iload_n 2, 1) := by decide +kernel
theorem dJ9_floorMod_7cf53_19 : decode cJ9_floorMod_7cf53 19 = .ok (.ireturn, 1) := by decide +kernel
theorem dJ9_max_7cf53_0 : decode cJ9_max_7cf53 0 = .ok (.iload_n 0, 1) := by decide +kernel
theorem dJ9_max_7cf53_1 : decode cJ9_max_7cf53 1 = .ok (.iload_n 1, 1) := by decide +kernel
theorem dJ9_max_7cf53_2 : decode cJ9_max_7cf53 2 = .ok (.if_icmp .lt 7, 3) := by decide +kernel
theorem dJ9_max_7cf53_5 : decode cJ9_max_7cf53 5 = .ok (.iload_n 0, 1) := by decide +kernel
theorem dJ9_max_7cf53_6 : decode cJ9_max_7cf53 6 = .ok (.goto 4, 3) := by decide +kernel
theorem dJ9_max_7cf53_9 : decode cJ9_max_7cf53 9 = .ok (.iload_n 1, 1) := by decide +kernel
theorem dJ9_max_7cf53_10 : decode cJ9_max_7cf53 10 = .ok (.ireturn, 1) := by decide +kernel
theorem dJ9_min_7cf53_0 : decode cJ9_min_7cf53 0 = .ok (.iload_n 0, 1) := by decide +kernel
theorem dJ9_min_7cf53_1 : decode cJ9_min_7cf53 1 = .ok (.iload_n 1, 1) := by decide +kernel
theorem dJ9_min_7cf53_2 : decode cJ9_min_7cf53 2 = .ok (.if_icmp .gt 7, 3) := by decide +kernel
theorem dJ9_min_7cf53_5 : decode cJ9_min_7cf53 5 = .ok (.iload_n 0, 1) := by decide +kernel
theorem dJ9_min_7cf53_6 : decode cJ9_min_7cf53 6 = .ok (.goto 4, 3) := by decide +kernel
theorem dJ9_min_7cf53_9 : decode cJ9_min_7cf53 9 = .ok (.iload_n 1, 1) := by decide +kernel
theorem dJ9_min_7cf53_10 : decode cJ9_min_7cf53 10 = .ok (.ireturn, 1) := by decide +kernel
theorem dJ7_fill_53178_0 : decode cJ7_fill_53178 0 = .ok (.iconst 0, 1) := by decide +kernel
theorem dJ7_fill_53178_1 : decode cJ7_fill_53178 1 = .ok (.istore_n 2, 1) := by decide +kernel
theorem dJ7_fill_53178_2 : decode cJ7_fill_53178 2 = .ok (.aload_n 0, 1) := by decide +kernel
theorem dJ7_fill_53178_3 : decode cJ7_fill_53178 3 = .ok (.arraylength, 1) := by decide +kernel
theorem dJ7_fill_53178_4 : decode cJ7_fill_53178 4 = .ok (.istore_n 3, 1) := by decide +kernel
theorem dJ7_fill_53178_5 : decode cJ7_fill_53178 5 = .ok (.iload_n 2, 1) := by decide +kernel
theorem dJ7_fill_53178_6 : decode cJ7_fill_53178 6 = .ok (.iload_n 3, 1) := by decide +kernel
theorem dJ7_fill_53178_7 : decode cJ7_fill_53178 7 = .ok (.if_icmp .ge 13, 3) := by decide +kernel
theorem dJ7_fill_53178_10 : decode cJ7_fill_53178 10 = .ok (.aload_n 0, 1) := by decide +kernel
theorem dJ7_fill_53178_11 : decode cJ7_fill_53178 11 = .ok (.iload_n 2, 1) := by decide +kernel
theorem dJ7_fill_53178_12 : decode cJ7_fill_53178 12 = .ok (.iload_n 1, 1) := by decide +kernel
theorem dJ7_fill_53178_13 : decode cJ7_fill_53178 13 = .ok (.iastore, 1) := by decide +kernel
theorem dJ7_fill_53178_14 : decode cJ7_fill_53178 14 = .ok (.iinc 2 1, 3) := by decide +kernel
theorem dJ7_fill_53178_17 : decode cJ7_fill_53178 17 = .ok (.goto (-12), 3) := by decide +kernel
theorem dJ7_fill_53178_20 : decode cJ7_fill_53178 20 = .ok (.return_, 1) := by decide +kernel
set_option maxRecDepth 20000 in
theorem ggX0_init_J7_fill_53178 : GoodIn wsX0_init wsJ7_fill_53178 := goodIn_r _ [19] (by decide +kernel) (by decide +kernel)
set_option maxRecDepth 20000 in
theorem gX0_init_J7_fill_53178 : GoodIn wsX0_init (va_wsS RX0 45 yJ7_fill_53178 wsJ7_fill_53178) := goodIn_app (goodIn_of _ (by decide +kernel)) ggX0_init_J7_fill_53178
theorem dX0_init_0 : decode cX0_init 0 = .ok (.aload_n 0, 1) := by decide +kernel
theorem dX0_init_1 : decode cX0_init 1 = .ok (.invokespecial 3, 3) := by decide +kernel
theorem dX0_init_4 : decode cX0_init 4 = .ok (.aload_n 0, 1) := by decide +kernel
theorem dX0_init_5 : decode cX0_init 5 = .ok (.bipush 64, 2) := by decide +kernel
theorem dX0_init_7 : decode cX0_init 7 = .ok (.newarray .int, 2) := by decide +kernel
theorem dX0_init_9 : decode cX0_init 9 = .ok (.putfield 9, 3) := by decide +kernel
theorem dX0_init_12 : decode cX0_init 12 = .ok (.aload_n 0, 1) := by decide +kernel
theorem dX0_init_13 : decode cX0_init 13 = .ok (.bipush 64, 2) := by decide +kernel
theorem dX0_init_15 : decode cX0_init 15 = .ok (.newarray .int, 2) := by decide +kernel
theorem dX0_init_17 : decode cX0_init 17 = .ok (.putfield 15, 3) := by decide +kernel
theorem dX0_init_20 : decode cX0_init 20 = .ok (.aload_n 0, 1) := by decide +kernel
theorem dX0_init_21 : decode cX0_init 21 = .ok (.bipush 64, 2) := by decide +kernel
theorem dX0_init_23 : decode cX0_init 23 = .ok (.newarray .int, 2) := by decide +kernel
theorem dX0_init_25 : decode cX0_init 25 = .ok (.putfield 18, 3) := by decide +kernel
theorem dX0_init_28 : decode cX0_init 28 = .ok (.aload_n 0, 1) := by decide +kernel
theorem dX0_init_29 : decode cX0_init 29 = .ok (.bipush 64, 2) := by decide +kernel
theorem dX0_init_31 : decode cX0_init 31 = .ok (.newarray .int, 2) := by decide +kernel
theorem dX0_init_33 : decode cX0_init 33 = .ok (.putfield 21, 3) := by decide +kernel
theorem dX0_init_36 : decode cX0_init 36 = .ok (.aload_n 0, 1) := by decide +kernel
theorem dX0_init_37 : decode cX0_init 37 = .ok (.bipush 64, 2) := by decide +kernel
theorem dX0_init_39 : decode cX0_init 39 = .ok (.newarray .int, 2) := by decide +kernel
theorem dX0_init_41 : decode cX0_init 41 = .ok (.putfield 24, 3) := by decide +kernel
theorem dX0_init_44 : decode cX0_init 44 = .ok (.aload_n 0, 1) := by decide +kernel
theorem dX0_init_45 : decode cX0_init 45 = .ok (.bipush 64, 2) := by decide +kernel
theorem dX0_init_47 : decode cX0_init 47 = .ok (.newarray .int, 2) := by decide +kernel
theorem dX0_init_49 : decode cX0_init 49 = .ok (.putfield 27, 3) := by decide +kernel
theorem dX0_init_52 : decode cX0_init 52 = .ok (.aload_n 0, 1) := by decide +kernel
theorem dX0_init_53 : decode cX0_init 53 = .ok (.bipush 12, 2) := by decide +kernel
theorem dX0_init_55 : decode cX0_init 55 = .ok (.newarray .int, 2) := by decide +kernel
theorem dX0_init_57 : decode cX0_init 57 = .ok (.putfield 30, 3) := by decide +kernel
theorem dX0_init_60 : decode cX0_init 60 = .ok (.aload_n 0, 1) := by decide +kernel
theorem dX0_init_61 : decode cX0_init 61 = .ok (.bipush 64, 2) := by decide +kernel
theorem dX0_init_63 : decode cX0_init 63 = .ok (.newarray .int, 2) := by decide +kernel
theorem dX0_init_65 : decode cX0_init 65 = .ok (.putfield 33, 3) := by decide +kernel
theorem dX0_init_68 : decode cX0_init 68 = .ok (.aload_n 0, 1) := by decide +kernel
theorem dX0_init_69 : decode cX0_init 69 = .ok (.bipush 64, 2) := by decide +kernel
theorem dX0_init_71 : decode cX0_init 71 = .ok (.newarray .int, 2) := by decide +kernel
theorem dX0_init_73 : decode cX0_init 73 = .ok (.putfield 36, 3) := by decide +kernel
theorem dX0_init_76 : decode cX0_init 76 = .ok (.aload_n 0, 1) := by decide +kernel
theorem dX0_init_77 : decode cX0_init 77 = .ok (.bipush 64, 2) := by decide +kernel
theorem dX0_init_79 : decode cX0_init 79 = .ok (.newarray .int, 2) := by decide +kernel
theorem dX0_init_81 : decode cX0_init 81 = .ok (.putfield 39, 3) := by decide +kernel
theorem dX0_init_84 : decode cX0_init 84 = .ok (.aload_n 0, 1) := by decide +kernel
theorem dX0_init_85 : decode cX0_init 85 = .ok (.bipush 64, 2) := by decide +kernel
theorem dX0_init_87 : decode cX0_init 87 = .ok (.newarray .int, 2) := by decide +kernel
theorem dX0_init_89 : decode cX0_init 89 = .ok (.putfield 42, 3) := by decide +kernel
theorem dX0_init_92 : decode cX0_init 92 = .ok (.aload_n 0, 1) := by decide +kernel
theorem dX0_init_93 : decode cX0_init 93 = .ok (.getfield 9, 3) := by decide +kernel
theorem dX0_init_96 : decode cX0_init 96 = .ok (.bipush 10, 2) := by decide +kernel
theorem dX0_init_98 : decode cX0_init 98 = .ok (.invokestatic 45, 3) := by decide +kernel
theorem dX0_init_101 : decode cX0_init 101 = .ok (.return_, 1) := by decide +kernel
theorem dX0_becomeLike_0 : decode cX0_becomeLike 0 = .ok (.aload_n 1, 1) := by decide +kernel
theorem dX0_becomeLike_1 : decode cX0_becomeLike 1 = .ok (.getfield 9, 3) := by decide +kernel
theorem dX0_becomeLike_4 : decode cX0_becomeLike 4 = .ok (.iconst 0, 1) := by decide +kernel
theorem dX0_becomeLike_5 : decode cX0_becomeLike 5 = .ok (.aload_n 0, 1) := by decide +kernel
theorem dX0_becomeLike_6 : decode cX0_becomeLike 6 = .ok (.getfield 9, 3) := by decide +kernel
theorem dX0_becomeLike_9 : decode cX0_becomeLike 9 = .ok (.iconst 0, 1) := by decide +kernel
theorem dX0_becomeLike_10 : decode cX0_becomeLike 10 = .ok (.bipush 64, 2) := by decide +kernel
theorem dX0_becomeLike_12 : decode cX0_becomeLike 12 = .ok (.invokestatic 51, 3) := by decide +kernel
theorem dX0_becomeLike_15 : decode cX0_becomeLike 15 = .ok (.aload_n 1, 1) := by decide +kernel
theorem dX0_becomeLike_16 : decode cX0_becomeLike 16 = .ok (.getfield 15, 3) := by decide +kernel
theorem dX0_becomeLike_19 : decode cX0_becomeLike 19 = .ok (.iconst 0, 1) := by decide +kernel
theorem dX0_becomeLike_20 : decode cX0_becomeLike 20 = .ok (.aload_n 0, 1) := by decide +kernel
theorem dX0_becomeLike_21 : decode cX0_becomeLike 21 = .ok (.getfield 15, 3) := by decide +kernel
theorem dX0_becomeLike_24 : decode cX0_becomeLike 24 = .ok (.iconst 0, 1) := by decide +kernel
theorem dX0_becomeLike_25 : decode cX0_becomeLike 25 = .ok (.bipush 64, 2) := by decide +kernel
theorem dX0_becomeLike_27 : decode cX0_becomeLike 27 = .ok (.invokestatic 51, 3) := by decide +kernel
theorem dX0_becomeLike_30 : decode cX0_becomeLike 30 = .ok (.aload_n 1, 1) := by decide +kernel
theorem dX0_becomeLike_31 : decode cX0_becomeLike 31 = .ok (.getfield 18, 3) := by decide +kernel
theorem dX0_becomeLike_34 : decode cX0_becomeLike 34 = .ok (.iconst 0, 1) := by decide +kernel
theorem dX0_becomeLike_35 : decode cX0_becomeLike 35 = .ok (.aload_n 0, 1) := by decide +kernel
theorem dX0_becomeLike_36 : decode cX0_becomeLike 36 = .ok (.getfield 18, 3) := by decide +kernel
theorem dX0_becomeLike_39 : decode cX0_becomeLike 39 = .ok (.iconst 0, 1) := by decide +kernel
theorem dX0_becomeLike_40 : decode cX0_becomeLike 40 = .ok (.bipush 64, 2) := by decide +kernel
theorem dX0_becomeLike_42 : decode cX0_becomeLike 42 = .ok (.invokestatic 51, 3) := by decide +kernel
theorem dX0_becomeLike_45 : decode cX0_becomeLike 45 = .ok (.aload_n 1, 1) := by decide +kernel
theorem dX0_becomeLike_46 : decode cX0_becomeLike 46 = .ok (.getfield 21, 3) := by decide +kernel
theorem dX0_becomeLike_49 : decode cX0_becomeLike 49 = .ok (.iconst 0, 1) := by decide +kernel
theorem dX0_becomeLike_50 : decode cX0_becomeLike 50 = .ok (.aload_n 0, 1) := by decide +kernel
theorem dX0_becomeLike_51 : decode cX0_becomeLike 51 = .ok (.getfield 21, 3) := by decide +kernel
theorem dX0_becomeLike_54 : decode cX0_becomeLike 54 = .ok (.iconst 0, 1) := by decide +kernel
theorem dX0_becomeLike_55 : decode cX0_becomeLike 55 = .ok (.bipush 64, 2) := by decide +kernel
theorem dX0_becomeLike_57 : decode cX0_becomeLike 57 = .ok (.invokestatic 51, 3) := by decide +kernel
theorem dX0_becomeLike_60 : decode cX0_becomeLike 60 = .ok (.aload_n 1, 1) := by decide +kernel
theorem dX0_becomeLike_61 : decode cX0_becomeLike 61 = .ok (.getfield 24, 3) := by decide +kernel
theorem dX0_becomeLike_64 : decode cX0_becomeLike 64 = .ok (.iconst 0, 1) := by decide +kernel
theorem dX0_becomeLike_65 : decode cX0_becomeLike 65 = .ok (.aload_n 0, 1) := by decide +kernel
theorem dX0_becomeLike_66 : decode cX0_becomeLike 66 = .ok (.getfield 24, 3) := by decide +kernel
theorem dX0_becomeLike_69 : decode cX0_becomeLike 69 = .ok (.iconst 0, 1) := by decide +kernel
theorem dX0_becomeLike_70 : decode cX0_becomeLike 70 = .ok (.bipush 64, 2) := by decide +kernel
theorem dX0_becomeLike_72 : decode cX0_becomeLike 72 = .ok (.invokestatic 51, 3) := by decide +kernel
theorem dX0_becomeLike_75 : decode cX0_becomeLike 75 = .ok (.aload_n 1, 1) := by decide +kernel
theorem dX0_becomeLike_76 : decode cX0_becomeLike 76 = .ok (.getfield 27, 3) := by decide +kernel
theorem dX0_becomeLike_79 : decode cX0_becomeLike 79 = .ok (.iconst 0, 1) := by decide +kernel
theorem dX0_becomeLike_80 : decode cX0_becomeLike 80 = .ok (.aload_n 0, 1) := by decide +kernel
theorem dX0_becomeLike_81 : decode cX0_becomeLike 81 = .ok (.getfield 27, 3) := by decide +kernel
theorem dX0_becomeLike_84 : decode cX0_becomeLike 84 = .ok (.iconst 0, 1) := by decide +kernel
theorem dX0_becomeLike_85 : decode cX0_becomeLike 85 = .ok (.bipush 64, 2) := by decide +kernel
theorem dX0_becomeLike_87 : decode cX0_becomeLike 87 = .ok (.invokestatic 51, 3) := by decide +kernel
theorem dX0_becomeLike_90 : decode cX0_becomeLike 90 = .ok (.aload_n 1, 1) := by decide +kernel
theorem dX0_becomeLike_91 : decode cX0_becomeLike 91 = .ok (.getfield 30, 3) := by decide +kernel
theorem dX0_becomeLike_94 : decode cX0_becomeLike 94 = .ok (.iconst 0, 1) := by decide +kernel
theorem dX0_becomeLike_95 : decode cX0_becomeLike 95 = .ok (.aload_n 0, 1) := by decide +kernel
theorem dX0_becomeLike_96 : decode cX0_becomeLike 96 = .ok (.getfield 30, 3) := by decide +kernel
theorem dX0_becomeLike_99 : decode cX0_becomeLike 99 = .ok (.iconst 0, 1) := by decide +kernel
theorem dX0_becomeLike_100 : decode cX0_becomeLike 100 = .ok (.bipush 12, 2) := by decide +kernel
theorem dX0_becomeLike_102 : decode cX0_becomeLike 102 = .ok (.invokestatic 51, 3) := by decide +kernel
theorem dX0_becomeLike_105 : decode cX0_becomeLike 105 = .ok (.aload_n 0, 1) := by decide +kernel
theorem dX0_becomeLike_106 : decode cX0_becomeLike 106 = .ok (.aload_n 1, 1) := by decide +kernel
theorem dX0_becomeLike_107 : decode cX0_becomeLike 107 = .ok (.getfield 57, 3) := by decide +kernel
theorem dX0_becomeLike_110 : decode cX0_becomeLike 110 = .ok (.putfield 57, 3) := by decide +kernel
theorem dX0_becomeLike_113 : decode cX0_becomeLike 113 = .ok (.aload_n 0, 1) := by decide +kernel
theorem dX0_becomeLike_114 : decode cX0_becomeLike 114 = .ok (.aload_n 1, 1) := by decide +kernel
theorem dX0_becomeLike_115 : decode cX0_becomeLike 115 = .ok (.getfield 61, 3) := by decide +kernel
theorem dX0_becomeLike_118 : decode cX0_becomeLike 118 = .ok (.putfield 61, 3) := by decide +kernel
theorem dX0_becomeLike_121 : decode cX0_becomeLike 121 = .ok (.aload_n 0, 1) := by decide +kernel
theorem dX0_becomeLike_122 : decode cX0_becomeLike 122 = .ok (.aload_n 1, 1) := by decide +kernel
theorem dX0_becomeLike_123 : decode cX0_becomeLike 123 = .ok (.getfield 64, 3) := by decide +kernel
theorem dX0_becomeLike_126 : decode cX0_becomeLike 126 = .ok (.putfield 64, 3) := by decide +kernel
theorem dX0_becomeLike_129 : decode cX0_becomeLike 129 = .ok (.aload_n 0, 1) := by decide +kernel
theorem dX0_becomeLike_130 : decode cX0_becomeLike 130 = .ok (.aload_n 1, 1) := by decide +kernel
theorem dX0_becomeLike_131 : decode cX0_becomeLike 131 = .ok (.getfield 67, 3) := by decide +kernel
theorem dX0_becomeLike_134 : decode cX0_becomeLike 134 = .ok (.putfield 67, 3) := by decide +kernel
theorem dX0_becomeLike_137 : decode cX0_becomeLike 137 = .ok (.return_, 1) := by decide +kernel
set_option maxRecDepth 20000 in
theorem ggX0_goHours_X0_goOneHour : GoodIn wsX0_goHours wsX0_goOneHour := goodIn_r _ [6, 7, 8, 9, 10, 5, 11, 12, 13, 14, 15, 16, 17, 18, 19, 20, 21, 22, 23, 24, 25, 26, 27, 28, 29, 30, 31, 32, 33, 34, 35, 36, 37, 38, 39, 40, 41, 42, 43, 44, 45, 46, 47, 48, 49, 50, 51, 52, 53, 54, 55, 56, 57, 58, 59, 60, 61, 62, 63, 64, 65, 66, 67, 68, 69, 70, 71, 72, 1, 73, 74, 75, 76, 77, 78, 79, 80, 81, 82, 83, 84, 85, 86, 87] (by decide +kernel) (by decide +kernel)
set_option maxRecDepth 20000 in
theorem gX0_goHours_X0_goOneHour : GoodIn wsX0_goHours (wsV RX0 70 RX0 yX0_goOneHour wsX0_goOneHour) := goodIn_app (goodIn_of _ (by decide +kernel)) ggX0_goHours_X0_goOneHour
theorem dX0_goHours_0 : decode cX0_goHours 0 = .ok (.aload_n 0, 1) := by decide +kernel
theorem dX0_goHours_1 : decode cX0_goHours 1 = .ok (.getfield 67, 3) := by decide +kernel
theorem dX0_goHours_4 : decode cX0_goHours 4 = .ok (.istore_n 2, 1) := by decide +kernel
theorem dX0_goHours_5 : decode cX0_goHours 5 = .ok (.iconst 0, 1) := by decide +kernel
theorem dX0_goHours_6 : decode cX0_goHours 6 = .ok (.istore_n 3, 1) := by decide +kernel
theorem dX0_goHours_7 : decode cX0_goHours 7 = .ok (.iload_n 3, 1) := by decide +kernel
theorem dX0_goHours_8 : decode cX0_goHours 8 = .ok (.iload_n 1, 1) := by decide +kernel
theorem dX0_goHours_9 : decode cX0_goHours 9 = .ok (.if_icmp .ge 13, 3) := by decide +kernel
theorem dX0_goHours_12 : decode cX0_goHours 12 = .ok (.aload_n 0, 1) := by decide +kernel
theorem dX0_goHours_13 : decode cX0_goHours 13 = .ok (.invokevirtual 70, 3) := by decide +kernel
theorem dX0_goHours_16 : decode cX0_goHours 16 = .ok (.iinc 3 1, 3) := by decide +kernel
theorem dX0_goHours_19 : decode cX0_goHours 19 = .ok (.goto (-12), 3) := by decide +kernel
theorem dX0_goHours_22 : decode cX0_goHours 22 = .ok (.aload_n 0, 1) := by decide +kernel
theorem dX0_goHours_23 : decode cX0_goHours 23 = .ok (.getfield 67, 3) := by decide +kernel
theorem dX0_goHours_26 : decode cX0_goHours 26 = .ok (.iload_n 2, 1) := by decide +kernel
theorem dX0_goHours_27 : decode cX0_goHours 27 = .ok (.isub, 1) := by decide +kernel
theorem dX0_goHours_28 : decode cX0_goHours 28 = .ok (.ireturn, 1) := by decide +kernel
set_option maxRecDepth 20000 in
theorem ggX0_goOneHour_X0_letRainFall : GoodIn wsX0_goOneHour wsX0_letRainFall := goodIn_r _ [6, 7, 1, 8, 9, 10, 11, 12, 69, 70, 71, 72, 73, 74, 75, 76, 77, 78, 79, 80, 81, 82, 83] (by decide +kernel) (by decide +kernel)
set_option maxRecDepth 20000 in
theorem gX0_goOneHour_X0_letRainFall : GoodIn wsX0_goOneHour (wsV RX0 73 RX0 yX0_letRainFall wsX0_letRainFall) := goodIn_app (goodIn_of _ (by decide +kernel)) ggX0_goOneHour_X0_letRainFall
set_option maxRecDepth 20000 in
theorem ggX0_goOneHour_X0_letWaterRun : GoodIn wsX0_goOneHour wsX0_letWaterRun := goodIn_r _ [16, 17, 18, 8, 19, 20, 21, 22, 5, 23, 24, 25, 26, 27, 28, 29, 30, 31, 32, 33, 34, 35, 36, 37, 38, 39, 40, 41, 42, 43, 44, 45, 46, 47, 48, 49, 50, 69, 70, 71, 72, 73, 74, 75, 76, 77, 78, 79, 80, 81, 82, 83] (by decide +kernel) (by decide +kernel)
set_option maxRecDepth 20000 in
theorem gX0_goOneHour_X0_letWaterRun : GoodIn wsX0_goOneHour (wsV RX0 76 RX0 yX0_letWaterRun wsX0_letWaterRun) := goodIn_app (goodIn_of _ (by decide +kernel)) ggX0_goOneHour_X0_letWaterRun
set_option maxRecDepth 20000 in
theorem ggX0_goOneHour_X0_wearDams : GoodIn wsX0_goOneHour wsX0_wearDams := goodIn_r _ [54, 19, 8, 55, 56, 69, 70, 71, 72, 73, 74, 75, 76, 77, 78, 79, 80, 81, 82, 83] (by decide +kernel) (by decide +kernel)
set_option maxRecDepth 20000 in
theorem gX0_goOneHour_X0_wearDams : GoodIn wsX0_goOneHour (wsV RX0 79 RX0 yX0_wearDams wsX0_wearDams) := goodIn_app (goodIn_of _ (by decide +kernel)) ggX0_goOneHour_X0_wearDams
set_option maxRecDepth 20000 in
theorem ggX0_goOneHour_X0_drainCells : GoodIn wsX0_goOneHour wsX0_drainCells := goodIn_r _ [60, 61, 8, 44, 45, 27, 46, 62, 69, 70, 71, 72, 73, 74, 75, 76, 77, 78, 79, 80, 81, 82, 83] (by decide +kernel) (by decide +kernel)
set_option maxRecDepth 20000 in
theorem gX0_goOneHour_X0_drainCells : GoodIn wsX0_goOneHour (wsV RX0 82 RX0 yX0_drainCells wsX0_drainCells) := goodIn_app (goodIn_of _ (by decide +kernel)) ggX0_goOneHour_X0_drainCells
set_option maxRecDepth 20000 in
theorem ggX0_goOneHour_X0_leaveTowns : GoodIn wsX0_goOneHour wsX0_leaveTowns := goodIn_r _ [66, 8, 67, 44, 45, 27, 46, 68, 69, 70, 71, 72, 73, 74, 75, 76, 77, 78, 79, 80, 81, 82, 83] (by decide +kernel) (by decide +kernel)
set_option maxRecDepth 20000 in
theorem gX0_goOneHour_X0_leaveTowns : GoodIn wsX0_goOneHour (wsV RX0 85 RX0 yX0_leaveTowns wsX0_leaveTowns) := goodIn_app (goodIn_of _ (by decide +kernel)) ggX0_goOneHour_X0_leaveTowns
theorem dX0_goOneHour_0 : decode cX0_goOneHour 0 = .ok (.aload_n 0, 1) := by decide +kernel
theorem dX0_goOneHour_1 : decode cX0_goOneHour 1 = .ok (.invokevirtual 73, 3) := by decide +kernel
theorem dX0_goOneHour_4 : decode cX0_goOneHour 4 = .ok (.aload_n 0, 1) := by decide +kernel
theorem dX0_goOneHour_5 : decode cX0_goOneHour 5 = .ok (.invokevirtual 76, 3) := by decide +kernel
theorem dX0_goOneHour_8 : decode cX0_goOneHour 8 = .ok (.aload_n 0, 1) := by decide +kernel
theorem dX0_goOneHour_9 : decode cX0_goOneHour 9 = .ok (.invokevirtual 79, 3) := by decide +kernel
theorem dX0_goOneHour_12 : decode cX0_goOneHour 12 = .ok (.aload_n 0, 1) := by decide +kernel
theorem dX0_goOneHour_13 : decode cX0_goOneHour 13 = .ok (.invokevirtual 82, 3) := by decide +kernel
theorem dX0_goOneHour_16 : decode cX0_goOneHour 16 = .ok (.aload_n 0, 1) := by decide +kernel
theorem dX0_goOneHour_17 : decode cX0_goOneHour 17 = .ok (.invokevirtual 85, 3) := by decide +kernel
theorem dX0_goOneHour_20 : decode cX0_goOneHour 20 = .ok (.aload_n 0, 1) := by decide +kernel
theorem dX0_goOneHour_21 : decode cX0_goOneHour 21 = .ok (.dup, 1) := by decide +kernel
theorem dX0_goOneHour_22 : decode cX0_goOneHour 22 = .ok (.getfield 57, 3) := by decide +kernel
theorem dX0_goOneHour_25 : decode cX0_goOneHour 25 = .ok (.iconst 1, 1) := by decide +kernel
theorem dX0_goOneHour_26 : decode cX0_goOneHour 26 = .ok (.iadd, 1) := by decide +kernel
theorem dX0_goOneHour_27 : decode cX0_goOneHour 27 = .ok (.putfield 57, 3) := by decide +kernel
theorem dX0_goOneHour_30 : decode cX0_goOneHour 30 = .ok (.return_, 1) := by decide +kernel
set_option maxRecDepth 20000 in
theorem ggX0_letRainFall_J9_floorMod_7cf53 : GoodIn wsX0_letRainFall wsJ9_floorMod_7cf53 := goodIn_r _ [7] (by decide +kernel) (by decide +kernel)
set_option maxRecDepth 20000 in
theorem gX0_letRainFall_J9_floorMod_7cf53 : GoodIn wsX0_letRainFall (va_wsS RX0 88 yJ9_floorMod_7cf53 wsJ9_floorMod_7cf53) := goodIn_app (goodIn_of _ (by decide +kernel)) ggX0_letRainFall_J9_floorMod_7cf53
theorem dX0_letRainFall_0 : decode cX0_letRainFall 0 = .ok (.aload_n 0, 1) := by decide +kernel
theorem dX0_letRainFall_1 : decode cX0_letRainFall 1 = .ok (.getfield 30, 3) := by decide +kernel
theorem dX0_letRainFall_4 : decode cX0_letRainFall 4 = .ok (.aload_n 0, 1) := by decide +kernel
theorem dX0_letRainFall_5 : decode cX0_letRainFall 5 = .ok (.getfield 57, 3) := by decide +kernel
theorem dX0_letRainFall_8 : decode cX0_letRainFall 8 = .ok (.bipush 12, 2) := by decide +kernel
theorem dX0_letRainFall_10 : decode cX0_letRainFall 10 = .ok (.invokestatic 88, 3) := by decide +kernel
theorem dX0_letRainFall_13 : decode cX0_letRainFall 13 = .ok (.iaload, 1) := by decide +kernel
theorem dX0_letRainFall_14 : decode cX0_letRainFall 14 = .ok (.istore_n 1, 1) := by decide +kernel
theorem dX0_letRainFall_15 : decode cX0_letRainFall 15 = .ok (.iconst 0, 1) := by decide +kernel
theorem dX0_letRainFall_16 : decode cX0_letRainFall 16 = .ok (.istore_n 2, 1) := by decide +kernel
theorem dX0_letRainFall_17 : decode cX0_letRainFall 17 = .ok (.iload_n 2, 1) := by decide +kernel
theorem dX0_letRainFall_18 : decode cX0_letRainFall 18 = .ok (.bipush 64, 2) := by decide +kernel
theorem dX0_letRainFall_20 : decode cX0_letRainFall 20 = .ok (.if_icmp .ge 19, 3) := by decide +kernel
theorem dX0_letRainFall_23 : decode cX0_letRainFall 23 = .ok (.aload_n 0, 1) := by decide +kernel
theorem dX0_letRainFall_24 : decode cX0_letRainFall 24 = .ok (.getfield 15, 3) := by decide +kernel
theorem dX0_letRainFall_27 : decode cX0_letRainFall 27 = .ok (.iload_n 2, 1) := by decide +kernel
theorem dX0_letRainFall_28 : decode cX0_letRainFall 28 = .ok (.dup2, 1) := by decide +kernel
theorem dX0_letRainFall_29 : decode cX0_letRainFall 29 = .ok (.iaload, 1) := by decide +kernel
theorem dX0_letRainFall_30 : decode cX0_letRainFall 30 = .ok (.iload_n 1, 1) := by decide +kernel
theorem dX0_letRainFall_31 : decode cX0_letRainFall 31 = .ok (.iadd, 1) := by decide +kernel
theorem dX0_letRainFall_32 : decode cX0_letRainFall 32 = .ok (.iastore, 1) := by decide +kernel
theorem dX0_letRainFall_33 : decode cX0_letRainFall 33 = .ok (.iinc 2 1, 3) := by decide +kernel
theorem dX0_letRainFall_36 : decode cX0_letRainFall 36 = .ok (.goto (-19), 3) := by decide +kernel
theorem dX0_letRainFall_39 : decode cX0_letRainFall 39 = .ok (.return_, 1) := by decide +kernel
set_option maxRecDepth 20000 in
theorem ggX0_letWaterRun_X0_crestOf : GoodIn wsX0_letWaterRun wsX0_crestOf := goodIn_r _ [9, 10, 4, 3, 11, 12, 13, 14, 37, 38, 39, 40, 41, 42, 43, 44, 45, 46, 47, 48, 49, 50, 51] (by decide +kernel) (by decide +kernel)
set_option maxRecDepth 20000 in
theorem gX0_letWaterRun_X0_crestOf : GoodIn wsX0_letWaterRun (wsV RX0 94 RX0 yX0_crestOf wsX0_crestOf) := goodIn_app (goodIn_of _ (by decide +kernel)) ggX0_letWaterRun_X0_crestOf
set_option maxRecDepth 20000 in
theorem ggX0_letWaterRun_J7_fill_53178 : GoodIn wsX0_letWaterRun wsJ7_fill_53178 := goodIn_r _ [18] (by decide +kernel) (by decide +kernel)
set_option maxRecDepth 20000 in
theorem gX0_letWaterRun_J7_fill_53178 : GoodIn wsX0_letWaterRun (va_wsS RX0 45 yJ7_fill_53178 wsJ7_fill_53178) := goodIn_app (goodIn_of _ (by decide +kernel)) ggX0_letWaterRun_J7_fill_53178
set_option maxRecDepth 20000 in
theorem ggX0_letWaterRun_X0_lowestNeighbour : GoodIn wsX0_letWaterRun wsX0_lowestNeighbour := goodIn_r _ [22, 1, 23, 24, 8, 25, 37, 38, 39, 40, 41, 42, 43, 44, 45, 46, 47, 48, 49, 50, 51] (by decide +kernel) (by decide +kernel)
set_option maxRecDepth 20000 in
theorem gX0_letWaterRun_X0_lowestNeighbour : GoodIn wsX0_letWaterRun (wsV RX0 98 RX0 yX0_lowestNeighbour wsX0_lowestNeighbour) := goodIn_app (goodIn_of _ (by decide +kernel)) ggX0_letWaterRun_X0_lowestNeighbour
set_option maxRecDepth 20000 in
theorem ggX0_letWaterRun_X0_give : GoodIn wsX0_letWaterRun wsX0_give := goodIn_r _ [29, 1, 3, 4, 30, 31, 13, 32, 2, 33, 34, 35, 8, 36, 10, 37, 38, 39, 40, 41, 42, 43, 44, 45, 46, 47, 48, 49, 50, 51] (by decide +kernel) (by decide +kernel)
set_option maxRecDepth 20000 in
theorem gX0_letWaterRun_X0_give : GoodIn wsX0_letWaterRun (wsV RX0 101 RX0 yX0_give wsX0_give) := goodIn_app (goodIn_of _ (by decide +kernel)) ggX0_letWaterRun_X0_give
theorem dX0_letWaterRun_0 : decode cX0_letWaterRun 0 = .ok (.iconst 0, 1) := by decide +kernel
theorem dX0_letWaterRun_1 : decode cX0_letWaterRun 1 = .ok (.istore_n 1, 1) := by decide +kernel
theorem dX0_letWaterRun_2 : decode cX0_letWaterRun 2 = .ok (.iload_n 1, 1) := by decide +kernel
theorem dX0_letWaterRun_3 : decode cX0_letWaterRun 3 = .ok (.bipush 64, 2) := by decide +kernel
theorem dX0_letWaterRun_5 : decode cX0_letWaterRun 5 = .ok (.if_icmp .ge 20, 3) := by decide +kernel
theorem dX0_letWaterRun_8 : decode cX0_letWaterRun 8 = .ok (.aload_n 0, 1) := by decide +kernel
theorem dX0_letWaterRun_9 : decode cX0_letWaterRun 9 = .ok (.getfield 33, 3) := by decide +kernel
theorem dX0_letWaterRun_12 : decode cX0_letWaterRun 12 = .ok (.iload_n 1, 1) := by decide +kernel
theorem dX0_letWaterRun_13 : decode cX0_letWaterRun 13 = .ok (.aload_n 0, 1) := by decide +kernel
theorem dX0_letWaterRun_14 : decode cX0_letWaterRun 14 = .ok (.iload_n 1, 1) := by decide +kernel
theorem dX0_letWaterRun_15 : decode cX0_letWaterRun 15 = .ok (.invokevirtual 94, 3) := by decide +kernel
theorem dX0_letWaterRun_18 : decode cX0_letWaterRun 18 = .ok (.iastore, 1) := by decide +kernel
theorem dX0_letWaterRun_19 : decode cX0_letWaterRun 19 = .ok (.iinc 1 1, 3) := by decide +kernel
theorem dX0_letWaterRun_22 : decode cX0_letWaterRun 22 = .ok (.goto (-20), 3) := by decide +kernel
theorem dX0_letWaterRun_25 : decode cX0_letWaterRun 25 = .ok (.aload_n 0, 1) := by decide +kernel
theorem dX0_letWaterRun_26 : decode cX0_letWaterRun 26 = .ok (.getfield 36, 3) := by decide +kernel
theorem dX0_letWaterRun_29 : decode cX0_letWaterRun 29 = .ok (.iconst 0, 1) := by decide +kernel
theorem dX0_letWaterRun_30 : decode cX0_letWaterRun 30 = .ok (.invokestatic 45, 3) := by decide +kernel
theorem dX0_letWaterRun_33 : decode cX0_letWaterRun 33 = .ok (.iconst 0, 1) := by decide +kernel
theorem dX0_letWaterRun_34 : decode cX0_letWaterRun 34 = .ok (.istore_n 1, 1) := by decide +kernel
theorem dX0_letWaterRun_35 : decode cX0_letWaterRun 35 = .ok (.iload_n 1, 1) := by decide +kernel
theorem dX0_letWaterRun_36 : decode cX0_letWaterRun 36 = .ok (.bipush 64, 2) := by decide +kernel
theorem dX0_letWaterRun_38 : decode cX0_letWaterRun 38 = .ok (.if_icmp .ge 34, 3) := by decide +kernel
theorem dX0_letWaterRun_41 : decode cX0_letWaterRun 41 = .ok (.aload_n 0, 1) := by decide +kernel
theorem dX0_letWaterRun_42 : decode cX0_letWaterRun 42 = .ok (.getfield 15, 3) := by decide +kernel
theorem dX0_letWaterRun_45 : decode cX0_letWaterRun 45 = .ok (.iload_n 1, 1) := by decide +kernel
theorem dX0_letWaterRun_46 : decode cX0_letWaterRun 46 = .ok (.iaload, 1) := by decide +kernel
theorem dX0_letWaterRun_47 : decode cX0_letWaterRun 47 = .ok (.aload_n 0, 1) := by decide +kernel
theorem dX0_letWaterRun_48 : decode cX0_letWaterRun 48 = .ok (.getfield 18, 3) := by decide +kernel
theorem dX0_letWaterRun_51 : decode cX0_letWaterRun 51 = .ok (.iload_n 1, 1) := by decide +kernel
theorem dX0_letWaterRun_52 : decode cX0_letWaterRun 52 = .ok (.iaload, 1) := by decide +kernel
theorem dX0_letWaterRun_53 : decode cX0_letWaterRun 53 = .ok (.if_icmp .le 13, 3) := by decide +kernel
theorem dX0_letWaterRun_56 : decode cX0_letWaterRun 56 = .ok (.aload_n 0, 1) := by decide +kernel
theorem dX0_letWaterRun_57 : decode cX0_letWaterRun 57 = .ok (.iload_n 1, 1) := by decide +kernel
theorem dX0_letWaterRun_58 : decode cX0_letWaterRun 58 = .ok (.aload_n 0, 1) := by decide +kernel
theorem dX0_letWaterRun_59 : decode cX0_letWaterRun 59 = .ok (.iload_n 1, 1) := by decide +kernel
theorem dX0_letWaterRun_60 : decode cX0_letWaterRun 60 = .ok (.invokevirtual 98, 3) := by decide +kernel
theorem dX0_letWaterRun_63 : decode cX0_letWaterRun 63 = .ok (.invokevirtual 101, 3) := by decide +kernel
theorem dX0_letWaterRun_66 : decode cX0_letWaterRun 66 = .ok (.iinc 1 1, 3) := by decide +kernel
theorem dX0_letWaterRun_69 : decode cX0_letWaterRun 69 = .ok (.goto (-34), 3) := by decide +kernel
theorem dX0_letWaterRun_72 : decode cX0_letWaterRun 72 = .ok (.iconst 0, 1) := by decide +kernel
theorem dX0_letWaterRun_73 : decode cX0_letWaterRun 73 = .ok (.istore_n 1, 1) := by decide +kernel
theorem dX0_letWaterRun_74 : decode cX0_letWaterRun 74 = .ok (.iload_n 1, 1) := by decide +kernel
theorem dX0_letWaterRun_75 : decode cX0_letWaterRun 75 = .ok (.bipush 64, 2) := by decide +kernel
theorem dX0_letWaterRun_77 : decode cX0_letWaterRun 77 = .ok (.if_icmp .ge 24, 3) := by decide +kernel
theorem dX0_letWaterRun_80 : decode cX0_letWaterRun 80 = .ok (.aload_n 0, 1) := by decide +kernel
theorem dX0_letWaterRun_81 : decode cX0_letWaterRun 81 = .ok (.getfield 15, 3) := by decide +kernel
theorem dX0_letWaterRun_84 : decode cX0_letWaterRun 84 = .ok (.iload_n 1, 1) := by decide +kernel
theorem dX0_letWaterRun_85 : decode cX0_letWaterRun 85 = .ok (.dup2, 1) := by decide +kernel
theorem dX0_letWaterRun_86 : decode cX0_letWaterRun 86 = .ok (.iaload, 1) := by decide +kernel
theorem dX0_letWaterRun_87 : decode cX0_letWaterRun 87 = .ok (.aload_n 0, 1) := by decide +kernel
theorem dX0_letWaterRun_88 : decode cX0_letWaterRun 88 = .ok (.getfield 36, 3) := by decide +kernel
theorem dX0_letWaterRun_91 : decode cX0_letWaterRun 91 = .ok (.iload_n 1, 1) := by decide +kernel
theorem dX0_letWaterRun_92 : decode cX0_letWaterRun 92 = .ok (.iaload, 1) := by decide +kernel
theorem dX0_letWaterRun_93 : decode cX0_letWaterRun 93 = .ok (.iadd, 1) := by decide +kernel
theorem dX0_letWaterRun_94 : decode cX0_letWaterRun 94 = .ok (.iastore, 1) := by decide +kernel
theorem dX0_letWaterRun_95 : decode cX0_letWaterRun 95 = .ok (.iinc 1 1, 3) := by decide +kernel
theorem dX0_letWaterRun_98 : decode cX0_letWaterRun 98 = .ok (.goto (-24), 3) := by decide +kernel
theorem dX0_letWaterRun_101 : decode cX0_letWaterRun 101 = .ok (.return_, 1) := by decide +kernel
set_option maxRecDepth 20000 in
theorem ggX0_give_X0_levelOf : GoodIn wsX0_give wsX0_levelOf := goodIn_r _ [13, 14, 2, 15, 16, 17, 18, 19, 20, 21, 22, 23, 24, 25, 26, 27, 28, 29] (by decide +kernel) (by decide +kernel)
set_option maxRecDepth 20000 in
theorem gX0_give_X0_levelOf : GoodIn wsX0_give (wsV RX0 105 RX0 yX0_levelOf wsX0_levelOf) := goodIn_app (goodIn_of _ (by decide +kernel)) ggX0_give_X0_levelOf
theorem dX0_give_0 : decode cX0_give 0 = .ok (.iload_n 2, 1) := by decide +kernel
theorem dX0_give_1 : decode cX0_give 1 = .ok (.ifCond .ge 4, 3) := by decide +kernel
theorem dX0_give_4 : decode cX0_give 4 = .ok (.return_, 1) := by decide +kernel
theorem dX0_give_5 : decode cX0_give 5 = .ok (.aload_n 0, 1) := by decide +kernel
theorem dX0_give_6 : decode cX0_give 6 = .ok (.iload_n 1, 1) := by decide +kernel
theorem dX0_give_7 : decode cX0_give 7 = .ok (.invokevirtual 105, 3) := by decide +kernel
theorem dX0_give_10 : decode cX0_give 10 = .ok (.aload_n 0, 1) := by decide +kernel
theorem dX0_give_11 : decode cX0_give 11 = .ok (.getfield 33, 3) := by decide +kernel
theorem dX0_give_14 : decode cX0_give 14 = .ok (.iload_n 2, 1) := by decide +kernel
theorem dX0_give_15 : decode cX0_give 15 = .ok (.iaload, 1) := by decide +kernel
theorem dX0_give_16 : decode cX0_give 16 = .ok (.isub, 1) := by decide +kernel
theorem dX0_give_17 : decode cX0_give 17 = .ok (.istore_n 3, 1) := by decide +kernel
theorem dX0_give_18 : decode cX0_give 18 = .ok (.iload_n 3, 1) := by decide +kernel
theorem dX0_give_19 : decode cX0_give 19 = .ok (.ifCond .le 46, 3) := by decide +kernel
theorem dX0_give_22 : decode cX0_give 22 = .ok (.iload_n 3, 1) := by decide +kernel
theorem dX0_give_23 : decode cX0_give 23 = .ok (.iconst 2, 1) := by decide +kernel
theorem dX0_give_24 : decode cX0_give 24 = .ok (.idiv, 1) := by decide +kernel
theorem dX0_give_25 : decode cX0_give 25 = .ok (.aload_n 0, 1) := by decide +kernel
theorem dX0_give_26 : decode cX0_give 26 = .ok (.getfield 15, 3) := by decide +kernel
theorem dX0_give_29 : decode cX0_give 29 = .ok (.iload_n 1, 1) := by decide +kernel
theorem dX0_give_30 : decode cX0_give 30 = .ok (.iaload, 1) := by decide +kernel
theorem dX0_give_31 : decode cX0_give 31 = .ok (.aload_n 0, 1) := by decide +kernel
theorem dX0_give_32 : decode cX0_give 32 = .ok (.getfield 18, 3) := by decide +kernel
theorem dX0_give_35 : decode cX0_give 35 = .ok (.iload_n 1, 1) := by decide +kernel
theorem dX0_give_36 : decode cX0_give 36 = .ok (.iaload, 1) := by decide +kernel
theorem dX0_give_37 : decode cX0_give 37 = .ok (.isub, 1) := by decide +kernel
theorem dX0_give_38 : decode cX0_give 38 = .ok (.invokestatic 108, 3) := by decide +kernel
theorem dX0_give_41 : decode cX0_give 41 = .ok (.istore 4, 2) := by decide +kernel
theorem dX0_give_43 : decode cX0_give 43 = .ok (.aload_n 0, 1) := by decide +kernel
theorem dX0_give_44 : decode cX0_give 44 = .ok (.getfield 36, 3) := by decide +kernel
theorem dX0_give_47 : decode cX0_give 47 = .ok (.iload_n 1, 1) := by decide +kernel
theorem dX0_give_48 : decode cX0_give 48 = .ok (.dup2, 1) := by decide +kernel
theorem dX0_give_49 : decode cX0_give 49 = .ok (.iaload, 1) := by decide +kernel
theorem dX0_give_50 : decode cX0_give 50 = .ok (.iload 4, 2) := by decide +kernel
theorem dX0_give_52 : decode cX0_give 52 = .ok (.isub, 1) := by decide +kernel
theorem dX0_give_53 : decode cX0_give 53 = .ok (.iastore, 1) := by decide +kernel
theorem dX0_give_54 : decode cX0_give 54 = .ok (.aload_n 0, 1) := by decide +kernel
theorem dX0_give_55 : decode cX0_give 55 = .ok (.getfield 36, 3) := by decide +kernel
theorem dX0_give_58 : decode cX0_give 58 = .ok (.iload_n 2, 1) := by decide +kernel
theorem dX0_give_59 : decode cX0_give 59 = .ok (.dup2, 1) := by decide +kernel
theorem dX0_give_60 : decode cX0_give 60 = .ok (.iaload, 1) := by decide +kernel
theorem dX0_give_61 : decode cX0_give 61 = .ok (.iload 4, 2) := by decide +kernel
theorem dX0_give_63 : decode cX0_give 63 = .ok (.iadd, 1) := by decide +kernel
theorem dX0_give_64 : decode cX0_give 64 = .ok (.iastore, 1) := by decide +kernel
theorem dX0_give_65 : decode cX0_give 65 = .ok (.return_, 1) := by decide +kernel
set_option maxRecDepth 20000 in
theorem ggX0_lowestNeighbour_X0_neighbourOf : GoodIn wsX0_lowestNeighbour wsX0_neighbourOf := goodIn_r _ [5] (by decide +kernel) (by decide +kernel)
set_option maxRecDepth 20000 in
theorem gX0_lowestNeighbour_X0_neighbourOf : GoodIn wsX0_lowestNeighbour (va_wsS RX0 111 yX0_neighbourOf wsX0_neighbourOf) := goodIn_app (goodIn_of _ (by decide +kernel)) ggX0_lowestNeighbour_X0_neighbourOf
theorem dX0_lowestNeighbour_0 : decode cX0_lowestNeighbour 0 = .ok (.iconst (-1), 1) := by decide +kernel
theorem dX0_lowestNeighbour_1 : decode cX0_lowestNeighbour 1 = .ok (.istore_n 2, 1) := by decide +kernel
theorem dX0_lowestNeighbour_2 : decode cX0_lowestNeighbour 2 = .ok (.iconst 0, 1) := by decide +kernel
theorem dX0_lowestNeighbour_3 : decode cX0_lowestNeighbour 3 = .ok (.istore_n 3, 1) := by decide +kernel
theorem dX0_lowestNeighbour_4 : decode cX0_lowestNeighbour 4 = .ok (.iload_n 3, 1) := by decide +kernel
theorem dX0_lowestNeighbour_5 : decode cX0_lowestNeighbour 5 = .ok (.iconst 4, 1) := by decide +kernel
theorem dX0_lowestNeighbour_6 : decode cX0_lowestNeighbour 6 = .ok (.if_icmp .ge 44, 3) := by decide +kernel
theorem dX0_lowestNeighbour_9 : decode cX0_lowestNeighbour 9 = .ok (.iload_n 1, 1) := by decide +kernel
theorem dX0_lowestNeighbour_10 : decode cX0_lowestNeighbour 10 = .ok (.iload_n 3, 1) := by decide +kernel
theorem dX0_lowestNeighbour_11 : decode cX0_lowestNeighbour 11 = .ok (.invokestatic 111, 3) := by decide +kernel
theorem dX0_lowestNeighbour_14 : decode cX0_lowestNeighbour 14 = .ok (.istore 4, 2) := by decide +kernel
theorem dX0_lowestNeighbour_16 : decode cX0_lowestNeighbour 16 = .ok (.iload 4, 2) := by decide +kernel
theorem dX0_lowestNeighbour_18 : decode cX0_lowestNeighbour 18 = .ok (.ifCond .lt 26, 3) := by decide +kernel
theorem dX0_lowestNeighbour_21 : decode cX0_lowestNeighbour 21 = .ok (.iload_n 2, 1) := by decide +kernel
theorem dX0_lowestNeighbour_22 : decode cX0_lowestNeighbour 22 = .ok (.ifCond .lt 19, 3) := by decide +kernel
theorem dX0_lowestNeighbour_25 : decode cX0_lowestNeighbour 25 = .ok (.aload_n 0, 1) := by decide +kernel
theorem dX0_lowestNeighbour_26 : decode cX0_lowestNeighbour 26 = .ok (.getfield 33, 3) := by decide +kernel
theorem dX0_lowestNeighbour_29 : decode cX0_lowestNeighbour 29 = .ok (.iload 4, 2) := by decide +kernel
theorem dX0_lowestNeighbour_31 : decode cX0_lowestNeighbour 31 = .ok (.iaload, 1) := by decide +kernel
theorem dX0_lowestNeighbour_32 : decode cX0_lowestNeighbour 32 = .ok (.aload_n 0, 1) := by decide +kernel
theorem dX0_lowestNeighbour_33 : decode cX0_lowestNeighbour 33 = .ok (.getfield 33, 3) := by decide +kernel
theorem dX0_lowestNeighbour_36 : decode cX0_lowestNeighbour 36 = .ok (.iload_n 2, 1) := by decide +kernel
theorem dX0_lowestNeighbour_37 : decode cX0_lowestNeighbour 37 = .ok (.iaload, 1) := by decide +kernel
theorem dX0_lowestNeighbour_38 : decode cX0_lowestNeighbour 38 = .ok (.if_icmp .ge 6, 3) := by decide +kernel
theorem dX0_lowestNeighbour_41 : decode cX0_lowestNeighbour 41 = .ok (.iload 4, 2) := by decide +kernel
theorem dX0_lowestNeighbour_43 : decode cX0_lowestNeighbour 43 = .ok (.istore_n 2, 1) := by decide +kernel
theorem dX0_lowestNeighbour_44 : decode cX0_lowestNeighbour 44 = .ok (.iinc 3 1, 3) := by decide +kernel
theorem dX0_lowestNeighbour_47 : decode cX0_lowestNeighbour 47 = .ok (.goto (-43), 3) := by decide +kernel
theorem dX0_lowestNeighbour_50 : decode cX0_lowestNeighbour 50 = .ok (.iload_n 2, 1) := by decide +kernel
theorem dX0_lowestNeighbour_51 : decode cX0_lowestNeighbour 51 = .ok (.ireturn, 1) := by decide +kernel
theorem dX0_wearDams_0 : decode cX0_wearDams 0 = .ok (.iconst 0, 1) := by decide +kernel
theorem dX0_wearDams_1 : decode cX0_wearDams 1 = .ok (.istore_n 1, 1) := by decide +kernel
theorem dX0_wearDams_2 : decode cX0_wearDams 2 = .ok (.iload_n 1, 1) := by decide +kernel
theorem dX0_wearDams_3 : decode cX0_wearDams 3 = .ok (.bipush 64, 2) := by decide +kernel
theorem dX0_wearDams_5 : decode cX0_wearDams 5 = .ok (.if_icmp .ge 78, 3) := by decide +kernel
theorem dX0_wearDams_8 : decode cX0_wearDams 8 = .ok (.aload_n 0, 1) := by decide +kernel
theorem dX0_wearDams_9 : decode cX0_wearDams 9 = .ok (.getfield 18, 3) := by decide +kernel
theorem dX0_wearDams_12 : decode cX0_wearDams 12 = .ok (.iload_n 1, 1) := by decide +kernel
theorem dX0_wearDams_13 : decode cX0_wearDams 13 = .ok (.iaload, 1) := by decide +kernel
theorem dX0_wearDams_14 : decode cX0_wearDams 14 = .ok (.ifCond .le 63, 3) := by decide +kernel
theorem dX0_wearDams_17 : decode cX0_wearDams 17 = .ok (.aload_n 0, 1) := by decide +kernel
theorem dX0_wearDams_18 : decode cX0_wearDams 18 = .ok (.getfield 15, 3) := by decide +kernel
theorem dX0_wearDams_21 : decode cX0_wearDams 21 = .ok (.iload_n 1, 1) := by decide +kernel
theorem dX0_wearDams_22 : decode cX0_wearDams 22 = .ok (.iaload, 1) := by decide +kernel
theorem dX0_wearDams_23 : decode cX0_wearDams 23 = .ok (.aload_n 0, 1) := by decide +kernel
theorem dX0_wearDams_24 : decode cX0_wearDams 24 = .ok (.getfield 18, 3) := by decide +kernel
theorem dX0_wearDams_27 : decode cX0_wearDams 27 = .ok (.iload_n 1, 1) := by decide +kernel
theorem dX0_wearDams_28 : decode cX0_wearDams 28 = .ok (.iaload, 1) := by decide +kernel
theorem dX0_wearDams_29 : decode cX0_wearDams 29 = .ok (.if_icmp .lt 48, 3) := by decide +kernel
theorem dX0_wearDams_32 : decode cX0_wearDams 32 = .ok (.aload_n 0, 1) := by decide +kernel
theorem dX0_wearDams_33 : decode cX0_wearDams 33 = .ok (.getfield 21, 3) := by decide +kernel
theorem dX0_wearDams_36 : decode cX0_wearDams 36 = .ok (.iload_n 1, 1) := by decide +kernel
theorem dX0_wearDams_37 : decode cX0_wearDams 37 = .ok (.dup2, 1) := by decide +kernel
theorem dX0_wearDams_38 : decode cX0_wearDams 38 = .ok (.iaload, 1) := by decide +kernel
theorem dX0_wearDams_39 : decode cX0_wearDams 39 = .ok (.iconst 1, 1) := by decide +kernel
theorem dX0_wearDams_40 : decode cX0_wearDams 40 = .ok (.iadd, 1) := by decide +kernel
theorem dX0_wearDams_41 : decode cX0_wearDams 41 = .ok (.iastore, 1) := by decide +kernel
theorem dX0_wearDams_42 : decode cX0_wearDams 42 = .ok (.aload_n 0, 1) := by decide +kernel
theorem dX0_wearDams_43 : decode cX0_wearDams 43 = .ok (.getfield 21, 3) := by decide +kernel
theorem dX0_wearDams_46 : decode cX0_wearDams 46 = .ok (.iload_n 1, 1) := by decide +kernel
theorem dX0_wearDams_47 : decode cX0_wearDams 47 = .ok (.iaload, 1) := by decide +kernel
theorem dX0_wearDams_48 : decode cX0_wearDams 48 = .ok (.bipush 10, 2) := by decide +kernel
theorem dX0_wearDams_50 : decode cX0_wearDams 50 = .ok (.if_icmp .lt 27, 3) := by decide +kernel
theorem dX0_wearDams_53 : decode cX0_wearDams 53 = .ok (.aload_n 0, 1) := by decide +kernel
theorem dX0_wearDams_54 : decode cX0_wearDams 54 = .ok (.getfield 18, 3) := by decide +kernel
theorem dX0_wearDams_57 : decode cX0_wearDams 57 = .ok (.iload_n 1, 1) := by decide +kernel
theorem dX0_wearDams_58 : decode cX0_wearDams 58 = .ok (.iconst 0, 1) := by decide +kernel
theorem dX0_wearDams_59 : decode cX0_wearDams 59 = .ok (.iastore, 1) := by decide +kernel
theorem dX0_wearDams_60 : decode cX0_wearDams 60 = .ok (.aload_n 0, 1) := by decide +kernel
theorem dX0_wearDams_61 : decode cX0_wearDams 61 = .ok (.getfield 21, 3) := by decide +kernel
theorem dX0_wearDams_64 : decode cX0_wearDams 64 = .ok (.iload_n 1, 1) := by decide +kernel
theorem dX0_wearDams_65 : decode cX0_wearDams 65 = .ok (.iconst 0, 1) := by decide +kernel
theorem dX0_wearDams_66 : decode cX0_wearDams 66 = .ok (.iastore, 1) := by decide +kernel
theorem dX0_wearDams_67 : decode cX0_wearDams 67 = .ok (.aload_n 0, 1) := by decide +kernel
theorem dX0_wearDams_68 : decode cX0_wearDams 68 = .ok (.dup, 1) := by decide +kernel
theorem dX0_wearDams_69 : decode cX0_wearDams 69 = .ok (.getfield 61, 3) := by decide +kernel
theorem dX0_wearDams_72 : decode cX0_wearDams 72 = .ok (.iconst 1, 1) := by decide +kernel
theorem dX0_wearDams_73 : decode cX0_wearDams 73 = .ok (.iadd, 1) := by decide +kernel
theorem dX0_wearDams_74 : decode cX0_wearDams 74 = .ok (.putfield 61, 3) := by decide +kernel
theorem dX0_wearDams_77 : decode cX0_wearDams 77 = .ok (.iinc 1 1, 3) := by decide +kernel
theorem dX0_wearDams_80 : decode cX0_wearDams 80 = .ok (.goto (-78), 3) := by decide +kernel
theorem dX0_wearDams_83 : decode cX0_wearDams 83 = .ok (.return_, 1) := by decide +kernel
theorem dX0_drainCells_0 : decode cX0_drainCells 0 = .ok (.iconst 0, 1) := by decide +kernel
theorem dX0_drainCells_1 : decode cX0_drainCells 1 = .ok (.istore_n 1, 1) := by decide +kernel
theorem dX0_drainCells_2 : decode cX0_drainCells 2 = .ok (.iload_n 1, 1) := by decide +kernel
theorem dX0_drainCells_3 : decode cX0_drainCells 3 = .ok (.bipush 64, 2) := by decide +kernel
theorem dX0_drainCells_5 : decode cX0_drainCells 5 = .ok (.if_icmp .ge 45, 3) := by decide +kernel
theorem dX0_drainCells_8 : decode cX0_drainCells 8 = .ok (.aload_n 0, 1) := by decide +kernel
theorem dX0_drainCells_9 : decode cX0_drainCells 9 = .ok (.getfield 24, 3) := by decide +kernel
theorem dX0_drainCells_12 : decode cX0_drainCells 12 = .ok (.iload_n 1, 1) := by decide +kernel
theorem dX0_drainCells_13 : decode cX0_drainCells 13 = .ok (.iaload, 1) := by decide +kernel
theorem dX0_drainCells_14 : decode cX0_drainCells 14 = .ok (.aload_n 0, 1) := by decide +kernel
theorem dX0_drainCells_15 : decode cX0_drainCells 15 = .ok (.getfield 15, 3) := by decide +kernel
theorem dX0_drainCells_18 : decode cX0_drainCells 18 = .ok (.iload_n 1, 1) := by decide +kernel
theorem dX0_drainCells_19 : decode cX0_drainCells 19 = .ok (.iaload, 1) := by decide +kernel
theorem dX0_drainCells_20 : decode cX0_drainCells 20 = .ok (.invokestatic 108, 3) := by decide +kernel
theorem dX0_drainCells_23 : decode cX0_drainCells 23 = .ok (.istore_n 2, 1) := by decide +kernel
theorem dX0_drainCells_24 : decode cX0_drainCells 24 = .ok (.aload_n 0, 1) := by decide +kernel
theorem dX0_drainCells_25 : decode cX0_drainCells 25 = .ok (.getfield 15, 3) := by decide +kernel
theorem dX0_drainCells_28 : decode cX0_drainCells 28 = .ok (.iload_n 1, 1) := by decide +kernel
theorem dX0_drainCells_29 : decode cX0_drainCells 29 = .ok (.dup2, 1) := by decide +kernel
theorem dX0_drainCells_30 : decode cX0_drainCells 30 = .ok (.iaload, 1) := by decide +kernel
theorem dX0_drainCells_31 : decode cX0_drainCells 31 = .ok (.iload_n 2, 1) := by decide +kernel
theorem dX0_drainCells_32 : decode cX0_drainCells 32 = .ok (.isub, 1) := by decide +kernel
theorem dX0_drainCells_33 : decode cX0_drainCells 33 = .ok (.iastore, 1) := by decide +kernel
theorem dX0_drainCells_34 : decode cX0_drainCells 34 = .ok (.aload_n 0, 1) := by decide +kernel
theorem dX0_drainCells_35 : decode cX0_drainCells 35 = .ok (.dup, 1) := by decide +kernel
theorem dX0_drainCells_36 : decode cX0_drainCells 36 = .ok (.getfield 64, 3) := by decide +kernel
theorem dX0_drainCells_39 : decode cX0_drainCells 39 = .ok (.iload_n 2, 1) := by decide +kernel
theorem dX0_drainCells_40 : decode cX0_drainCells 40 = .ok (.iadd, 1) := by decide +kernel
theorem dX0_drainCells_41 : decode cX0_drainCells 41 = .ok (.putfield 64, 3) := by decide +kernel
theorem dX0_drainCells_44 : decode cX0_drainCells 44 = .ok (.iinc 1 1, 3) := by decide +kernel
theorem dX0_drainCells_47 : decode cX0_drainCells 47 = .ok (.goto (-45), 3) := by decide +kernel
theorem dX0_drainCells_50 : decode cX0_drainCells 50 = .ok (.return_, 1) := by decide +kernel
theorem dX0_leaveTowns_0 : decode cX0_leaveTowns 0 = .ok (.iconst 0, 1) := by decide +kernel
theorem dX0_leaveTowns_1 : decode cX0_leaveTowns 1 = .ok (.istore_n 1, 1) := by decide +kernel
theorem dX0_leaveTowns_2 : decode cX0_leaveTowns 2 = .ok (.iload_n 1, 1) := by decide +kernel
theorem dX0_leaveTowns_3 : decode cX0_leaveTowns 3 = .ok (.bipush 64, 2) := by decide +kernel
theorem dX0_leaveTowns_5 : decode cX0_leaveTowns 5 = .ok (.if_icmp .ge 59, 3) := by decide +kernel
theorem dX0_leaveTowns_8 : decode cX0_leaveTowns 8 = .ok (.aload_n 0, 1) := by decide +kernel
theorem dX0_leaveTowns_9 : decode cX0_leaveTowns 9 = .ok (.getfield 15, 3) := by decide +kernel
theorem dX0_leaveTowns_12 : decode cX0_leaveTowns 12 = .ok (.iload_n 1, 1) := by decide +kernel
theorem dX0_leaveTowns_13 : decode cX0_leaveTowns 13 = .ok (.iaload, 1) := by decide +kernel
theorem dX0_leaveTowns_14 : decode cX0_leaveTowns 14 = .ok (.iconst 3, 1) := by decide +kernel
theorem dX0_leaveTowns_15 : decode cX0_leaveTowns 15 = .ok (.if_icmp .lt 43, 3) := by decide +kernel
theorem dX0_leaveTowns_18 : decode cX0_leaveTowns 18 = .ok (.aload_n 0, 1) := by decide +kernel
theorem dX0_leaveTowns_19 : decode cX0_leaveTowns 19 = .ok (.getfield 27, 3) := by decide +kernel
theorem dX0_leaveTowns_22 : decode cX0_leaveTowns 22 = .ok (.iload_n 1, 1) := by decide +kernel
theorem dX0_leaveTowns_23 : decode cX0_leaveTowns 23 = .ok (.iaload, 1) := by decide +kernel
theorem dX0_leaveTowns_24 : decode cX0_leaveTowns 24 = .ok (.iconst 3, 1) := by decide +kernel
theorem dX0_leaveTowns_25 : decode cX0_leaveTowns 25 = .ok (.idiv, 1) := by decide +kernel
theorem dX0_leaveTowns_26 : decode cX0_leaveTowns 26 = .ok (.iconst 1, 1) := by decide +kernel
theorem dX0_leaveTowns_27 : decode cX0_leaveTowns 27 = .ok (.iadd, 1) := by decide +kernel
theorem dX0_leaveTowns_28 : decode cX0_leaveTowns 28 = .ok (.aload_n 0, 1) := by decide +kernel
theorem dX0_leaveTowns_29 : decode cX0_leaveTowns 29 = .ok (.getfield 27, 3) := by decide +kernel
theorem dX0_leaveTowns_32 : decode cX0_leaveTowns 32 = .ok (.iload_n 1, 1) := by decide +kernel
theorem dX0_leaveTowns_33 : decode cX0_leaveTowns 33 = .ok (.iaload, 1) := by decide +kernel
theorem dX0_leaveTowns_34 : decode cX0_leaveTowns 34 = .ok (.invokestatic 108, 3) := by decide +kernel
theorem dX0_leaveTowns_37 : decode cX0_leaveTowns 37 = .ok (.istore_n 2, 1) := by decide +kernel
theorem dX0_leaveTowns_38 : decode cX0_leaveTowns 38 = .ok (.aload_n 0, 1) := by decide +kernel
theorem dX0_leaveTowns_39 : decode cX0_leaveTowns 39 = .ok (.getfield 27, 3) := by decide +kernel
theorem dX0_leaveTowns_42 : decode cX0_leaveTowns 42 = .ok (.iload_n 1, 1) := by decide +kernel
theorem dX0_leaveTowns_43 : decode cX0_leaveTowns 43 = .ok (.dup2, 1) := by decide +kernel
theorem dX0_leaveTowns_44 : decode cX0_leaveTowns 44 = .ok (.iaload, 1) := by decide +kernel
theorem dX0_leaveTowns_45 : decode cX0_leaveTowns 45 = .ok (.iload_n 2, 1) := by decide +kernel
theorem dX0_leaveTowns_46 : decode cX0_leaveTowns 46 = .ok (.isub, 1) := by decide +kernel
theorem dX0_leaveTowns_47 : decode cX0_leaveTowns 47 = .ok (.iastore, 1) := by decide +kernel
theorem dX0_leaveTowns_48 : decode cX0_leaveTowns 48 = .ok (.aload_n 0, 1) := by decide +kernel
theorem dX0_leaveTowns_49 : decode cX0_leaveTowns 49 = .ok (.dup, 1) := by decide +kernel
theorem dX0_leaveTowns_50 : decode cX0_leaveTowns 50 = .ok (.getfield 67, 3) := by decide +kernel
theorem dX0_leaveTowns_53 : decode cX0_leaveTowns 53 = .ok (.iload_n 2, 1) := by decide +kernel
theorem dX0_leaveTowns_54 : decode cX0_leaveTowns 54 = .ok (.iadd, 1) := by decide +kernel
theorem dX0_leaveTowns_55 : decode cX0_leaveTowns 55 = .ok (.putfield 67, 3) := by decide +kernel
theorem dX0_leaveTowns_58 : decode cX0_leaveTowns 58 = .ok (.iinc 1 1, 3) := by decide +kernel
theorem dX0_leaveTowns_61 : decode cX0_leaveTowns 61 = .ok (.goto (-59), 3) := by decide +kernel
theorem dX0_leaveTowns_64 : decode cX0_leaveTowns 64 = .ok (.return_, 1) := by decide +kernel
theorem dX0_levelOf_0 : decode cX0_levelOf 0 = .ok (.aload_n 0, 1) := by decide +kernel
theorem dX0_levelOf_1 : decode cX0_levelOf 1 = .ok (.getfield 9, 3) := by decide +kernel
theorem dX0_levelOf_4 : decode cX0_levelOf 4 = .ok (.iload_n 1, 1) := by decide +kernel
theorem dX0_levelOf_5 : decode cX0_levelOf 5 = .ok (.iaload, 1) := by decide +kernel
theorem dX0_levelOf_6 : decode cX0_levelOf 6 = .ok (.aload_n 0, 1) := by decide +kernel
theorem dX0_levelOf_7 : decode cX0_levelOf 7 = .ok (.getfield 15, 3) := by decide +kernel
theorem dX0_levelOf_10 : decode cX0_levelOf 10 = .ok (.iload_n 1, 1) := by decide +kernel
theorem dX0_levelOf_11 : decode cX0_levelOf 11 = .ok (.iaload, 1) := by decide +kernel
theorem dX0_levelOf_12 : decode cX0_levelOf 12 = .ok (.iadd, 1) := by decide +kernel
theorem dX0_levelOf_13 : decode cX0_levelOf 13 = .ok (.ireturn, 1) := by decide +kernel
theorem dX0_crestOf_0 : decode cX0_crestOf 0 = .ok (.aload_n 0, 1) := by decide +kernel
theorem dX0_crestOf_1 : decode cX0_crestOf 1 = .ok (.getfield 9, 3) := by decide +kernel
theorem dX0_crestOf_4 : decode cX0_crestOf 4 = .ok (.iload_n 1, 1) := by decide +kernel
theorem dX0_crestOf_5 : decode cX0_crestOf 5 = .ok (.iaload, 1) := by decide +kernel
theorem dX0_crestOf_6 : decode cX0_crestOf 6 = .ok (.aload_n 0, 1) := by decide +kernel
theorem dX0_crestOf_7 : decode cX0_crestOf 7 = .ok (.getfield 18, 3) := by decide +kernel
theorem dX0_crestOf_10 : decode cX0_crestOf 10 = .ok (.iload_n 1, 1) := by decide +kernel
theorem dX0_crestOf_11 : decode cX0_crestOf 11 = .ok (.iaload, 1) := by decide +kernel
theorem dX0_crestOf_12 : decode cX0_crestOf 12 = .ok (.aload_n 0, 1) := by decide +kernel
theorem dX0_crestOf_13 : decode cX0_crestOf 13 = .ok (.getfield 15, 3) := by decide +kernel
theorem dX0_crestOf_16 : decode cX0_crestOf 16 = .ok (.iload_n 1, 1) := by decide +kernel
theorem dX0_crestOf_17 : decode cX0_crestOf 17 = .ok (.iaload, 1) := by decide +kernel
theorem dX0_crestOf_18 : decode cX0_crestOf 18 = .ok (.invokestatic 114, 3) := by decide +kernel
theorem dX0_crestOf_21 : decode cX0_crestOf 21 = .ok (.iadd, 1) := by decide +kernel
theorem dX0_crestOf_22 : decode cX0_crestOf 22 = .ok (.ireturn, 1) := by decide +kernel
set_option maxRecDepth 20000 in
theorem ggX0_cellNumber_X0_levelOf : GoodIn wsX0_cellNumber wsX0_levelOf := goodIn_r _ [11, 1, 2, 20, 21, 22, 23, 24, 25, 26, 27, 28, 29, 30, 31, 32, 33, 34] (by decide +kernel) (by decide +kernel)
set_option maxRecDepth 20000 in
theorem gX0_cellNumber_X0_levelOf : GoodIn wsX0_cellNumber (wsV RX0 105 RX0 yX0_levelOf wsX0_levelOf) := goodIn_app (goodIn_of _ (by decide +kernel)) ggX0_cellNumber_X0_levelOf
set_option maxRecDepth 20000 in
theorem ggX0_cellNumber_X0_crestOf : GoodIn wsX0_cellNumber wsX0_crestOf := goodIn_r _ [15, 1, 3, 2, 16, 17, 18, 19, 20, 21, 22, 23, 24, 25, 26, 27, 28, 29, 30, 31, 32, 33, 34] (by decide +kernel) (by decide +kernel)
set_option maxRecDepth 20000 in
theorem gX0_cellNumber_X0_crestOf : GoodIn wsX0_cellNumber (wsV RX0 94 RX0 yX0_crestOf wsX0_crestOf) := goodIn_app (goodIn_of _ (by decide +kernel)) ggX0_cellNumber_X0_crestOf
theorem dX0_cellNumber_0 : decode cX0_cellNumber 0 = .ok (.iload_n 2, 1) := by decide +kernel
theorem dX0_cellNumber_1 : decode cX0_cellNumber 1 = .ok (.tableswitch 91 0 6 #[43, 50, 57, 64, 71, 78, 85], 43) := by decide +kernel
theorem dX0_cellNumber_44 : decode cX0_cellNumber 44 = .ok (.aload_n 0, 1) := by decide +kernel
theorem dX0_cellNumber_45 : decode cX0_cellNumber 45 = .ok (.getfield 9, 3) := by decide +kernel
theorem dX0_cellNumber_48 : decode cX0_cellNumber 48 = .ok (.iload_n 1, 1) := by decide +kernel
theorem dX0_cellNumber_49 : decode cX0_cellNumber 49 = .ok (.iaload, 1) := by decide +kernel
theorem dX0_cellNumber_50 : decode cX0_cellNumber 50 = .ok (.ireturn, 1) := by decide +kernel
theorem dX0_cellNumber_51 : decode cX0_cellNumber 51 = .ok (.aload_n 0, 1) := by decide +kernel
theorem dX0_cellNumber_52 : decode cX0_cellNumber 52 = .ok (.getfield 15, 3) := by decide +kernel
theorem dX0_cellNumber_55 : decode cX0_cellNumber 55 = .ok (.iload_n 1, 1) := by decide +kernel
theorem dX0_cellNumber_56 : decode cX0_cellNumber 56 = .ok (.iaload, 1) := by decide +kernel
theorem dX0_cellNumber_57 : decode cX0_cellNumber 57 = .ok (.ireturn, 1) := by decide +kernel
theorem dX0_cellNumber_58 : decode cX0_cellNumber 58 = .ok (.aload_n 0, 1) := by decide +kernel
theorem dX0_cellNumber_59 : decode cX0_cellNumber 59 = .ok (.getfield 18, 3) := by decide +kernel
theorem dX0_cellNumber_62 : decode cX0_cellNumber 62 = .ok (.iload_n 1, 1) := by decide +kernel
theorem dX0_cellNumber_63 : decode cX0_cellNumber 63 = .ok (.iaload, 1) := by decide +kernel
theorem dX0_cellNumber_64 : decode cX0_cellNumber 64 = .ok (.ireturn, 1) := by decide +kernel
theorem dX0_cellNumber_65 : decode cX0_cellNumber 65 = .ok (.aload_n 0, 1) := by decide +kernel
theorem dX0_cellNumber_66 : decode cX0_cellNumber 66 = .ok (.getfield 21, 3) := by decide +kernel
theorem dX0_cellNumber_69 : decode cX0_cellNumber 69 = .ok (.iload_n 1, 1) := by decide +kernel
theorem dX0_cellNumber_70 : decode cX0_cellNumber 70 = .ok (.iaload, 1) := by decide +kernel
theorem dX0_cellNumber_71 : decode cX0_cellNumber 71 = .ok (.ireturn, 1) := by decide +kernel
theorem dX0_cellNumber_72 : decode cX0_cellNumber 72 = .ok (.aload_n 0, 1) := by decide +kernel
theorem dX0_cellNumber_73 : decode cX0_cellNumber 73 = .ok (.getfield 24, 3) := by decide +kernel
theorem dX0_cellNumber_76 : decode cX0_cellNumber 76 = .ok (.iload_n 1, 1) := by decide +kernel
theorem dX0_cellNumber_77 : decode cX0_cellNumber 77 = .ok (.iaload, 1) := by decide +kernel
theorem dX0_cellNumber_78 : decode cX0_cellNumber 78 = .ok (.ireturn, 1) := by decide +kernel
theorem dX0_cellNumber_79 : decode cX0_cellNumber 79 = .ok (.aload_n 0, 1) := by decide +kernel
theorem dX0_cellNumber_80 : decode cX0_cellNumber 80 = .ok (.getfield 27, 3) := by decide +kernel
theorem dX0_cellNumber_83 : decode cX0_cellNumber 83 = .ok (.iload_n 1, 1) := by decide +kernel
theorem dX0_cellNumber_84 : decode cX0_cellNumber 84 = .ok (.iaload, 1) := by decide +kernel
theorem dX0_cellNumber_85 : decode cX0_cellNumber 85 = .ok (.ireturn, 1) := by decide +kernel
theorem dX0_cellNumber_86 : decode cX0_cellNumber 86 = .ok (.aload_n 0, 1) := by decide +kernel
theorem dX0_cellNumber_87 : decode cX0_cellNumber 87 = .ok (.iload_n 1, 1) := by decide +kernel
theorem dX0_cellNumber_88 : decode cX0_cellNumber 88 = .ok (.invokevirtual 105, 3) := by decide +kernel
theorem dX0_cellNumber_91 : decode cX0_cellNumber 91 = .ok (.ireturn, 1) := by decide +kernel
theorem dX0_cellNumber_92 : decode cX0_cellNumber 92 = .ok (.aload_n 0, 1) := by decide +kernel
theorem dX0_cellNumber_93 : decode cX0_cellNumber 93 = .ok (.iload_n 1, 1) := by decide +kernel
theorem dX0_cellNumber_94 : decode cX0_cellNumber 94 = .ok (.invokevirtual 94, 3) := by decide +kernel
theorem dX0_cellNumber_97 : decode cX0_cellNumber 97 = .ok (.ireturn, 1) := by decide +kernel
set_option maxRecDepth 20000 in
theorem ggX0_tally_X0_sum : GoodIn wsX0_tally wsX0_sum := goodIn_r _ [12] (by decide +kernel) (by decide +kernel)
set_option maxRecDepth 20000 in
theorem gX0_tally_X0_sum : GoodIn wsX0_tally (wsV RX0 117 RX0 yX0_sum wsX0_sum) := goodIn_app (goodIn_of _ (by decide +kernel)) ggX0_tally_X0_sum
set_option maxRecDepth 20000 in
theorem ggX0_tally_X0_wetCells : GoodIn wsX0_tally wsX0_wetCells := goodIn_r _ [16, 2, 17, 18, 19, 11, 20, 42, 43, 44, 45, 46, 47, 48, 49, 50, 51, 52, 53, 54, 55, 56] (by decide +kernel) (by decide +kernel)
set_option maxRecDepth 20000 in
theorem gX0_tally_X0_wetCells : GoodIn wsX0_tally (wsV RX0 121 RX0 yX0_wetCells wsX0_wetCells) := goodIn_app (goodIn_of _ (by decide +kernel)) ggX0_tally_X0_wetCells
set_option maxRecDepth 20000 in
theorem ggX0_tally_X0_above0 : GoodIn wsX0_tally wsX0_above0 := goodIn_r _ [20] (by decide +kernel) (by decide +kernel)
set_option maxRecDepth 20000 in
theorem gX0_tally_X0_above0 : GoodIn wsX0_tally (wsV RX0 125 RX0 yX0_above0 wsX0_above0) := goodIn_app (goodIn_of _ (by decide +kernel)) ggX0_tally_X0_above0
set_option maxRecDepth 20000 in
theorem ggX0_tally_X0_lakes : GoodIn wsX0_tally wsX0_lakes := goodIn_r _ [24, 25, 26, 27, 28, 29, 30, 31, 32, 11, 33, 34, 35, 36, 37, 38, 2, 39, 40, 41, 42, 43, 44, 45, 46, 47, 48, 49, 50, 51, 52, 53, 54, 55, 56] (by decide +kernel) (by decide +kernel)
set_option maxRecDepth 20000 in
theorem gX0_tally_X0_lakes : GoodIn wsX0_tally (wsV RX0 128 RX0 yX0_lakes wsX0_lakes) := goodIn_app (goodIn_of _ (by decide +kernel)) ggX0_tally_X0_lakes
theorem dX0_tally_0 : decode cX0_tally 0 = .ok (.iload_n 1, 1) := by decide +kernel
theorem dX0_tally_1 : decode cX0_tally 1 = .ok (.tableswitch 99 0 7 #[47, 52, 61, 66, 75, 80, 85, 94], 47) := by decide +kernel
theorem dX0_tally_48 : decode cX0_tally 48 = .ok (.aload_n 0, 1) := by decide +kernel
theorem dX0_tally_49 : decode cX0_tally 49 = .ok (.getfield 57, 3) := by decide +kernel
theorem dX0_tally_52 : decode cX0_tally 52 = .ok (.ireturn, 1) := by decide +kernel
theorem dX0_tally_53 : decode cX0_tally 53 = .ok (.aload_n 0, 1) := by decide +kernel
theorem dX0_tally_54 : decode cX0_tally 54 = .ok (.aload_n 0, 1) := by decide +kernel
theorem dX0_tally_55 : decode cX0_tally 55 = .ok (.getfield 15, 3) := by decide +kernel
theorem dX0_tally_58 : decode cX0_tally 58 = .ok (.invokevirtual 117, 3) := by decide +kernel
theorem dX0_tally_61 : decode cX0_tally 61 = .ok (.ireturn, 1) := by decide +kernel
theorem dX0_tally_62 : decode cX0_tally 62 = .ok (.aload_n 0, 1) := by decide +kernel
theorem dX0_tally_63 : decode cX0_tally 63 = .ok (.invokevirtual 121, 3) := by decide +kernel
theorem dX0_tally_66 : decode cX0_tally 66 = .ok (.ireturn, 1) := by decide +kernel
theorem dX0_tally_67 : decode cX0_tally 67 = .ok (.aload_n 0, 1) := by decide +kernel
theorem dX0_tally_68 : decode cX0_tally 68 = .ok (.aload_n 0, 1) := by decide +kernel
theorem dX0_tally_69 : decode cX0_tally 69 = .ok (.getfield 18, 3) := by decide +kernel
theorem dX0_tally_72 : decode cX0_tally 72 = .ok (.invokevirtual 125, 3) := by decide +kernel
theorem dX0_tally_75 : decode cX0_tally 75 = .ok (.ireturn, 1) := by decide +kernel
theorem dX0_tally_76 : decode cX0_tally 76 = .ok (.aload_n 0, 1) := by decide +kernel
theorem dX0_tally_77 : decode cX0_tally 77 = .ok (.getfield 61, 3) := by decide +kernel
theorem dX0_tally_80 : decode cX0_tally 80 = .ok (.ireturn, 1) := by decide +kernel
theorem dX0_tally_81 : decode cX0_tally 81 = .ok (.aload_n 0, 1) := by decide +kernel
theorem dX0_tally_82 : decode cX0_tally 82 = .ok (.getfield 64, 3) := by decide +kernel
theorem dX0_tally_85 : decode cX0_tally 85 = .ok (.ireturn, 1) := by decide +kernel
theorem dX0_tally_86 : decode cX0_tally 86 = .ok (.aload_n 0, 1) := by decide +kernel
theorem dX0_tally_87 : decode cX0_tally 87 = .ok (.aload_n 0, 1) := by decide +kernel
theorem dX0_tally_88 : decode cX0_tally 88 = .ok (.getfield 27, 3) := by decide +kernel
theorem dX0_tally_91 : decode cX0_tally 91 = .ok (.invokevirtual 117, 3) := by decide +kernel
theorem dX0_tally_94 : decode cX0_tally 94 = .ok (.ireturn, 1) := by decide +kernel
theorem dX0_tally_95 : decode cX0_tally 95 = .ok (.aload_n 0, 1) := by decide +kernel
theorem dX0_tally_96 : decode cX0_tally 96 = .ok (.getfield 67, 3) := by decide +kernel
theorem dX0_tally_99 : decode cX0_tally 99 = .ok (.ireturn, 1) := by decide +kernel
theorem dX0_tally_100 : decode cX0_tally 100 = .ok (.aload_n 0, 1) := by decide +kernel
theorem dX0_tally_101 : decode cX0_tally 101 = .ok (.invokevirtual 128, 3) := by decide +kernel
theorem dX0_tally_104 : decode cX0_tally 104 = .ok (.ireturn, 1) := by decide +kernel
set_option maxRecDepth 20000 in
theorem ggX0_wetCells_X0_above0 : GoodIn wsX0_wetCells wsX0_above0 := goodIn_r _ [6] (by decide +kernel) (by decide +kernel)
set_option maxRecDepth 20000 in
theorem gX0_wetCells_X0_above0 : GoodIn wsX0_wetCells (wsV RX0 125 RX0 yX0_above0 wsX0_above0) := goodIn_app (goodIn_of _ (by decide +kernel)) ggX0_wetCells_X0_above0
theorem dX0_wetCells_0 : decode cX0_wetCells 0 = .ok (.aload_n 0, 1) := by decide +kernel
theorem dX0_wetCells_1 : decode cX0_wetCells 1 = .ok (.aload_n 0, 1) := by decide +kernel
theorem dX0_wetCells_2 : decode cX0_wetCells 2 = .ok (.getfield 15, 3) := by decide +kernel
theorem dX0_wetCells_5 : decode cX0_wetCells 5 = .ok (.invokevirtual 125, 3) := by decide +kernel
theorem dX0_wetCells_8 : decode cX0_wetCells 8 = .ok (.ireturn, 1) := by decide +kernel
theorem dX0_sum_0 : decode cX0_sum 0 = .ok (.iconst 0, 1) := by decide +kernel
theorem dX0_sum_1 : decode cX0_sum 1 = .ok (.istore_n 2, 1) := by decide +kernel
theorem dX0_sum_2 : decode cX0_sum 2 = .ok (.aload_n 1, 1) := by decide +kernel
theorem dX0_sum_3 : decode cX0_sum 3 = .ok (.astore_n 3, 1) := by decide +kernel
theorem dX0_sum_4 : decode cX0_sum 4 = .ok (.aload_n 3, 1) := by decide +kernel
theorem dX0_sum_5 : decode cX0_sum 5 = .ok (.arraylength, 1) := by decide +kernel
theorem dX0_sum_6 : decode cX0_sum 6 = .ok (.istore 4, 2) := by decide +kernel
theorem dX0_sum_8 : decode cX0_sum 8 = .ok (.iconst 0, 1) := by decide +kernel
theorem dX0_sum_9 : decode cX0_sum 9 = .ok (.istore 5, 2) := by decide +kernel
theorem dX0_sum_11 : decode cX0_sum 11 = .ok (.iload 5, 2) := by decide +kernel
theorem dX0_sum_13 : decode cX0_sum 13 = .ok (.iload 4, 2) := by decide +kernel
theorem dX0_sum_15 : decode cX0_sum 15 = .ok (.if_icmp .ge 20, 3) := by decide +kernel
theorem dX0_sum_18 : decode cX0_sum 18 = .ok (.aload_n 3, 1) := by decide +kernel
theorem dX0_sum_19 : decode cX0_sum 19 = .ok (.iload 5, 2) := by decide +kernel
theorem dX0_sum_21 : decode cX0_sum 21 = .ok (.iaload, 1) := by decide +kernel
theorem dX0_sum_22 : decode cX0_sum 22 = .ok (.istore 6, 2) := by decide +kernel
theorem dX0_sum_24 : decode cX0_sum 24 = .ok (.iload_n 2, 1) := by decide +kernel
theorem dX0_sum_25 : decode cX0_sum 25 = .ok (.iload 6, 2) := by decide +kernel
theorem dX0_sum_27 : decode cX0_sum 27 = .ok (.iadd, 1) := by decide +kernel
theorem dX0_sum_28 : decode cX0_sum 28 = .ok (.istore_n 2, 1) := by decide +kernel
theorem dX0_sum_29 : decode cX0_sum 29 = .ok (.iinc 5 1, 3) := by decide +kernel
theorem dX0_sum_32 : decode cX0_sum 32 = .ok (.goto (-21), 3) := by decide +kernel
theorem dX0_sum_35 : decode cX0_sum 35 = .ok (.iload_n 2, 1) := by decide +kernel
theorem dX0_sum_36 : decode cX0_sum 36 = .ok (.ireturn, 1) := by decide +kernel
theorem dX0_above0_0 : decode cX0_above0 0 = .ok (.iconst 0, 1) := by decide +kernel
theorem dX0_above0_1 : decode cX0_above0 1 = .ok (.istore_n 2, 1) := by decide +kernel
theorem dX0_above0_2 : decode cX0_above0 2 = .ok (.aload_n 1, 1) := by decide +kernel
theorem dX0_above0_3 : decode cX0_above0 3 = .ok (.astore_n 3, 1) := by decide +kernel
theorem dX0_above0_4 : decode cX0_above0 4 = .ok (.aload_n 3, 1) := by decide +kernel
theorem dX0_above0_5 : decode cX0_above0 5 = .ok (.arraylength, 1) := by decide +kernel
theorem dX0_above0_6 : decode cX0_above0 6 = .ok (.istore 4, 2) := by decide +kernel
theorem dX0_above0_8 : decode cX0_above0 8 = .ok (.iconst 0, 1) := by decide +kernel
theorem dX0_above0_9 : decode cX0_above0 9 = .ok (.istore 5, 2) := by decide +kernel
theorem dX0_above0_11 : decode cX0_above0 11 = .ok (.iload 5, 2) := by decide +kernel
theorem dX0_above0_13 : decode cX0_above0 13 = .ok (.iload 4, 2) := by decide +kernel
theorem dX0_above0_15 : decode cX0_above0 15 = .ok (.if_icmp .ge 23, 3) := by decide +kernel
theorem dX0_above0_18 : decode cX0_above0 18 = .ok (.aload_n 3, 1) := by decide +kernel
theorem dX0_above0_19 : decode cX0_above0 19 = .ok (.iload 5, 2) := by decide +kernel
theorem dX0_above0_21 : decode cX0_above0 21 = .ok (.iaload, 1) := by decide +kernel
theorem dX0_above0_22 : decode cX0_above0 22 = .ok (.istore 6, 2) := by decide +kernel
theorem dX0_above0_24 : decode cX0_above0 24 = .ok (.iload 6, 2) := by decide +kernel
theorem dX0_above0_26 : decode cX0_above0 26 = .ok (.ifCond .le 6, 3) := by decide +kernel
theorem dX0_above0_29 : decode cX0_above0 29 = .ok (.iinc 2 1, 3) := by decide +kernel
theorem dX0_above0_32 : decode cX0_above0 32 = .ok (.iinc 5 1, 3) := by decide +kernel
theorem dX0_above0_35 : decode cX0_above0 35 = .ok (.goto (-24), 3) := by decide +kernel
theorem dX0_above0_38 : decode cX0_above0 38 = .ok (.iload_n 2, 1) := by decide +kernel
theorem dX0_above0_39 : decode cX0_above0 39 = .ok (.ireturn, 1) := by decide +kernel
set_option maxRecDepth 20000 in
theorem ggX0_lakeSize_J7_fill_53178 : GoodIn wsX0_lakeSize wsJ7_fill_53178 := goodIn_r _ [5] (by decide +kernel) (by decide +kernel)
set_option maxRecDepth 20000 in
theorem gX0_lakeSize_J7_fill_53178 : GoodIn wsX0_lakeSize (va_wsS RX0 45 yJ7_fill_53178 wsJ7_fill_53178) := goodIn_app (goodIn_of _ (by decide +kernel)) ggX0_lakeSize_J7_fill_53178
set_option maxRecDepth 20000 in
theorem ggX0_lakeSize_X0_spreadFrom : GoodIn wsX0_lakeSize wsX0_spreadFrom := goodIn_r _ [10, 11, 12, 13, 14, 9, 15, 1, 16, 17, 18, 19, 20, 21, 22, 23, 24, 25, 26, 27, 28, 29, 30, 31, 32, 33, 34] (by decide +kernel) (by decide +kernel)
set_option maxRecDepth 20000 in
theorem gX0_lakeSize_X0_spreadFrom : GoodIn wsX0_lakeSize (wsV RX0 131 RX0 yX0_spreadFrom wsX0_spreadFrom) := goodIn_app (goodIn_of _ (by decide +kernel)) ggX0_lakeSize_X0_spreadFrom
theorem dX0_lakeSize_0 : decode cX0_lakeSize 0 = .ok (.aload_n 0, 1) := by decide +kernel
theorem dX0_lakeSize_1 : decode cX0_lakeSize 1 = .ok (.getfield 39, 3) := by decide +kernel
theorem dX0_lakeSize_4 : decode cX0_lakeSize 4 = .ok (.iconst 0, 1) := by decide +kernel
theorem dX0_lakeSize_5 : decode cX0_lakeSize 5 = .ok (.invokestatic 45, 3) := by decide +kernel
theorem dX0_lakeSize_8 : decode cX0_lakeSize 8 = .ok (.aload_n 0, 1) := by decide +kernel
theorem dX0_lakeSize_9 : decode cX0_lakeSize 9 = .ok (.iload_n 1, 1) := by decide +kernel
theorem dX0_lakeSize_10 : decode cX0_lakeSize 10 = .ok (.invokevirtual 131, 3) := by decide +kernel
theorem dX0_lakeSize_13 : decode cX0_lakeSize 13 = .ok (.ireturn, 1) := by decide +kernel
set_option maxRecDepth 20000 in
theorem ggX0_lakes_J7_fill_53178 : GoodIn wsX0_lakes wsJ7_fill_53178 := goodIn_r _ [5] (by decide +kernel) (by decide +kernel)
set_option maxRecDepth 20000 in
theorem gX0_lakes_J7_fill_53178 : GoodIn wsX0_lakes (va_wsS RX0 45 yJ7_fill_53178 wsJ7_fill_53178) := goodIn_app (goodIn_of _ (by decide +kernel)) ggX0_lakes_J7_fill_53178
set_option maxRecDepth 20000 in
theorem ggX0_lakes_X0_spreadFrom : GoodIn wsX0_lakes wsX0_spreadFrom := goodIn_r _ [10, 11, 12, 13, 14, 9, 15, 1, 16, 17, 18, 19, 20, 21, 22, 23, 24, 25, 26, 27, 28, 29, 30, 31, 32, 33, 34] (by decide +kernel) (by decide +kernel)
set_option maxRecDepth 20000 in
theorem gX0_lakes_X0_spreadFrom : GoodIn wsX0_lakes (wsV RX0 131 RX0 yX0_spreadFrom wsX0_spreadFrom) := goodIn_app (goodIn_of _ (by decide +kernel)) ggX0_lakes_X0_spreadFrom
theorem dX0_lakes_0 : decode cX0_lakes 0 = .ok (.aload_n 0, 1) := by decide +kernel
theorem dX0_lakes_1 : decode cX0_lakes 1 = .ok (.getfield 39, 3) := by decide +kernel
theorem dX0_lakes_4 : decode cX0_lakes 4 = .ok (.iconst 0, 1) := by decide +kernel
theorem dX0_lakes_5 : decode cX0_lakes 5 = .ok (.invokestatic 45, 3) := by decide +kernel
theorem dX0_lakes_8 : decode cX0_lakes 8 = .ok (.iconst 0, 1) := by decide +kernel
theorem dX0_lakes_9 : decode cX0_lakes 9 = .ok (.istore_n 1, 1) := by decide +kernel
theorem dX0_lakes_10 : decode cX0_lakes 10 = .ok (.iconst 0, 1) := by decide +kernel
theorem dX0_lakes_11 : decode cX0_lakes 11 = .ok (.istore_n 2, 1) := by decide +kernel
theorem dX0_lakes_12 : decode cX0_lakes 12 = .ok (.iload_n 2, 1) := by decide +kernel
theorem dX0_lakes_13 : decode cX0_lakes 13 = .ok (.bipush 64, 2) := by decide +kernel
theorem dX0_lakes_15 : decode cX0_lakes 15 = .ok (.if_icmp .ge 20, 3) := by decide +kernel
theorem dX0_lakes_18 : decode cX0_lakes 18 = .ok (.aload_n 0, 1) := by decide +kernel
theorem dX0_lakes_19 : decode cX0_lakes 19 = .ok (.iload_n 2, 1) := by decide +kernel
theorem dX0_lakes_20 : decode cX0_lakes 20 = .ok (.invokevirtual 131, 3) := by decide +kernel
theorem dX0_lakes_23 : decode cX0_lakes 23 = .ok (.ifCond .le 6, 3) := by decide +kernel
theorem dX0_lakes_26 : decode cX0_lakes 26 = .ok (.iinc 1 1, 3) := by decide +kernel
theorem dX0_lakes_29 : decode cX0_lakes 29 = .ok (.iinc 2 1, 3) := by decide +kernel
theorem dX0_lakes_32 : decode cX0_lakes 32 = .ok (.goto (-20), 3) := by decide +kernel
theorem dX0_lakes_35 : decode cX0_lakes 35 = .ok (.iload_n 1, 1) := by decide +kernel
theorem dX0_lakes_36 : decode cX0_lakes 36 = .ok (.ireturn, 1) := by decide +kernel
set_option maxRecDepth 20000 in
theorem ggX0_spreadFrom_X0_meet : GoodIn wsX0_spreadFrom wsX0_meet := goodIn_r _ [6, 7, 8, 1, 12, 13, 14, 15, 16, 17, 18, 19, 20, 21, 22, 23, 24, 25, 26] (by decide +kernel) (by decide +kernel)
set_option maxRecDepth 20000 in
theorem gX0_spreadFrom_X0_meet : GoodIn wsX0_spreadFrom (wsV RX0 134 RX0 yX0_meet wsX0_meet) := goodIn_app (goodIn_of _ (by decide +kernel)) ggX0_spreadFrom_X0_meet
set_option maxRecDepth 20000 in
theorem ggX0_spreadFrom_X0_neighbourOf : GoodIn wsX0_spreadFrom wsX0_neighbourOf := goodIn_r _ [11] (by decide +kernel) (by decide +kernel)
set_option maxRecDepth 20000 in
theorem gX0_spreadFrom_X0_neighbourOf : GoodIn wsX0_spreadFrom (va_wsS RX0 111 yX0_neighbourOf wsX0_neighbourOf) := goodIn_app (goodIn_of _ (by decide +kernel)) ggX0_spreadFrom_X0_neighbourOf
theorem dX0_spreadFrom_0 : decode cX0_spreadFrom 0 = .ok (.aload_n 0, 1) := by decide +kernel
theorem dX0_spreadFrom_1 : decode cX0_spreadFrom 1 = .ok (.iload_n 1, 1) := by decide +kernel
theorem dX0_spreadFrom_2 : decode cX0_spreadFrom 2 = .ok (.iconst 0, 1) := by decide +kernel
theorem dX0_spreadFrom_3 : decode cX0_spreadFrom 3 = .ok (.invokevirtual 134, 3) := by decide +kernel
theorem dX0_spreadFrom_6 : decode cX0_spreadFrom 6 = .ok (.istore_n 2, 1) := by decide +kernel
theorem dX0_spreadFrom_7 : decode cX0_spreadFrom 7 = .ok (.iconst 0, 1) := by decide +kernel
theorem dX0_spreadFrom_8 : decode cX0_spreadFrom 8 = .ok (.istore_n 3, 1) := by decide +kernel
theorem dX0_spreadFrom_9 : decode cX0_spreadFrom 9 = .ok (.iload_n 3, 1) := by decide +kernel
theorem dX0_spreadFrom_10 : decode cX0_spreadFrom 10 = .ok (.iload_n 2, 1) := by decide +kernel
theorem dX0_spreadFrom_11 : decode cX0_spreadFrom 11 = .ok (.if_icmp .ge 47, 3) := by decide +kernel
theorem dX0_spreadFrom_14 : decode cX0_spreadFrom 14 = .ok (.iload_n 3, 1) := by decide +kernel
theorem dX0_spreadFrom_15 : decode cX0_spreadFrom 15 = .ok (.bipush 64, 2) := by decide +kernel
theorem dX0_spreadFrom_17 : decode cX0_spreadFrom 17 = .ok (.if_icmp .ge 41, 3) := by decide +kernel
theorem dX0_spreadFrom_20 : decode cX0_spreadFrom 20 = .ok (.iconst 0, 1) := by decide +kernel
theorem dX0_spreadFrom_21 : decode cX0_spreadFrom 21 = .ok (.istore 4, 2) := by decide +kernel
theorem dX0_spreadFrom_23 : decode cX0_spreadFrom 23 = .ok (.iload 4, 2) := by decide +kernel
theorem dX0_spreadFrom_25 : decode cX0_spreadFrom 25 = .ok (.iconst 4, 1) := by decide +kernel
theorem dX0_spreadFrom_26 : decode cX0_spreadFrom 26 = .ok (.if_icmp .ge 26, 3) := by decide +kernel
theorem dX0_spreadFrom_29 : decode cX0_spreadFrom 29 = .ok (.aload_n 0, 1) := by decide +kernel
theorem dX0_spreadFrom_30 : decode cX0_spreadFrom 30 = .ok (.aload_n 0, 1) := by decide +kernel
theorem dX0_spreadFrom_31 : decode cX0_spreadFrom 31 = .ok (.getfield 42, 3) := by decide +kernel
theorem dX0_spreadFrom_34 : decode cX0_spreadFrom 34 = .ok (.iload_n 3, 1) := by decide +kernel
theorem dX0_spreadFrom_35 : decode cX0_spreadFrom 35 = .ok (.iaload, 1) := by decide +kernel
theorem dX0_spreadFrom_36 : decode cX0_spreadFrom 36 = .ok (.iload 4, 2) := by decide +kernel
theorem dX0_spreadFrom_38 : decode cX0_spreadFrom 38 = .ok (.invokestatic 111, 3) := by decide +kernel
theorem dX0_spreadFrom_41 : decode cX0_spreadFrom 41 = .ok (.iload_n 2, 1) := by decide +kernel
theorem dX0_spreadFrom_42 : decode cX0_spreadFrom 42 = .ok (.invokevirtual 134, 3) := by decide +kernel
theorem dX0_spreadFrom_45 : decode cX0_spreadFrom 45 = .ok (.istore_n 2, 1) := by decide +kernel
theorem dX0_spreadFrom_46 : decode cX0_spreadFrom 46 = .ok (.iinc 4 1, 3) := by decide +kernel
theorem dX0_spreadFrom_49 : decode cX0_spreadFrom 49 = .ok (.goto (-26), 3) := by decide +kernel
theorem dX0_spreadFrom_52 : decode cX0_spreadFrom 52 = .ok (.iinc 3 1, 3) := by decide +kernel
theorem dX0_spreadFrom_55 : decode cX0_spreadFrom 55 = .ok (.goto (-46), 3) := by decide +kernel
theorem dX0_spreadFrom_58 : decode cX0_spreadFrom 58 = .ok (.iload_n 2, 1) := by decide +kernel
theorem dX0_spreadFrom_59 : decode cX0_spreadFrom 59 = .ok (.ireturn, 1) := by decide +kernel
theorem dX0_meet_0 : decode cX0_meet 0 = .ok (.iload_n 1, 1) := by decide +kernel
theorem dX0_meet_1 : decode cX0_meet 1 = .ok (.ifCond .lt 27, 3) := by decide +kernel
theorem dX0_meet_4 : decode cX0_meet 4 = .ok (.iload_n 2, 1) := by decide +kernel
theorem dX0_meet_5 : decode cX0_meet 5 = .ok (.bipush 64, 2) := by decide +kernel
theorem dX0_meet_7 : decode cX0_meet 7 = .ok (.if_icmp .ge 21, 3) := by decide +kernel
theorem dX0_meet_10 : decode cX0_meet 10 = .ok (.aload_n 0, 1) := by decide +kernel
theorem dX0_meet_11 : decode cX0_meet 11 = .ok (.getfield 39, 3) := by decide +kernel
theorem dX0_meet_14 : decode cX0_meet 14 = .ok (.iload_n 1, 1) := by decide +kernel
theorem dX0_meet_15 : decode cX0_meet 15 = .ok (.iaload, 1) := by decide +kernel
theorem dX0_meet_16 : decode cX0_meet 16 = .ok (.ifCond .ne 12, 3) := by decide +kernel
theorem dX0_meet_19 : decode cX0_meet 19 = .ok (.aload_n 0, 1) := by decide +kernel
theorem dX0_meet_20 : decode cX0_meet 20 = .ok (.getfield 15, 3) := by decide +kernel
theorem dX0_meet_23 : decode cX0_meet 23 = .ok (.iload_n 1, 1) := by decide +kernel
theorem dX0_meet_24 : decode cX0_meet 24 = .ok (.iaload, 1) := by decide +kernel
theorem dX0_meet_25 : decode cX0_meet 25 = .ok (.ifCond .gt 5, 3) := by decide +kernel
theorem dX0_meet_28 : decode cX0_meet 28 = .ok (.iload_n 2, 1) := by decide +kernel
theorem dX0_meet_29 : decode cX0_meet 29 = .ok (.ireturn, 1) := by decide +kernel
theorem dX0_meet_30 : decode cX0_meet 30 = .ok (.aload_n 0, 1) := by decide +kernel
theorem dX0_meet_31 : decode cX0_meet 31 = .ok (.getfield 39, 3) := by decide +kernel
theorem dX0_meet_34 : decode cX0_meet 34 = .ok (.iload_n 1, 1) := by decide +kernel
theorem dX0_meet_35 : decode cX0_meet 35 = .ok (.iconst 1, 1) := by decide +kernel
theorem dX0_meet_36 : decode cX0_meet 36 = .ok (.iastore, 1) := by decide +kernel
theorem dX0_meet_37 : decode cX0_meet 37 = .ok (.aload_n 0, 1) := by decide +kernel
theorem dX0_meet_38 : decode cX0_meet 38 = .ok (.getfield 42, 3) := by decide +kernel
theorem dX0_meet_41 : decode cX0_meet 41 = .ok (.iload_n 2, 1) := by decide +kernel
theorem dX0_meet_42 : decode cX0_meet 42 = .ok (.iload_n 1, 1) := by decide +kernel
theorem dX0_meet_43 : decode cX0_meet 43 = .ok (.iastore, 1) := by decide +kernel
theorem dX0_meet_44 : decode cX0_meet 44 = .ok (.iload_n 2, 1) := by decide +kernel
theorem dX0_meet_45 : decode cX0_meet 45 = .ok (.iconst 1, 1) := by decide +kernel
theorem dX0_meet_46 : decode cX0_meet 46 = .ok (.iadd, 1) := by decide +kernel
theorem dX0_meet_47 : decode cX0_meet 47 = .ok (.ireturn, 1) := by decide +kernel
theorem dX0_neighbourOf_0 : decode cX0_neighbourOf 0 = .ok (.iload_n 0, 1) := by decide +kernel
theorem dX0_neighbourOf_1 : decode cX0_neighbourOf 1 = .ok (.bipush 8, 2) := by decide +kernel
theorem dX0_neighbourOf_3 : decode cX0_neighbourOf 3 = .ok (.irem, 1) := by decide +kernel
theorem dX0_neighbourOf_4 : decode cX0_neighbourOf 4 = .ok (.istore_n 2, 1) := by decide +kernel
theorem dX0_neighbourOf_5 : decode cX0_neighbourOf 5 = .ok (.iload_n 0, 1) := by decide +kernel
theorem dX0_neighbourOf_6 : decode cX0_neighbourOf 6 = .ok (.bipush 8, 2) := by decide +kernel
theorem dX0_neighbourOf_8 : decode cX0_neighbourOf 8 = .ok (.idiv, 1) := by decide +kernel
theorem dX0_neighbourOf_9 : decode cX0_neighbourOf 9 = .ok (.istore_n 3, 1) := by decide +kernel
theorem dX0_neighbourOf_10 : decode cX0_neighbourOf 10 = .ok (.iload_n 1, 1) := by decide +kernel
theorem dX0_neighbourOf_11 : decode cX0_neighbourOf 11 = .ok (.tableswitch 64 0 2 #[25, 37, 51], 25) := by decide +kernel
theorem dX0_neighbourOf_36 : decode cX0_neighbourOf 36 = .ok (.iload_n 2, 1) := by decide +kernel
theorem dX0_neighbourOf_37 : decode cX0_neighbourOf 37 = .ok (.ifCond .le 9, 3) := by decide +kernel
theorem dX0_neighbourOf_40 : decode cX0_neighbourOf 40 = .ok (.iload_n 0, 1) := by decide +kernel
theorem dX0_neighbourOf_41 : decode cX0_neighbourOf 41 = .ok (.iconst 1, 1) := by decide +kernel
theorem dX0_neighbourOf_42 : decode cX0_neighbourOf 42 = .ok (.isub, 1) := by decide +kernel
theorem dX0_neighbourOf_43 : decode cX0_neighbourOf 43 = .ok (.goto 4, 3) := by decide +kernel
theorem dX0_neighbourOf_46 : decode cX0_neighbourOf 46 = .ok (.iconst (-1), 1) := by decide +kernel
theorem dX0_neighbourOf_47 : decode cX0_neighbourOf 47 = .ok (.ireturn, 1) := by decide +kernel
theorem dX0_neighbourOf_48 : decode cX0_neighbourOf 48 = .ok (.iload_n 2, 1) := by decide +kernel
theorem dX0_neighbourOf_49 : decode cX0_neighbourOf 49 = .ok (.bipush 7, 2) := by decide +kernel
theorem dX0_neighbourOf_51 : decode cX0_neighbourOf 51 = .ok (.if_icmp .ge 9, 3) := by decide +kernel
theorem dX0_neighbourOf_54 : decode cX0_neighbourOf 54 = .ok (.iload_n 0, 1) := by decide +kernel
theorem dX0_neighbourOf_55 : decode cX0_neighbourOf 55 = .ok (.iconst 1, 1) := by decide +kernel
theorem dX0_neighbourOf_56 : decode cX0_neighbourOf 56 = .ok (.iadd, 1) := by decide +kernel
theorem dX0_neighbourOf_57 : decode cX0_neighbourOf 57 = .ok (.goto 4, 3) := by decide +kernel
theorem dX0_neighbourOf_60 : decode cX0_neighbourOf 60 = .ok (.iconst (-1), 1) := by decide +kernel
theorem dX0_neighbourOf_61 : decode cX0_neighbourOf 61 = .ok (.ireturn, 1) := by decide +kernel
theorem dX0_neighbourOf_62 : decode cX0_neighbourOf 62 = .ok (.iload_n 3, 1) := by decide +kernel
theorem dX0_neighbourOf_63 : decode cX0_neighbourOf 63 = .ok (.ifCond .le 10, 3) := by decide +kernel
theorem dX0_neighbourOf_66 : decode cX0_neighbourOf 66 = .ok (.iload_n 0, 1) := by decide +kernel
theorem dX0_neighbourOf_67 : decode cX0_neighbourOf 67 = .ok (.bipush 8, 2) := by decide +kernel
theorem dX0_neighbourOf_69 : decode cX0_neighbourOf 69 = .ok (.isub, 1) := by decide +kernel
theorem dX0_neighbourOf_70 : decode cX0_neighbourOf 70 = .ok (.goto 4, 3) := by decide +kernel
theorem dX0_neighbourOf_73 : decode cX0_neighbourOf 73 = .ok (.iconst (-1), 1) := by decide +kernel
theorem dX0_neighbourOf_74 : decode cX0_neighbourOf 74 = .ok (.ireturn, 1) := by decide +kernel
theorem dX0_neighbourOf_75 : decode cX0_neighbourOf 75 = .ok (.iload_n 3, 1) := by decide +kernel
theorem dX0_neighbourOf_76 : decode cX0_neighbourOf 76 = .ok (.bipush 7, 2) := by decide +kernel
theorem dX0_neighbourOf_78 : decode cX0_neighbourOf 78 = .ok (.if_icmp .ge 10, 3) := by decide +kernel
theorem dX0_neighbourOf_81 : decode cX0_neighbourOf 81 = .ok (.iload_n 0, 1) := by decide +kernel
theorem dX0_neighbourOf_82 : decode cX0_neighbourOf 82 = .ok (.bipush 8, 2) := by decide +kernel
theorem dX0_neighbourOf_84 : decode cX0_neighbourOf 84 = .ok (.iadd, 1) := by decide +kernel
theorem dX0_neighbourOf_85 : decode cX0_neighbourOf 85 = .ok (.goto 4, 3) := by decide +kernel
theorem dX0_neighbourOf_88 : decode cX0_neighbourOf 88 = .ok (.iconst (-1), 1) := by decide +kernel
theorem dX0_neighbourOf_89 : decode cX0_neighbourOf 89 = .ok (.ireturn, 1) := by decide +kernel
