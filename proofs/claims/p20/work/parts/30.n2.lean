theorem dX2_init_0 : decode cX2_init 0 = .ok (.aload_n 0, 1) := by decide +kernel
theorem dX2_init_1 : decode cX2_init 1 = .ok (.invokespecial 1, 3) := by decide +kernel
theorem dX2_init_4 : decode cX2_init 4 = .ok (.aload_n 0, 1) := by decide +kernel
theorem dX2_init_5 : decode cX2_init 5 = .ok (.bipush 8, 2) := by decide +kernel
theorem dX2_init_7 : decode cX2_init 7 = .ok (.bipush 8, 2) := by decide +kernel
theorem dX2_init_9 : decode cX2_init 9 = .ok (.multianewarray 7 2, 4) := by decide +kernel
theorem dX2_init_13 : decode cX2_init 13 = .ok (.putfield 9, 3) := by decide +kernel
theorem dX2_init_16 : decode cX2_init 16 = .ok (.aload_n 0, 1) := by decide +kernel
theorem dX2_init_17 : decode cX2_init 17 = .ok (.bipush 8, 2) := by decide +kernel
theorem dX2_init_19 : decode cX2_init 19 = .ok (.bipush 8, 2) := by decide +kernel
theorem dX2_init_21 : decode cX2_init 21 = .ok (.multianewarray 7 2, 4) := by decide +kernel
theorem dX2_init_25 : decode cX2_init 25 = .ok (.putfield 14, 3) := by decide +kernel
theorem dX2_init_28 : decode cX2_init 28 = .ok (.aload_n 0, 1) := by decide +kernel
theorem dX2_init_29 : decode cX2_init 29 = .ok (.bipush 8, 2) := by decide +kernel
theorem dX2_init_31 : decode cX2_init 31 = .ok (.bipush 8, 2) := by decide +kernel
theorem dX2_init_33 : decode cX2_init 33 = .ok (.multianewarray 7 2, 4) := by decide +kernel
theorem dX2_init_37 : decode cX2_init 37 = .ok (.putfield 17, 3) := by decide +kernel
theorem dX2_init_40 : decode cX2_init 40 = .ok (.aload_n 0, 1) := by decide +kernel
theorem dX2_init_41 : decode cX2_init 41 = .ok (.bipush 8, 2) := by decide +kernel
theorem dX2_init_43 : decode cX2_init 43 = .ok (.bipush 8, 2) := by decide +kernel
theorem dX2_init_45 : decode cX2_init 45 = .ok (.multianewarray 7 2, 4) := by decide +kernel
theorem dX2_init_49 : decode cX2_init 49 = .ok (.putfield 20, 3) := by decide +kernel
theorem dX2_init_52 : decode cX2_init 52 = .ok (.aload_n 0, 1) := by decide +kernel
theorem dX2_init_53 : decode cX2_init 53 = .ok (.bipush 8, 2) := by decide +kernel
theorem dX2_init_55 : decode cX2_init 55 = .ok (.bipush 8, 2) := by decide +kernel
theorem dX2_init_57 : decode cX2_init 57 = .ok (.multianewarray 7 2, 4) := by decide +kernel
theorem dX2_init_61 : decode cX2_init 61 = .ok (.putfield 23, 3) := by decide +kernel
theorem dX2_init_64 : decode cX2_init 64 = .ok (.aload_n 0, 1) := by decide +kernel
theorem dX2_init_65 : decode cX2_init 65 = .ok (.bipush 8, 2) := by decide +kernel
theorem dX2_init_67 : decode cX2_init 67 = .ok (.bipush 8, 2) := by decide +kernel
theorem dX2_init_69 : decode cX2_init 69 = .ok (.multianewarray 7 2, 4) := by decide +kernel
theorem dX2_init_73 : decode cX2_init 73 = .ok (.putfield 26, 3) := by decide +kernel
theorem dX2_init_76 : decode cX2_init 76 = .ok (.aload_n 0, 1) := by decide +kernel
theorem dX2_init_77 : decode cX2_init 77 = .ok (.bipush 12, 2) := by decide +kernel
theorem dX2_init_79 : decode cX2_init 79 = .ok (.newarray .int, 2) := by decide +kernel
theorem dX2_init_81 : decode cX2_init 81 = .ok (.putfield 29, 3) := by decide +kernel
theorem dX2_init_84 : decode cX2_init 84 = .ok (.aload_n 0, 1) := by decide +kernel
theorem dX2_init_85 : decode cX2_init 85 = .ok (.getfield 9, 3) := by decide +kernel
theorem dX2_init_88 : decode cX2_init 88 = .ok (.astore_n 1, 1) := by decide +kernel
theorem dX2_init_89 : decode cX2_init 89 = .ok (.aload_n 1, 1) := by decide +kernel
theorem dX2_init_90 : decode cX2_init 90 = .ok (.arraylength, 1) := by decide +kernel
theorem dX2_init_91 : decode cX2_init 91 = .ok (.istore_n 2, 1) := by decide +kernel
theorem dX2_init_92 : decode cX2_init 92 = .ok (.iconst 0, 1) := by decide +kernel
theorem dX2_init_93 : decode cX2_init 93 = .ok (.istore_n 3, 1) := by decide +kernel
theorem dX2_init_94 : decode cX2_init 94 = .ok (.iload_n 3, 1) := by decide +kernel
theorem dX2_init_95 : decode cX2_init 95 = .ok (.iload_n 2, 1) := by decide +kernel
theorem dX2_init_96 : decode cX2_init 96 = .ok (.if_icmp .ge 37, 3) := by decide +kernel
theorem dX2_init_99 : decode cX2_init 99 = .ok (.aload_n 1, 1) := by decide +kernel
theorem dX2_init_100 : decode cX2_init 100 = .ok (.iload_n 3, 1) := by decide +kernel
theorem dX2_init_101 : decode cX2_init 101 = .ok (.aaload, 1) := by decide +kernel
theorem dX2_init_102 : decode cX2_init 102 = .ok (.astore 4, 2) := by decide +kernel
theorem dX2_init_104 : decode cX2_init 104 = .ok (.iconst 0, 1) := by decide +kernel
theorem dX2_init_105 : decode cX2_init 105 = .ok (.istore 5, 2) := by decide +kernel
theorem dX2_init_107 : decode cX2_init 107 = .ok (.iload 5, 2) := by decide +kernel
theorem dX2_init_109 : decode cX2_init 109 = .ok (.bipush 8, 2) := by decide +kernel
theorem dX2_init_111 : decode cX2_init 111 = .ok (.if_icmp .ge 16, 3) := by decide +kernel
theorem dX2_init_114 : decode cX2_init 114 = .ok (.aload 4, 2) := by decide +kernel
theorem dX2_init_116 : decode cX2_init 116 = .ok (.iload 5, 2) := by decide +kernel
theorem dX2_init_118 : decode cX2_init 118 = .ok (.bipush 10, 2) := by decide +kernel
theorem dX2_init_120 : decode cX2_init 120 = .ok (.iastore, 1) := by decide +kernel
theorem dX2_init_121 : decode cX2_init 121 = .ok (.iinc 5 1, 3) := by decide +kernel
theorem dX2_init_124 : decode cX2_init 124 = .ok (.goto (-17), 3) := by decide +kernel
theorem dX2_init_127 : decode cX2_init 127 = .ok (.iinc 3 1, 3) := by decide +kernel
theorem dX2_init_130 : decode cX2_init 130 = .ok (.goto (-36), 3) := by decide +kernel
theorem dX2_init_133 : decode cX2_init 133 = .ok (.return_, 1) := by decide +kernel
theorem dX2_crest_0 : decode cX2_crest 0 = .ok (.aload_n 0, 1) := by decide +kernel
theorem dX2_crest_1 : decode cX2_crest 1 = .ok (.getfield 14, 3) := by decide +kernel
theorem dX2_crest_4 : decode cX2_crest 4 = .ok (.iload_n 1, 1) := by decide +kernel
theorem dX2_crest_5 : decode cX2_crest 5 = .ok (.aaload, 1) := by decide +kernel
theorem dX2_crest_6 : decode cX2_crest 6 = .ok (.iload_n 2, 1) := by decide +kernel
theorem dX2_crest_7 : decode cX2_crest 7 = .ok (.iaload, 1) := by decide +kernel
theorem dX2_crest_8 : decode cX2_crest 8 = .ok (.aload_n 0, 1) := by decide +kernel
theorem dX2_crest_9 : decode cX2_crest 9 = .ok (.getfield 17, 3) := by decide +kernel
theorem dX2_crest_12 : decode cX2_crest 12 = .ok (.iload_n 1, 1) := by decide +kernel
theorem dX2_crest_13 : decode cX2_crest 13 = .ok (.aaload, 1) := by decide +kernel
theorem dX2_crest_14 : decode cX2_crest 14 = .ok (.iload_n 2, 1) := by decide +kernel
theorem dX2_crest_15 : decode cX2_crest 15 = .ok (.iaload, 1) := by decide +kernel
theorem dX2_crest_16 : decode cX2_crest 16 = .ok (.if_icmp .le 23, 3) := by decide +kernel
theorem dX2_crest_19 : decode cX2_crest 19 = .ok (.aload_n 0, 1) := by decide +kernel
theorem dX2_crest_20 : decode cX2_crest 20 = .ok (.getfield 9, 3) := by decide +kernel
theorem dX2_crest_23 : decode cX2_crest 23 = .ok (.iload_n 1, 1) := by decide +kernel
theorem dX2_crest_24 : decode cX2_crest 24 = .ok (.aaload, 1) := by decide +kernel
theorem dX2_crest_25 : decode cX2_crest 25 = .ok (.iload_n 2, 1) := by decide +kernel
theorem dX2_crest_26 : decode cX2_crest 26 = .ok (.iaload, 1) := by decide +kernel
theorem dX2_crest_27 : decode cX2_crest 27 = .ok (.aload_n 0, 1) := by decide +kernel
theorem dX2_crest_28 : decode cX2_crest 28 = .ok (.getfield 14, 3) := by decide +kernel
theorem dX2_crest_31 : decode cX2_crest 31 = .ok (.iload_n 1, 1) := by decide +kernel
theorem dX2_crest_32 : decode cX2_crest 32 = .ok (.aaload, 1) := by decide +kernel
theorem dX2_crest_33 : decode cX2_crest 33 = .ok (.iload_n 2, 1) := by decide +kernel
theorem dX2_crest_34 : decode cX2_crest 34 = .ok (.iaload, 1) := by decide +kernel
theorem dX2_crest_35 : decode cX2_crest 35 = .ok (.iadd, 1) := by decide +kernel
theorem dX2_crest_36 : decode cX2_crest 36 = .ok (.goto 20, 3) := by decide +kernel
theorem dX2_crest_39 : decode cX2_crest 39 = .ok (.aload_n 0, 1) := by decide +kernel
theorem dX2_crest_40 : decode cX2_crest 40 = .ok (.getfield 9, 3) := by decide +kernel
theorem dX2_crest_43 : decode cX2_crest 43 = .ok (.iload_n 1, 1) := by decide +kernel
theorem dX2_crest_44 : decode cX2_crest 44 = .ok (.aaload, 1) := by decide +kernel
theorem dX2_crest_45 : decode cX2_crest 45 = .ok (.iload_n 2, 1) := by decide +kernel
theorem dX2_crest_46 : decode cX2_crest 46 = .ok (.iaload, 1) := by decide +kernel
theorem dX2_crest_47 : decode cX2_crest 47 = .ok (.aload_n 0, 1) := by decide +kernel
theorem dX2_crest_48 : decode cX2_crest 48 = .ok (.getfield 17, 3) := by decide +kernel
theorem dX2_crest_51 : decode cX2_crest 51 = .ok (.iload_n 1, 1) := by decide +kernel
theorem dX2_crest_52 : decode cX2_crest 52 = .ok (.aaload, 1) := by decide +kernel
theorem dX2_crest_53 : decode cX2_crest 53 = .ok (.iload_n 2, 1) := by decide +kernel
theorem dX2_crest_54 : decode cX2_crest 54 = .ok (.iaload, 1) := by decide +kernel
theorem dX2_crest_55 : decode cX2_crest 55 = .ok (.iadd, 1) := by decide +kernel
theorem dX2_crest_56 : decode cX2_crest 56 = .ok (.ireturn, 1) := by decide +kernel
set_option maxRecDepth 20000 in
theorem ggX2_pass_X2_crest : GoodIn wsX2_pass wsX2_crest := goodIn_r _ [19, 4, 7, 9, 20, 21, 22, 23, 24, 25, 26, 27, 28, 29, 30] (by decide +kernel) (by decide +kernel)
set_option maxRecDepth 20000 in
theorem gX2_pass_X2_crest : GoodIn wsX2_pass (wsV RX2 51 RX2 yX2_crest wsX2_crest) := goodIn_app (goodIn_of _ (by decide +kernel)) ggX2_pass_X2_crest
theorem dX2_pass_0 : decode cX2_pass 0 = .ok (.aload_n 0, 1) := by decide +kernel
theorem dX2_pass_1 : decode cX2_pass 1 = .ok (.getfield 47, 3) := by decide +kernel
theorem dX2_pass_4 : decode cX2_pass 4 = .ok (.istore_n 1, 1) := by decide +kernel
theorem dX2_pass_5 : decode cX2_pass 5 = .ok (.bipush 8, 2) := by decide +kernel
theorem dX2_pass_7 : decode cX2_pass 7 = .ok (.bipush 8, 2) := by decide +kernel
theorem dX2_pass_9 : decode cX2_pass 9 = .ok (.multianewarray 7 2, 4) := by decide +kernel
theorem dX2_pass_13 : decode cX2_pass 13 = .ok (.astore_n 2, 1) := by decide +kernel
theorem dX2_pass_14 : decode cX2_pass 14 = .ok (.iconst 0, 1) := by decide +kernel
theorem dX2_pass_15 : decode cX2_pass 15 = .ok (.istore_n 3, 1) := by decide +kernel
theorem dX2_pass_16 : decode cX2_pass 16 = .ok (.iload_n 3, 1) := by decide +kernel
theorem dX2_pass_17 : decode cX2_pass 17 = .ok (.bipush 8, 2) := by decide +kernel
theorem dX2_pass_19 : decode cX2_pass 19 = .ok (.if_icmp .ge 49, 3) := by decide +kernel
theorem dX2_pass_22 : decode cX2_pass 22 = .ok (.iconst 0, 1) := by decide +kernel
theorem dX2_pass_23 : decode cX2_pass 23 = .ok (.istore 4, 2) := by decide +kernel
theorem dX2_pass_25 : decode cX2_pass 25 = .ok (.iload 4, 2) := by decide +kernel
theorem dX2_pass_27 : decode cX2_pass 27 = .ok (.bipush 8, 2) := by decide +kernel
theorem dX2_pass_29 : decode cX2_pass 29 = .ok (.if_icmp .ge 33, 3) := by decide +kernel
theorem dX2_pass_32 : decode cX2_pass 32 = .ok (.aload_n 0, 1) := by decide +kernel
theorem dX2_pass_33 : decode cX2_pass 33 = .ok (.getfield 14, 3) := by decide +kernel
theorem dX2_pass_36 : decode cX2_pass 36 = .ok (.iload_n 3, 1) := by decide +kernel
theorem dX2_pass_37 : decode cX2_pass 37 = .ok (.aaload, 1) := by decide +kernel
theorem dX2_pass_38 : decode cX2_pass 38 = .ok (.iload 4, 2) := by decide +kernel
theorem dX2_pass_40 : decode cX2_pass 40 = .ok (.dup2, 1) := by decide +kernel
theorem dX2_pass_41 : decode cX2_pass 41 = .ok (.iaload, 1) := by decide +kernel
theorem dX2_pass_42 : decode cX2_pass 42 = .ok (.aload_n 0, 1) := by decide +kernel
theorem dX2_pass_43 : decode cX2_pass 43 = .ok (.getfield 29, 3) := by decide +kernel
theorem dX2_pass_46 : decode cX2_pass 46 = .ok (.aload_n 0, 1) := by decide +kernel
theorem dX2_pass_47 : decode cX2_pass 47 = .ok (.getfield 37, 3) := by decide +kernel
theorem dX2_pass_50 : decode cX2_pass 50 = .ok (.bipush 12, 2) := by decide +kernel
theorem dX2_pass_52 : decode cX2_pass 52 = .ok (.irem, 1) := by decide +kernel
theorem dX2_pass_53 : decode cX2_pass 53 = .ok (.iaload, 1) := by decide +kernel
theorem dX2_pass_54 : decode cX2_pass 54 = .ok (.iadd, 1) := by decide +kernel
theorem dX2_pass_55 : decode cX2_pass 55 = .ok (.iastore, 1) := by decide +kernel
theorem dX2_pass_56 : decode cX2_pass 56 = .ok (.iinc 4 1, 3) := by decide +kernel
theorem dX2_pass_59 : decode cX2_pass 59 = .ok (.goto (-34), 3) := by decide +kernel
theorem dX2_pass_62 : decode cX2_pass 62 = .ok (.iinc 3 1, 3) := by decide +kernel
theorem dX2_pass_65 : decode cX2_pass 65 = .ok (.goto (-49), 3) := by decide +kernel
theorem dX2_pass_68 : decode cX2_pass 68 = .ok (.iconst 0, 1) := by decide +kernel
theorem dX2_pass_69 : decode cX2_pass 69 = .ok (.istore_n 3, 1) := by decide +kernel
theorem dX2_pass_70 : decode cX2_pass 70 = .ok (.iload_n 3, 1) := by decide +kernel
theorem dX2_pass_71 : decode cX2_pass 71 = .ok (.bipush 8, 2) := by decide +kernel
theorem dX2_pass_73 : decode cX2_pass 73 = .ok (.if_icmp .ge 288, 3) := by decide +kernel
theorem dX2_pass_76 : decode cX2_pass 76 = .ok (.iconst 0, 1) := by decide +kernel
theorem dX2_pass_77 : decode cX2_pass 77 = .ok (.istore 4, 2) := by decide +kernel
theorem dX2_pass_79 : decode cX2_pass 79 = .ok (.iload 4, 2) := by decide +kernel
theorem dX2_pass_81 : decode cX2_pass 81 = .ok (.bipush 8, 2) := by decide +kernel
theorem dX2_pass_83 : decode cX2_pass 83 = .ok (.if_icmp .ge 272, 3) := by decide +kernel
theorem dX2_pass_86 : decode cX2_pass 86 = .ok (.aload_n 2, 1) := by decide +kernel
theorem dX2_pass_87 : decode cX2_pass 87 = .ok (.iload_n 3, 1) := by decide +kernel
theorem dX2_pass_88 : decode cX2_pass 88 = .ok (.aaload, 1) := by decide +kernel
theorem dX2_pass_89 : decode cX2_pass 89 = .ok (.iload 4, 2) := by decide +kernel
theorem dX2_pass_91 : decode cX2_pass 91 = .ok (.dup2, 1) := by decide +kernel
theorem dX2_pass_92 : decode cX2_pass 92 = .ok (.iaload, 1) := by decide +kernel
theorem dX2_pass_93 : decode cX2_pass 93 = .ok (.aload_n 0, 1) := by decide +kernel
theorem dX2_pass_94 : decode cX2_pass 94 = .ok (.getfield 14, 3) := by decide +kernel
theorem dX2_pass_97 : decode cX2_pass 97 = .ok (.iload_n 3, 1) := by decide +kernel
theorem dX2_pass_98 : decode cX2_pass 98 = .ok (.aaload, 1) := by decide +kernel
theorem dX2_pass_99 : decode cX2_pass 99 = .ok (.iload 4, 2) := by decide +kernel
theorem dX2_pass_101 : decode cX2_pass 101 = .ok (.iaload, 1) := by decide +kernel
theorem dX2_pass_102 : decode cX2_pass 102 = .ok (.iadd, 1) := by decide +kernel
theorem dX2_pass_103 : decode cX2_pass 103 = .ok (.iastore, 1) := by decide +kernel
theorem dX2_pass_104 : decode cX2_pass 104 = .ok (.aload_n 0, 1) := by decide +kernel
theorem dX2_pass_105 : decode cX2_pass 105 = .ok (.getfield 14, 3) := by decide +kernel
theorem dX2_pass_108 : decode cX2_pass 108 = .ok (.iload_n 3, 1) := by decide +kernel
theorem dX2_pass_109 : decode cX2_pass 109 = .ok (.aaload, 1) := by decide +kernel
theorem dX2_pass_110 : decode cX2_pass 110 = .ok (.iload 4, 2) := by decide +kernel
theorem dX2_pass_112 : decode cX2_pass 112 = .ok (.iaload, 1) := by decide +kernel
theorem dX2_pass_113 : decode cX2_pass 113 = .ok (.aload_n 0, 1) := by decide +kernel
theorem dX2_pass_114 : decode cX2_pass 114 = .ok (.getfield 17, 3) := by decide +kernel
theorem dX2_pass_117 : decode cX2_pass 117 = .ok (.iload_n 3, 1) := by decide +kernel
theorem dX2_pass_118 : decode cX2_pass 118 = .ok (.aaload, 1) := by decide +kernel
theorem dX2_pass_119 : decode cX2_pass 119 = .ok (.iload 4, 2) := by decide +kernel
theorem dX2_pass_121 : decode cX2_pass 121 = .ok (.iaload, 1) := by decide +kernel
theorem dX2_pass_122 : decode cX2_pass 122 = .ok (.isub, 1) := by decide +kernel
theorem dX2_pass_123 : decode cX2_pass 123 = .ok (.istore 5, 2) := by decide +kernel
theorem dX2_pass_125 : decode cX2_pass 125 = .ok (.iload 5, 2) := by decide +kernel
theorem dX2_pass_127 : decode cX2_pass 127 = .ok (.ifCond .gt 6, 3) := by decide +kernel
theorem dX2_pass_130 : decode cX2_pass 130 = .ok (.goto 219, 3) := by decide +kernel
theorem dX2_pass_133 : decode cX2_pass 133 = .ok (.iload_n 3, 1) := by decide +kernel
theorem dX2_pass_134 : decode cX2_pass 134 = .ok (.istore 6, 2) := by decide +kernel
theorem dX2_pass_136 : decode cX2_pass 136 = .ok (.iload 4, 2) := by decide +kernel
theorem dX2_pass_138 : decode cX2_pass 138 = .ok (.istore 7, 2) := by decide +kernel
theorem dX2_pass_140 : decode cX2_pass 140 = .ok (.ldc 50, 2) := by decide +kernel
theorem dX2_pass_142 : decode cX2_pass 142 = .ok (.istore 8, 2) := by decide +kernel
theorem dX2_pass_144 : decode cX2_pass 144 = .ok (.iconst 3, 1) := by decide +kernel
theorem dX2_pass_145 : decode cX2_pass 145 = .ok (.istore 9, 2) := by decide +kernel
theorem dX2_pass_147 : decode cX2_pass 147 = .ok (.iload 9, 2) := by decide +kernel
theorem dX2_pass_149 : decode cX2_pass 149 = .ok (.ifCond .lt 123, 3) := by decide +kernel
theorem dX2_pass_152 : decode cX2_pass 152 = .ok (.iload 9, 2) := by decide +kernel
theorem dX2_pass_154 : decode cX2_pass 154 = .ok (.ifCond .ne 9, 3) := by decide +kernel
theorem dX2_pass_157 : decode cX2_pass 157 = .ok (.iload_n 3, 1) := by decide +kernel
theorem dX2_pass_158 : decode cX2_pass 158 = .ok (.iconst 1, 1) := by decide +kernel
theorem dX2_pass_159 : decode cX2_pass 159 = .ok (.isub, 1) := by decide +kernel
theorem dX2_pass_160 : decode cX2_pass 160 = .ok (.goto 16, 3) := by decide +kernel
theorem dX2_pass_163 : decode cX2_pass 163 = .ok (.iload 9, 2) := by decide +kernel
theorem dX2_pass_165 : decode cX2_pass 165 = .ok (.iconst 1, 1) := by decide +kernel
theorem dX2_pass_166 : decode cX2_pass 166 = .ok (.if_icmp .ne 9, 3) := by decide +kernel
theorem dX2_pass_169 : decode cX2_pass 169 = .ok (.iload_n 3, 1) := by decide +kernel
theorem dX2_pass_170 : decode cX2_pass 170 = .ok (.iconst 1, 1) := by decide +kernel
theorem dX2_pass_171 : decode cX2_pass 171 = .ok (.iadd, 1) := by decide +kernel
theorem dX2_pass_172 : decode cX2_pass 172 = .ok (.goto 4, 3) := by decide +kernel
theorem dX2_pass_175 : decode cX2_pass 175 = .ok (.iload_n 3, 1) := by decide +kernel
theorem dX2_pass_176 : decode cX2_pass 176 = .ok (.istore 10, 2) := by decide +kernel
theorem dX2_pass_178 : decode cX2_pass 178 = .ok (.iload 9, 2) := by decide +kernel
theorem dX2_pass_180 : decode cX2_pass 180 = .ok (.iconst 2, 1) := by decide +kernel
theorem dX2_pass_181 : decode cX2_pass 181 = .ok (.if_icmp .ne 10, 3) := by decide +kernel
theorem dX2_pass_184 : decode cX2_pass 184 = .ok (.iload 4, 2) := by decide +kernel
theorem dX2_pass_186 : decode cX2_pass 186 = .ok (.iconst 1, 1) := by decide +kernel
theorem dX2_pass_187 : decode cX2_pass 187 = .ok (.isub, 1) := by decide +kernel
theorem dX2_pass_188 : decode cX2_pass 188 = .ok (.goto 18, 3) := by decide +kernel
theorem dX2_pass_191 : decode cX2_pass 191 = .ok (.iload 9, 2) := by decide +kernel
theorem dX2_pass_193 : decode cX2_pass 193 = .ok (.iconst 3, 1) := by decide +kernel
theorem dX2_pass_194 : decode cX2_pass 194 = .ok (.if_icmp .ne 10, 3) := by decide +kernel
theorem dX2_pass_197 : decode cX2_pass 197 = .ok (.iload 4, 2) := by decide +kernel
theorem dX2_pass_199 : decode cX2_pass 199 = .ok (.iconst 1, 1) := by decide +kernel
theorem dX2_pass_200 : decode cX2_pass 200 = .ok (.iadd, 1) := by decide +kernel
theorem dX2_pass_201 : decode cX2_pass 201 = .ok (.goto 5, 3) := by decide +kernel
theorem dX2_pass_204 : decode cX2_pass 204 = .ok (.iload 4, 2) := by decide +kernel
theorem dX2_pass_206 : decode cX2_pass 206 = .ok (.istore 11, 2) := by decide +kernel
theorem dX2_pass_208 : decode cX2_pass 208 = .ok (.iload 10, 2) := by decide +kernel
theorem dX2_pass_210 : decode cX2_pass 210 = .ok (.ifCond .lt 56, 3) := by decide +kernel
theorem dX2_pass_213 : decode cX2_pass 213 = .ok (.iload 10, 2) := by decide +kernel
theorem dX2_pass_215 : decode cX2_pass 215 = .ok (.bipush 7, 2) := by decide +kernel
theorem dX2_pass_217 : decode cX2_pass 217 = .ok (.if_icmp .gt 49, 3) := by decide +kernel
theorem dX2_pass_220 : decode cX2_pass 220 = .ok (.iload 11, 2) := by decide +kernel
theorem dX2_pass_222 : decode cX2_pass 222 = .ok (.ifCond .lt 44, 3) := by decide +kernel
theorem dX2_pass_225 : decode cX2_pass 225 = .ok (.iload 11, 2) := by decide +kernel
theorem dX2_pass_227 : decode cX2_pass 227 = .ok (.bipush 7, 2) := by decide +kernel
theorem dX2_pass_229 : decode cX2_pass 229 = .ok (.if_icmp .gt 37, 3) := by decide +kernel
theorem dX2_pass_232 : decode cX2_pass 232 = .ok (.aload_n 0, 1) := by decide +kernel
theorem dX2_pass_233 : decode cX2_pass 233 = .ok (.iload 10, 2) := by decide +kernel
theorem dX2_pass_235 : decode cX2_pass 235 = .ok (.iload 11, 2) := by decide +kernel
theorem dX2_pass_237 : decode cX2_pass 237 = .ok (.invokevirtual 51, 3) := by decide +kernel
theorem dX2_pass_240 : decode cX2_pass 240 = .ok (.iload 8, 2) := by decide +kernel
theorem dX2_pass_242 : decode cX2_pass 242 = .ok (.if_icmp .le 6, 3) := by decide +kernel
theorem dX2_pass_245 : decode cX2_pass 245 = .ok (.goto 21, 3) := by decide +kernel
theorem dX2_pass_248 : decode cX2_pass 248 = .ok (.aload_n 0, 1) := by decide +kernel
theorem dX2_pass_249 : decode cX2_pass 249 = .ok (.iload 10, 2) := by decide +kernel
theorem dX2_pass_251 : decode cX2_pass 251 = .ok (.iload 11, 2) := by decide +kernel
theorem dX2_pass_253 : decode cX2_pass 253 = .ok (.invokevirtual 51, 3) := by decide +kernel
theorem dX2_pass_256 : decode cX2_pass 256 = .ok (.istore 8, 2) := by decide +kernel
theorem dX2_pass_258 : decode cX2_pass 258 = .ok (.iload 10, 2) := by decide +kernel
theorem dX2_pass_260 : decode cX2_pass 260 = .ok (.istore 6, 2) := by decide +kernel
theorem dX2_pass_262 : decode cX2_pass 262 = .ok (.iload 11, 2) := by decide +kernel
theorem dX2_pass_264 : decode cX2_pass 264 = .ok (.istore 7, 2) := by decide +kernel
theorem dX2_pass_266 : decode cX2_pass 266 = .ok (.iinc 9 (-1), 3) := by decide +kernel
theorem dX2_pass_269 : decode cX2_pass 269 = .ok (.goto (-122), 3) := by decide +kernel
theorem dX2_pass_272 : decode cX2_pass 272 = .ok (.aload_n 0, 1) := by decide +kernel
theorem dX2_pass_273 : decode cX2_pass 273 = .ok (.getfield 9, 3) := by decide +kernel
theorem dX2_pass_276 : decode cX2_pass 276 = .ok (.iload_n 3, 1) := by decide +kernel
theorem dX2_pass_277 : decode cX2_pass 277 = .ok (.aaload, 1) := by decide +kernel
theorem dX2_pass_278 : decode cX2_pass 278 = .ok (.iload 4, 2) := by decide +kernel
theorem dX2_pass_280 : decode cX2_pass 280 = .ok (.iaload, 1) := by decide +kernel
theorem dX2_pass_281 : decode cX2_pass 281 = .ok (.aload_n 0, 1) := by decide +kernel
theorem dX2_pass_282 : decode cX2_pass 282 = .ok (.getfield 14, 3) := by decide +kernel
theorem dX2_pass_285 : decode cX2_pass 285 = .ok (.iload_n 3, 1) := by decide +kernel
theorem dX2_pass_286 : decode cX2_pass 286 = .ok (.aaload, 1) := by decide +kernel
theorem dX2_pass_287 : decode cX2_pass 287 = .ok (.iload 4, 2) := by decide +kernel
theorem dX2_pass_289 : decode cX2_pass 289 = .ok (.iaload, 1) := by decide +kernel
theorem dX2_pass_290 : decode cX2_pass 290 = .ok (.iadd, 1) := by decide +kernel
theorem dX2_pass_291 : decode cX2_pass 291 = .ok (.iload 8, 2) := by decide +kernel
theorem dX2_pass_293 : decode cX2_pass 293 = .ok (.isub, 1) := by decide +kernel
theorem dX2_pass_294 : decode cX2_pass 294 = .ok (.istore 9, 2) := by decide +kernel
theorem dX2_pass_296 : decode cX2_pass 296 = .ok (.iload 9, 2) := by decide +kernel
theorem dX2_pass_298 : decode cX2_pass 298 = .ok (.iconst 2, 1) := by decide +kernel
theorem dX2_pass_299 : decode cX2_pass 299 = .ok (.if_icmp .ge 7, 3) := by decide +kernel
theorem dX2_pass_302 : decode cX2_pass 302 = .ok (.iconst 0, 1) := by decide +kernel
theorem dX2_pass_303 : decode cX2_pass 303 = .ok (.goto 21, 3) := by decide +kernel
theorem dX2_pass_306 : decode cX2_pass 306 = .ok (.iload 9, 2) := by decide +kernel
theorem dX2_pass_308 : decode cX2_pass 308 = .ok (.iconst 2, 1) := by decide +kernel
theorem dX2_pass_309 : decode cX2_pass 309 = .ok (.idiv, 1) := by decide +kernel
theorem dX2_pass_310 : decode cX2_pass 310 = .ok (.iload 5, 2) := by decide +kernel
theorem dX2_pass_312 : decode cX2_pass 312 = .ok (.if_icmp .ge 10, 3) := by decide +kernel
theorem dX2_pass_315 : decode cX2_pass 315 = .ok (.iload 9, 2) := by decide +kernel
theorem dX2_pass_317 : decode cX2_pass 317 = .ok (.iconst 2, 1) := by decide +kernel
theorem dX2_pass_318 : decode cX2_pass 318 = .ok (.idiv, 1) := by decide +kernel
theorem dX2_pass_319 : decode cX2_pass 319 = .ok (.goto 5, 3) := by decide +kernel
theorem dX2_pass_322 : decode cX2_pass 322 = .ok (.iload 5, 2) := by decide +kernel
theorem dX2_pass_324 : decode cX2_pass 324 = .ok (.istore 10, 2) := by decide +kernel
theorem dX2_pass_326 : decode cX2_pass 326 = .ok (.aload_n 2, 1) := by decide +kernel
theorem dX2_pass_327 : decode cX2_pass 327 = .ok (.iload_n 3, 1) := by decide +kernel
theorem dX2_pass_328 : decode cX2_pass 328 = .ok (.aaload, 1) := by decide +kernel
theorem dX2_pass_329 : decode cX2_pass 329 = .ok (.iload 4, 2) := by decide +kernel
theorem dX2_pass_331 : decode cX2_pass 331 = .ok (.dup2, 1) := by decide +kernel
theorem dX2_pass_332 : decode cX2_pass 332 = .ok (.iaload, 1) := by decide +kernel
theorem dX2_pass_333 : decode cX2_pass 333 = .ok (.iload 10, 2) := by decide +kernel
theorem dX2_pass_335 : decode cX2_pass 335 = .ok (.isub, 1) := by decide +kernel
theorem dX2_pass_336 : decode cX2_pass 336 = .ok (.iastore, 1) := by decide +kernel
theorem dX2_pass_337 : decode cX2_pass 337 = .ok (.aload_n 2, 1) := by decide +kernel
theorem dX2_pass_338 : decode cX2_pass 338 = .ok (.iload 6, 2) := by decide +kernel
theorem dX2_pass_340 : decode cX2_pass 340 = .ok (.aaload, 1) := by decide +kernel
theorem dX2_pass_341 : decode cX2_pass 341 = .ok (.iload 7, 2) := by decide +kernel
theorem dX2_pass_343 : decode cX2_pass 343 = .ok (.dup2, 1) := by decide +kernel
theorem dX2_pass_344 : decode cX2_pass 344 = .ok (.iaload, 1) := by decide +kernel
theorem dX2_pass_345 : decode cX2_pass 345 = .ok (.iload 10, 2) := by decide +kernel
theorem dX2_pass_347 : decode cX2_pass 347 = .ok (.iadd, 1) := by decide +kernel
theorem dX2_pass_348 : decode cX2_pass 348 = .ok (.iastore, 1) := by decide +kernel
theorem dX2_pass_349 : decode cX2_pass 349 = .ok (.iinc 4 1, 3) := by decide +kernel
theorem dX2_pass_352 : decode cX2_pass 352 = .ok (.goto (-273), 3) := by decide +kernel
theorem dX2_pass_355 : decode cX2_pass 355 = .ok (.iinc 3 1, 3) := by decide +kernel
theorem dX2_pass_358 : decode cX2_pass 358 = .ok (.goto (-288), 3) := by decide +kernel
theorem dX2_pass_361 : decode cX2_pass 361 = .ok (.aload_n 0, 1) := by decide +kernel
theorem dX2_pass_362 : decode cX2_pass 362 = .ok (.aload_n 2, 1) := by decide +kernel
theorem dX2_pass_363 : decode cX2_pass 363 = .ok (.putfield 14, 3) := by decide +kernel
theorem dX2_pass_366 : decode cX2_pass 366 = .ok (.iconst 0, 1) := by decide +kernel
theorem dX2_pass_367 : decode cX2_pass 367 = .ok (.istore_n 3, 1) := by decide +kernel
theorem dX2_pass_368 : decode cX2_pass 368 = .ok (.iload_n 3, 1) := by decide +kernel
theorem dX2_pass_369 : decode cX2_pass 369 = .ok (.bipush 8, 2) := by decide +kernel
theorem dX2_pass_371 : decode cX2_pass 371 = .ok (.if_icmp .ge 252, 3) := by decide +kernel
theorem dX2_pass_374 : decode cX2_pass 374 = .ok (.iconst 0, 1) := by decide +kernel
theorem dX2_pass_375 : decode cX2_pass 375 = .ok (.istore 4, 2) := by decide +kernel
theorem dX2_pass_377 : decode cX2_pass 377 = .ok (.iload 4, 2) := by decide +kernel
theorem dX2_pass_379 : decode cX2_pass 379 = .ok (.bipush 8, 2) := by decide +kernel
theorem dX2_pass_381 : decode cX2_pass 381 = .ok (.if_icmp .ge 236, 3) := by decide +kernel
theorem dX2_pass_384 : decode cX2_pass 384 = .ok (.aload_n 0, 1) := by decide +kernel
theorem dX2_pass_385 : decode cX2_pass 385 = .ok (.getfield 17, 3) := by decide +kernel
theorem dX2_pass_388 : decode cX2_pass 388 = .ok (.iload_n 3, 1) := by decide +kernel
theorem dX2_pass_389 : decode cX2_pass 389 = .ok (.aaload, 1) := by decide +kernel
theorem dX2_pass_390 : decode cX2_pass 390 = .ok (.iload 4, 2) := by decide +kernel
theorem dX2_pass_392 : decode cX2_pass 392 = .ok (.iaload, 1) := by decide +kernel
theorem dX2_pass_393 : decode cX2_pass 393 = .ok (.ifCond .le 37, 3) := by decide +kernel
theorem dX2_pass_396 : decode cX2_pass 396 = .ok (.aload_n 0, 1) := by decide +kernel
theorem dX2_pass_397 : decode cX2_pass 397 = .ok (.getfield 14, 3) := by decide +kernel
theorem dX2_pass_400 : decode cX2_pass 400 = .ok (.iload_n 3, 1) := by decide +kernel
theorem dX2_pass_401 : decode cX2_pass 401 = .ok (.aaload, 1) := by decide +kernel
theorem dX2_pass_402 : decode cX2_pass 402 = .ok (.iload 4, 2) := by decide +kernel
theorem dX2_pass_404 : decode cX2_pass 404 = .ok (.iaload, 1) := by decide +kernel
theorem dX2_pass_405 : decode cX2_pass 405 = .ok (.aload_n 0, 1) := by decide +kernel
theorem dX2_pass_406 : decode cX2_pass 406 = .ok (.getfield 17, 3) := by decide +kernel
theorem dX2_pass_409 : decode cX2_pass 409 = .ok (.iload_n 3, 1) := by decide +kernel
theorem dX2_pass_410 : decode cX2_pass 410 = .ok (.aaload, 1) := by decide +kernel
theorem dX2_pass_411 : decode cX2_pass 411 = .ok (.iload 4, 2) := by decide +kernel
theorem dX2_pass_413 : decode cX2_pass 413 = .ok (.iaload, 1) := by decide +kernel
theorem dX2_pass_414 : decode cX2_pass 414 = .ok (.if_icmp .lt 16, 3) := by decide +kernel
theorem dX2_pass_417 : decode cX2_pass 417 = .ok (.aload_n 0, 1) := by decide +kernel
theorem dX2_pass_418 : decode cX2_pass 418 = .ok (.getfield 20, 3) := by decide +kernel
theorem dX2_pass_421 : decode cX2_pass 421 = .ok (.iload_n 3, 1) := by decide +kernel
theorem dX2_pass_422 : decode cX2_pass 422 = .ok (.aaload, 1) := by decide +kernel
theorem dX2_pass_423 : decode cX2_pass 423 = .ok (.iload 4, 2) := by decide +kernel
theorem dX2_pass_425 : decode cX2_pass 425 = .ok (.dup2, 1) := by decide +kernel
theorem dX2_pass_426 : decode cX2_pass 426 = .ok (.iaload, 1) := by decide +kernel
theorem dX2_pass_427 : decode cX2_pass 427 = .ok (.iconst 1, 1) := by decide +kernel
theorem dX2_pass_428 : decode cX2_pass 428 = .ok (.iadd, 1) := by decide +kernel
theorem dX2_pass_429 : decode cX2_pass 429 = .ok (.iastore, 1) := by decide +kernel
theorem dX2_pass_430 : decode cX2_pass 430 = .ok (.aload_n 0, 1) := by decide +kernel
theorem dX2_pass_431 : decode cX2_pass 431 = .ok (.getfield 20, 3) := by decide +kernel
theorem dX2_pass_434 : decode cX2_pass 434 = .ok (.iload_n 3, 1) := by decide +kernel
theorem dX2_pass_435 : decode cX2_pass 435 = .ok (.aaload, 1) := by decide +kernel
theorem dX2_pass_436 : decode cX2_pass 436 = .ok (.iload 4, 2) := by decide +kernel
theorem dX2_pass_438 : decode cX2_pass 438 = .ok (.iaload, 1) := by decide +kernel
theorem dX2_pass_439 : decode cX2_pass 439 = .ok (.bipush 9, 2) := by decide +kernel
theorem dX2_pass_441 : decode cX2_pass 441 = .ok (.if_icmp .le 33, 3) := by decide +kernel
theorem dX2_pass_444 : decode cX2_pass 444 = .ok (.aload_n 0, 1) := by decide +kernel
theorem dX2_pass_445 : decode cX2_pass 445 = .ok (.getfield 17, 3) := by decide +kernel
theorem dX2_pass_448 : decode cX2_pass 448 = .ok (.iload_n 3, 1) := by decide +kernel
theorem dX2_pass_449 : decode cX2_pass 449 = .ok (.aaload, 1) := by decide +kernel
theorem dX2_pass_450 : decode cX2_pass 450 = .ok (.iload 4, 2) := by decide +kernel
theorem dX2_pass_452 : decode cX2_pass 452 = .ok (.iconst 0, 1) := by decide +kernel
theorem dX2_pass_453 : decode cX2_pass 453 = .ok (.iastore, 1) := by decide +kernel
theorem dX2_pass_454 : decode cX2_pass 454 = .ok (.aload_n 0, 1) := by decide +kernel
theorem dX2_pass_455 : decode cX2_pass 455 = .ok (.getfield 20, 3) := by decide +kernel
theorem dX2_pass_458 : decode cX2_pass 458 = .ok (.iload_n 3, 1) := by decide +kernel
theorem dX2_pass_459 : decode cX2_pass 459 = .ok (.aaload, 1) := by decide +kernel
theorem dX2_pass_460 : decode cX2_pass 460 = .ok (.iload 4, 2) := by decide +kernel
theorem dX2_pass_462 : decode cX2_pass 462 = .ok (.iconst 0, 1) := by decide +kernel
theorem dX2_pass_463 : decode cX2_pass 463 = .ok (.iastore, 1) := by decide +kernel
theorem dX2_pass_464 : decode cX2_pass 464 = .ok (.aload_n 0, 1) := by decide +kernel
theorem dX2_pass_465 : decode cX2_pass 465 = .ok (.dup, 1) := by decide +kernel
theorem dX2_pass_466 : decode cX2_pass 466 = .ok (.getfield 41, 3) := by decide +kernel
theorem dX2_pass_469 : decode cX2_pass 469 = .ok (.iconst 1, 1) := by decide +kernel
theorem dX2_pass_470 : decode cX2_pass 470 = .ok (.iadd, 1) := by decide +kernel
theorem dX2_pass_471 : decode cX2_pass 471 = .ok (.putfield 41, 3) := by decide +kernel
theorem dX2_pass_474 : decode cX2_pass 474 = .ok (.aload_n 0, 1) := by decide +kernel
theorem dX2_pass_475 : decode cX2_pass 475 = .ok (.getfield 14, 3) := by decide +kernel
theorem dX2_pass_478 : decode cX2_pass 478 = .ok (.iload_n 3, 1) := by decide +kernel
theorem dX2_pass_479 : decode cX2_pass 479 = .ok (.aaload, 1) := by decide +kernel
theorem dX2_pass_480 : decode cX2_pass 480 = .ok (.iload 4, 2) := by decide +kernel
theorem dX2_pass_482 : decode cX2_pass 482 = .ok (.iaload, 1) := by decide +kernel
theorem dX2_pass_483 : decode cX2_pass 483 = .ok (.aload_n 0, 1) := by decide +kernel
theorem dX2_pass_484 : decode cX2_pass 484 = .ok (.getfield 23, 3) := by decide +kernel
theorem dX2_pass_487 : decode cX2_pass 487 = .ok (.iload_n 3, 1) := by decide +kernel
theorem dX2_pass_488 : decode cX2_pass 488 = .ok (.aaload, 1) := by decide +kernel
theorem dX2_pass_489 : decode cX2_pass 489 = .ok (.iload 4, 2) := by decide +kernel
theorem dX2_pass_491 : decode cX2_pass 491 = .ok (.iaload, 1) := by decide +kernel
theorem dX2_pass_492 : decode cX2_pass 492 = .ok (.if_icmp .ge 15, 3) := by decide +kernel
theorem dX2_pass_495 : decode cX2_pass 495 = .ok (.aload_n 0, 1) := by decide +kernel
theorem dX2_pass_496 : decode cX2_pass 496 = .ok (.getfield 14, 3) := by decide +kernel
theorem dX2_pass_499 : decode cX2_pass 499 = .ok (.iload_n 3, 1) := by decide +kernel
theorem dX2_pass_500 : decode cX2_pass 500 = .ok (.aaload, 1) := by decide +kernel
theorem dX2_pass_501 : decode cX2_pass 501 = .ok (.iload 4, 2) := by decide +kernel
theorem dX2_pass_503 : decode cX2_pass 503 = .ok (.iaload, 1) := by decide +kernel
theorem dX2_pass_504 : decode cX2_pass 504 = .ok (.goto 12, 3) := by decide +kernel
theorem dX2_pass_507 : decode cX2_pass 507 = .ok (.aload_n 0, 1) := by decide +kernel
theorem dX2_pass_508 : decode cX2_pass 508 = .ok (.getfield 23, 3) := by decide +kernel
theorem dX2_pass_511 : decode cX2_pass 511 = .ok (.iload_n 3, 1) := by decide +kernel
theorem dX2_pass_512 : decode cX2_pass 512 = .ok (.aaload, 1) := by decide +kernel
theorem dX2_pass_513 : decode cX2_pass 513 = .ok (.iload 4, 2) := by decide +kernel
theorem dX2_pass_515 : decode cX2_pass 515 = .ok (.iaload, 1) := by decide +kernel
theorem dX2_pass_516 : decode cX2_pass 516 = .ok (.istore 5, 2) := by decide +kernel
theorem dX2_pass_518 : decode cX2_pass 518 = .ok (.aload_n 0, 1) := by decide +kernel
theorem dX2_pass_519 : decode cX2_pass 519 = .ok (.getfield 14, 3) := by decide +kernel
theorem dX2_pass_522 : decode cX2_pass 522 = .ok (.iload_n 3, 1) := by decide +kernel
theorem dX2_pass_523 : decode cX2_pass 523 = .ok (.aaload, 1) := by decide +kernel
theorem dX2_pass_524 : decode cX2_pass 524 = .ok (.iload 4, 2) := by decide +kernel
theorem dX2_pass_526 : decode cX2_pass 526 = .ok (.dup2, 1) := by decide +kernel
theorem dX2_pass_527 : decode cX2_pass 527 = .ok (.iaload, 1) := by decide +kernel
theorem dX2_pass_528 : decode cX2_pass 528 = .ok (.iload 5, 2) := by decide +kernel
theorem dX2_pass_530 : decode cX2_pass 530 = .ok (.isub, 1) := by decide +kernel
theorem dX2_pass_531 : decode cX2_pass 531 = .ok (.iastore, 1) := by decide +kernel
theorem dX2_pass_532 : decode cX2_pass 532 = .ok (.aload_n 0, 1) := by decide +kernel
theorem dX2_pass_533 : decode cX2_pass 533 = .ok (.dup, 1) := by decide +kernel
theorem dX2_pass_534 : decode cX2_pass 534 = .ok (.getfield 44, 3) := by decide +kernel
theorem dX2_pass_537 : decode cX2_pass 537 = .ok (.iload 5, 2) := by decide +kernel
theorem dX2_pass_539 : decode cX2_pass 539 = .ok (.iadd, 1) := by decide +kernel
theorem dX2_pass_540 : decode cX2_pass 540 = .ok (.putfield 44, 3) := by decide +kernel
theorem dX2_pass_543 : decode cX2_pass 543 = .ok (.aload_n 0, 1) := by decide +kernel
theorem dX2_pass_544 : decode cX2_pass 544 = .ok (.getfield 14, 3) := by decide +kernel
theorem dX2_pass_547 : decode cX2_pass 547 = .ok (.iload_n 3, 1) := by decide +kernel
theorem dX2_pass_548 : decode cX2_pass 548 = .ok (.aaload, 1) := by decide +kernel
theorem dX2_pass_549 : decode cX2_pass 549 = .ok (.iload 4, 2) := by decide +kernel
theorem dX2_pass_551 : decode cX2_pass 551 = .ok (.iaload, 1) := by decide +kernel
theorem dX2_pass_552 : decode cX2_pass 552 = .ok (.iconst 3, 1) := by decide +kernel
theorem dX2_pass_553 : decode cX2_pass 553 = .ok (.if_icmp .lt 58, 3) := by decide +kernel
theorem dX2_pass_556 : decode cX2_pass 556 = .ok (.aload_n 0, 1) := by decide +kernel
theorem dX2_pass_557 : decode cX2_pass 557 = .ok (.getfield 26, 3) := by decide +kernel
theorem dX2_pass_560 : decode cX2_pass 560 = .ok (.iload_n 3, 1) := by decide +kernel
theorem dX2_pass_561 : decode cX2_pass 561 = .ok (.aaload, 1) := by decide +kernel
theorem dX2_pass_562 : decode cX2_pass 562 = .ok (.iload 4, 2) := by decide +kernel
theorem dX2_pass_564 : decode cX2_pass 564 = .ok (.iaload, 1) := by decide +kernel
theorem dX2_pass_565 : decode cX2_pass 565 = .ok (.ifCond .ne 6, 3) := by decide +kernel
theorem dX2_pass_568 : decode cX2_pass 568 = .ok (.goto 43, 3) := by decide +kernel
theorem dX2_pass_571 : decode cX2_pass 571 = .ok (.aload_n 0, 1) := by decide +kernel
theorem dX2_pass_572 : decode cX2_pass 572 = .ok (.getfield 26, 3) := by decide +kernel
theorem dX2_pass_575 : decode cX2_pass 575 = .ok (.iload_n 3, 1) := by decide +kernel
theorem dX2_pass_576 : decode cX2_pass 576 = .ok (.aaload, 1) := by decide +kernel
theorem dX2_pass_577 : decode cX2_pass 577 = .ok (.iload 4, 2) := by decide +kernel
theorem dX2_pass_579 : decode cX2_pass 579 = .ok (.iaload, 1) := by decide +kernel
theorem dX2_pass_580 : decode cX2_pass 580 = .ok (.iconst 3, 1) := by decide +kernel
theorem dX2_pass_581 : decode cX2_pass 581 = .ok (.idiv, 1) := by decide +kernel
theorem dX2_pass_582 : decode cX2_pass 582 = .ok (.iconst 1, 1) := by decide +kernel
theorem dX2_pass_583 : decode cX2_pass 583 = .ok (.iadd, 1) := by decide +kernel
theorem dX2_pass_584 : decode cX2_pass 584 = .ok (.istore 6, 2) := by decide +kernel
theorem dX2_pass_586 : decode cX2_pass 586 = .ok (.aload_n 0, 1) := by decide +kernel
theorem dX2_pass_587 : decode cX2_pass 587 = .ok (.getfield 26, 3) := by decide +kernel
theorem dX2_pass_590 : decode cX2_pass 590 = .ok (.iload_n 3, 1) := by decide +kernel
theorem dX2_pass_591 : decode cX2_pass 591 = .ok (.aaload, 1) := by decide +kernel
theorem dX2_pass_592 : decode cX2_pass 592 = .ok (.iload 4, 2) := by decide +kernel
theorem dX2_pass_594 : decode cX2_pass 594 = .ok (.dup2, 1) := by decide +kernel
theorem dX2_pass_595 : decode cX2_pass 595 = .ok (.iaload, 1) := by decide +kernel
theorem dX2_pass_596 : decode cX2_pass 596 = .ok (.iload 6, 2) := by decide +kernel
theorem dX2_pass_598 : decode cX2_pass 598 = .ok (.isub, 1) := by decide +kernel
theorem dX2_pass_599 : decode cX2_pass 599 = .ok (.iastore, 1) := by decide +kernel
theorem dX2_pass_600 : decode cX2_pass 600 = .ok (.aload_n 0, 1) := by decide +kernel
theorem dX2_pass_601 : decode cX2_pass 601 = .ok (.dup, 1) := by decide +kernel
theorem dX2_pass_602 : decode cX2_pass 602 = .ok (.getfield 47, 3) := by decide +kernel
theorem dX2_pass_605 : decode cX2_pass 605 = .ok (.iload 6, 2) := by decide +kernel
theorem dX2_pass_607 : decode cX2_pass 607 = .ok (.iadd, 1) := by decide +kernel
theorem dX2_pass_608 : decode cX2_pass 608 = .ok (.putfield 47, 3) := by decide +kernel
theorem dX2_pass_611 : decode cX2_pass 611 = .ok (.iinc 4 1, 3) := by decide +kernel
theorem dX2_pass_614 : decode cX2_pass 614 = .ok (.goto (-237), 3) := by decide +kernel
theorem dX2_pass_617 : decode cX2_pass 617 = .ok (.iinc 3 1, 3) := by decide +kernel
theorem dX2_pass_620 : decode cX2_pass 620 = .ok (.goto (-252), 3) := by decide +kernel
theorem dX2_pass_623 : decode cX2_pass 623 = .ok (.aload_n 0, 1) := by decide +kernel
theorem dX2_pass_624 : decode cX2_pass 624 = .ok (.dup, 1) := by decide +kernel
theorem dX2_pass_625 : decode cX2_pass 625 = .ok (.getfield 37, 3) := by decide +kernel
theorem dX2_pass_628 : decode cX2_pass 628 = .ok (.iconst 1, 1) := by decide +kernel
theorem dX2_pass_629 : decode cX2_pass 629 = .ok (.iadd, 1) := by decide +kernel
theorem dX2_pass_630 : decode cX2_pass 630 = .ok (.putfield 37, 3) := by decide +kernel
theorem dX2_pass_633 : decode cX2_pass 633 = .ok (.aload_n 0, 1) := by decide +kernel
theorem dX2_pass_634 : decode cX2_pass 634 = .ok (.getfield 47, 3) := by decide +kernel
theorem dX2_pass_637 : decode cX2_pass 637 = .ok (.iload_n 1, 1) := by decide +kernel
theorem dX2_pass_638 : decode cX2_pass 638 = .ok (.isub, 1) := by decide +kernel
theorem dX2_pass_639 : decode cX2_pass 639 = .ok (.ireturn, 1) := by decide +kernel
set_option maxRecDepth 20000 in
theorem ggX2_spread_X2_spread : GoodIn wsX2_spread wsX2_spread := goodIn_r _ [0, 1, 2, 3, 4, 5, 6, 7, 8, 9, 10, 11, 12, 13, 14, 15, 16] (by decide +kernel) (by decide +kernel)
set_option maxRecDepth 20000 in
theorem gX2_spread_X2_spread : GoodIn wsX2_spread (wsV RX2 55 RX2 yX2_spread wsX2_spread) := goodIn_app (goodIn_of _ (by decide +kernel)) ggX2_spread_X2_spread
theorem dX2_spread_0 : decode cX2_spread 0 = .ok (.iload_n 2, 1) := by decide +kernel
theorem dX2_spread_1 : decode cX2_spread 1 = .ok (.ifCond .lt 38, 3) := by decide +kernel
theorem dX2_spread_4 : decode cX2_spread 4 = .ok (.iload_n 2, 1) := by decide +kernel
theorem dX2_spread_5 : decode cX2_spread 5 = .ok (.bipush 7, 2) := by decide +kernel
theorem dX2_spread_7 : decode cX2_spread 7 = .ok (.if_icmp .gt 32, 3) := by decide +kernel
theorem dX2_spread_10 : decode cX2_spread 10 = .ok (.iload_n 3, 1) := by decide +kernel
theorem dX2_spread_11 : decode cX2_spread 11 = .ok (.ifCond .lt 28, 3) := by decide +kernel
theorem dX2_spread_14 : decode cX2_spread 14 = .ok (.iload_n 3, 1) := by decide +kernel
theorem dX2_spread_15 : decode cX2_spread 15 = .ok (.bipush 7, 2) := by decide +kernel
theorem dX2_spread_17 : decode cX2_spread 17 = .ok (.if_icmp .gt 22, 3) := by decide +kernel
theorem dX2_spread_20 : decode cX2_spread 20 = .ok (.aload_n 1, 1) := by decide +kernel
theorem dX2_spread_21 : decode cX2_spread 21 = .ok (.iload_n 2, 1) := by decide +kernel
theorem dX2_spread_22 : decode cX2_spread 22 = .ok (.aaload, 1) := by decide +kernel
theorem dX2_spread_23 : decode cX2_spread 23 = .ok (.iload_n 3, 1) := by decide +kernel
theorem dX2_spread_24 : decode cX2_spread 24 = .ok (.baload, 1) := by decide +kernel
theorem dX2_spread_25 : decode cX2_spread 25 = .ok (.ifCond .ne 14, 3) := by decide +kernel
theorem dX2_spread_28 : decode cX2_spread 28 = .ok (.aload_n 0, 1) := by decide +kernel
theorem dX2_spread_29 : decode cX2_spread 29 = .ok (.getfield 14, 3) := by decide +kernel
theorem dX2_spread_32 : decode cX2_spread 32 = .ok (.iload_n 2, 1) := by decide +kernel
theorem dX2_spread_33 : decode cX2_spread 33 = .ok (.aaload, 1) := by decide +kernel
theorem dX2_spread_34 : decode cX2_spread 34 = .ok (.iload_n 3, 1) := by decide +kernel
theorem dX2_spread_35 : decode cX2_spread 35 = .ok (.iaload, 1) := by decide +kernel
theorem dX2_spread_36 : decode cX2_spread 36 = .ok (.ifCond .ne 5, 3) := by decide +kernel
theorem dX2_spread_39 : decode cX2_spread 39 = .ok (.iconst 0, 1) := by decide +kernel
theorem dX2_spread_40 : decode cX2_spread 40 = .ok (.ireturn, 1) := by decide +kernel
theorem dX2_spread_41 : decode cX2_spread 41 = .ok (.aload_n 1, 1) := by decide +kernel
theorem dX2_spread_42 : decode cX2_spread 42 = .ok (.iload_n 2, 1) := by decide +kernel
theorem dX2_spread_43 : decode cX2_spread 43 = .ok (.aaload, 1) := by decide +kernel
theorem dX2_spread_44 : decode cX2_spread 44 = .ok (.iload_n 3, 1) := by decide +kernel
theorem dX2_spread_45 : decode cX2_spread 45 = .ok (.iconst 1, 1) := by decide +kernel
theorem dX2_spread_46 : decode cX2_spread 46 = .ok (.bastore, 1) := by decide +kernel
theorem dX2_spread_47 : decode cX2_spread 47 = .ok (.iconst 1, 1) := by decide +kernel
theorem dX2_spread_48 : decode cX2_spread 48 = .ok (.aload_n 0, 1) := by decide +kernel
theorem dX2_spread_49 : decode cX2_spread 49 = .ok (.aload_n 1, 1) := by decide +kernel
theorem dX2_spread_50 : decode cX2_spread 50 = .ok (.iload_n 2, 1) := by decide +kernel
theorem dX2_spread_51 : decode cX2_spread 51 = .ok (.iconst 1, 1) := by decide +kernel
theorem dX2_spread_52 : decode cX2_spread 52 = .ok (.isub, 1) := by decide +kernel
theorem dX2_spread_53 : decode cX2_spread 53 = .ok (.iload_n 3, 1) := by decide +kernel
theorem dX2_spread_54 : decode cX2_spread 54 = .ok (.invokevirtual 55, 3) := by decide +kernel
theorem dX2_spread_57 : decode cX2_spread 57 = .ok (.iadd, 1) := by decide +kernel
theorem dX2_spread_58 : decode cX2_spread 58 = .ok (.aload_n 0, 1) := by decide +kernel
theorem dX2_spread_59 : decode cX2_spread 59 = .ok (.aload_n 1, 1) := by decide +kernel
theorem dX2_spread_60 : decode cX2_spread 60 = .ok (.iload_n 2, 1) := by decide +kernel
theorem dX2_spread_61 : decode cX2_spread 61 = .ok (.iconst 1, 1) := by decide +kernel
theorem dX2_spread_62 : decode cX2_spread 62 = .ok (.iadd, 1) := by decide +kernel
theorem dX2_spread_63 : decode cX2_spread 63 = .ok (.iload_n 3, 1) := by decide +kernel
theorem dX2_spread_64 : decode cX2_spread 64 = .ok (.invokevirtual 55, 3) := by decide +kernel
theorem dX2_spread_67 : decode cX2_spread 67 = .ok (.iadd, 1) := by decide +kernel
theorem dX2_spread_68 : decode cX2_spread 68 = .ok (.aload_n 0, 1) := by decide +kernel
theorem dX2_spread_69 : decode cX2_spread 69 = .ok (.aload_n 1, 1) := by decide +kernel
theorem dX2_spread_70 : decode cX2_spread 70 = .ok (.iload_n 2, 1) := by decide +kernel
theorem dX2_spread_71 : decode cX2_spread 71 = .ok (.iload_n 3, 1) := by decide +kernel
theorem dX2_spread_72 : decode cX2_spread 72 = .ok (.iconst 1, 1) := by decide +kernel
theorem dX2_spread_73 : decode cX2_spread 73 = .ok (.isub, 1) := by decide +kernel
theorem dX2_spread_74 : decode cX2_spread 74 = .ok (.invokevirtual 55, 3) := by decide +kernel
theorem dX2_spread_77 : decode cX2_spread 77 = .ok (.iadd, 1) := by decide +kernel
theorem dX2_spread_78 : decode cX2_spread 78 = .ok (.aload_n 0, 1) := by decide +kernel
theorem dX2_spread_79 : decode cX2_spread 79 = .ok (.aload_n 1, 1) := by decide +kernel
theorem dX2_spread_80 : decode cX2_spread 80 = .ok (.iload_n 2, 1) := by decide +kernel
theorem dX2_spread_81 : decode cX2_spread 81 = .ok (.iload_n 3, 1) := by decide +kernel
theorem dX2_spread_82 : decode cX2_spread 82 = .ok (.iconst 1, 1) := by decide +kernel
theorem dX2_spread_83 : decode cX2_spread 83 = .ok (.iadd, 1) := by decide +kernel
theorem dX2_spread_84 : decode cX2_spread 84 = .ok (.invokevirtual 55, 3) := by decide +kernel
theorem dX2_spread_87 : decode cX2_spread 87 = .ok (.iadd, 1) := by decide +kernel
theorem dX2_spread_88 : decode cX2_spread 88 = .ok (.ireturn, 1) := by decide +kernel
set_option maxRecDepth 20000 in
theorem ggX2_told_X2_spread : GoodIn wsX2_told wsX2_spread := goodIn_r _ [14, 3, 10, 11, 12, 13, 15, 16, 17, 18, 19, 20, 21, 22, 23, 24, 25] (by decide +kernel) (by decide +kernel)
set_option maxRecDepth 20000 in
theorem gX2_told_X2_spread : GoodIn wsX2_told (wsV RX2 55 RX2 yX2_spread wsX2_spread) := goodIn_app (goodIn_of _ (by decide +kernel)) ggX2_told_X2_spread
theorem dX2_told_0 : decode cX2_told 0 = .ok (.iconst 0, 1) := by decide +kernel
theorem dX2_told_1 : decode cX2_told 1 = .ok (.istore_n 2, 1) := by decide +kernel
theorem dX2_told_2 : decode cX2_told 2 = .ok (.bipush 8, 2) := by decide +kernel
theorem dX2_told_4 : decode cX2_told 4 = .ok (.bipush 8, 2) := by decide +kernel
theorem dX2_told_6 : decode cX2_told 6 = .ok (.multianewarray 59 2, 4) := by decide +kernel
theorem dX2_told_10 : decode cX2_told 10 = .ok (.astore_n 3, 1) := by decide +kernel
theorem dX2_told_11 : decode cX2_told 11 = .ok (.iconst 0, 1) := by decide +kernel
theorem dX2_told_12 : decode cX2_told 12 = .ok (.istore 4, 2) := by decide +kernel
theorem dX2_told_14 : decode cX2_told 14 = .ok (.iload 4, 2) := by decide +kernel
theorem dX2_told_16 : decode cX2_told 16 = .ok (.bipush 8, 2) := by decide +kernel
theorem dX2_told_18 : decode cX2_told 18 = .ok (.if_icmp .ge 140, 3) := by decide +kernel
theorem dX2_told_21 : decode cX2_told 21 = .ok (.iconst 0, 1) := by decide +kernel
theorem dX2_told_22 : decode cX2_told 22 = .ok (.istore 5, 2) := by decide +kernel
theorem dX2_told_24 : decode cX2_told 24 = .ok (.iload 5, 2) := by decide +kernel
theorem dX2_told_26 : decode cX2_told 26 = .ok (.bipush 8, 2) := by decide +kernel
theorem dX2_told_28 : decode cX2_told 28 = .ok (.if_icmp .ge 124, 3) := by decide +kernel
theorem dX2_told_31 : decode cX2_told 31 = .ok (.iload_n 1, 1) := by decide +kernel
theorem dX2_told_32 : decode cX2_told 32 = .ok (.iconst 1, 1) := by decide +kernel
theorem dX2_told_33 : decode cX2_told 33 = .ok (.if_icmp .ne 16, 3) := by decide +kernel
theorem dX2_told_36 : decode cX2_told 36 = .ok (.iload_n 2, 1) := by decide +kernel
theorem dX2_told_37 : decode cX2_told 37 = .ok (.aload_n 0, 1) := by decide +kernel
theorem dX2_told_38 : decode cX2_told 38 = .ok (.getfield 14, 3) := by decide +kernel
theorem dX2_told_41 : decode cX2_told 41 = .ok (.iload 4, 2) := by decide +kernel
theorem dX2_told_43 : decode cX2_told 43 = .ok (.aaload, 1) := by decide +kernel
theorem dX2_told_44 : decode cX2_told 44 = .ok (.iload 5, 2) := by decide +kernel
theorem dX2_told_46 : decode cX2_told 46 = .ok (.iaload, 1) := by decide +kernel
theorem dX2_told_47 : decode cX2_told 47 = .ok (.iadd, 1) := by decide +kernel
theorem dX2_told_48 : decode cX2_told 48 = .ok (.istore_n 2, 1) := by decide +kernel
theorem dX2_told_49 : decode cX2_told 49 = .ok (.iload_n 1, 1) := by decide +kernel
theorem dX2_told_50 : decode cX2_told 50 = .ok (.iconst 2, 1) := by decide +kernel
theorem dX2_told_51 : decode cX2_told 51 = .ok (.if_icmp .ne 24, 3) := by decide +kernel
theorem dX2_told_54 : decode cX2_told 54 = .ok (.iload_n 2, 1) := by decide +kernel
theorem dX2_told_55 : decode cX2_told 55 = .ok (.aload_n 0, 1) := by decide +kernel
theorem dX2_told_56 : decode cX2_told 56 = .ok (.getfield 14, 3) := by decide +kernel
theorem dX2_told_59 : decode cX2_told 59 = .ok (.iload 4, 2) := by decide +kernel
theorem dX2_told_61 : decode cX2_told 61 = .ok (.aaload, 1) := by decide +kernel
theorem dX2_told_62 : decode cX2_told 62 = .ok (.iload 5, 2) := by decide +kernel
theorem dX2_told_64 : decode cX2_told 64 = .ok (.iaload, 1) := by decide +kernel
theorem dX2_told_65 : decode cX2_told 65 = .ok (.ifCond .le 7, 3) := by decide +kernel
theorem dX2_told_68 : decode cX2_told 68 = .ok (.iconst 1, 1) := by decide +kernel
theorem dX2_told_69 : decode cX2_told 69 = .ok (.goto 4, 3) := by decide +kernel
theorem dX2_told_72 : decode cX2_told 72 = .ok (.iconst 0, 1) := by decide +kernel
theorem dX2_told_73 : decode cX2_told 73 = .ok (.iadd, 1) := by decide +kernel
theorem dX2_told_74 : decode cX2_told 74 = .ok (.istore_n 2, 1) := by decide +kernel
theorem dX2_told_75 : decode cX2_told 75 = .ok (.iload_n 1, 1) := by decide +kernel
theorem dX2_told_76 : decode cX2_told 76 = .ok (.iconst 3, 1) := by decide +kernel
theorem dX2_told_77 : decode cX2_told 77 = .ok (.if_icmp .ne 24, 3) := by decide +kernel
theorem dX2_told_80 : decode cX2_told 80 = .ok (.iload_n 2, 1) := by decide +kernel
theorem dX2_told_81 : decode cX2_told 81 = .ok (.aload_n 0, 1) := by decide +kernel
theorem dX2_told_82 : decode cX2_told 82 = .ok (.getfield 17, 3) := by decide +kernel
theorem dX2_told_85 : decode cX2_told 85 = .ok (.iload 4, 2) := by decide +kernel
theorem dX2_told_87 : decode cX2_told 87 = .ok (.aaload, 1) := by decide +kernel
theorem dX2_told_88 : decode cX2_told 88 = .ok (.iload 5, 2) := by decide +kernel
theorem dX2_told_90 : decode cX2_told 90 = .ok (.iaload, 1) := by decide +kernel
theorem dX2_told_91 : decode cX2_told 91 = .ok (.ifCond .le 7, 3) := by decide +kernel
theorem dX2_told_94 : decode cX2_told 94 = .ok (.iconst 1, 1) := by decide +kernel
theorem dX2_told_95 : decode cX2_told 95 = .ok (.goto 4, 3) := by decide +kernel
theorem dX2_told_98 : decode cX2_told 98 = .ok (.iconst 0, 1) := by decide +kernel
theorem dX2_told_99 : decode cX2_told 99 = .ok (.iadd, 1) := by decide +kernel
theorem dX2_told_100 : decode cX2_told 100 = .ok (.istore_n 2, 1) := by decide +kernel
theorem dX2_told_101 : decode cX2_told 101 = .ok (.iload_n 1, 1) := by decide +kernel
theorem dX2_told_102 : decode cX2_told 102 = .ok (.bipush 6, 2) := by decide +kernel
theorem dX2_told_104 : decode cX2_told 104 = .ok (.if_icmp .ne 16, 3) := by decide +kernel
theorem dX2_told_107 : decode cX2_told 107 = .ok (.iload_n 2, 1) := by decide +kernel
theorem dX2_told_108 : decode cX2_told 108 = .ok (.aload_n 0, 1) := by decide +kernel
theorem dX2_told_109 : decode cX2_told 109 = .ok (.getfield 26, 3) := by decide +kernel
theorem dX2_told_112 : decode cX2_told 112 = .ok (.iload 4, 2) := by decide +kernel
theorem dX2_told_114 : decode cX2_told 114 = .ok (.aaload, 1) := by decide +kernel
theorem dX2_told_115 : decode cX2_told 115 = .ok (.iload 5, 2) := by decide +kernel
theorem dX2_told_117 : decode cX2_told 117 = .ok (.iaload, 1) := by decide +kernel
theorem dX2_told_118 : decode cX2_told 118 = .ok (.iadd, 1) := by decide +kernel
theorem dX2_told_119 : decode cX2_told 119 = .ok (.istore_n 2, 1) := by decide +kernel
theorem dX2_told_120 : decode cX2_told 120 = .ok (.iload_n 1, 1) := by decide +kernel
theorem dX2_told_121 : decode cX2_told 121 = .ok (.bipush 8, 2) := by decide +kernel
theorem dX2_told_123 : decode cX2_told 123 = .ok (.if_icmp .ne 23, 3) := by decide +kernel
theorem dX2_told_126 : decode cX2_told 126 = .ok (.iload_n 2, 1) := by decide +kernel
theorem dX2_told_127 : decode cX2_told 127 = .ok (.aload_n 0, 1) := by decide +kernel
theorem dX2_told_128 : decode cX2_told 128 = .ok (.aload_n 3, 1) := by decide +kernel
theorem dX2_told_129 : decode cX2_told 129 = .ok (.iload 4, 2) := by decide +kernel
theorem dX2_told_131 : decode cX2_told 131 = .ok (.iload 5, 2) := by decide +kernel
theorem dX2_told_133 : decode cX2_told 133 = .ok (.invokevirtual 55, 3) := by decide +kernel
theorem dX2_told_136 : decode cX2_told 136 = .ok (.ifCond .le 7, 3) := by decide +kernel
theorem dX2_told_139 : decode cX2_told 139 = .ok (.iconst 1, 1) := by decide +kernel
theorem dX2_told_140 : decode cX2_told 140 = .ok (.goto 4, 3) := by decide +kernel
theorem dX2_told_143 : decode cX2_told 143 = .ok (.iconst 0, 1) := by decide +kernel
theorem dX2_told_144 : decode cX2_told 144 = .ok (.iadd, 1) := by decide +kernel
theorem dX2_told_145 : decode cX2_told 145 = .ok (.istore_n 2, 1) := by decide +kernel
theorem dX2_told_146 : decode cX2_told 146 = .ok (.iinc 5 1, 3) := by decide +kernel
theorem dX2_told_149 : decode cX2_told 149 = .ok (.goto (-125), 3) := by decide +kernel
theorem dX2_told_152 : decode cX2_told 152 = .ok (.iinc 4 1, 3) := by decide +kernel
theorem dX2_told_155 : decode cX2_told 155 = .ok (.goto (-141), 3) := by decide +kernel
theorem dX2_told_158 : decode cX2_told 158 = .ok (.iload_n 1, 1) := by decide +kernel
theorem dX2_told_159 : decode cX2_told 159 = .ok (.ifCond .ne 10, 3) := by decide +kernel
theorem dX2_told_162 : decode cX2_told 162 = .ok (.aload_n 0, 1) := by decide +kernel
theorem dX2_told_163 : decode cX2_told 163 = .ok (.getfield 37, 3) := by decide +kernel
theorem dX2_told_166 : decode cX2_told 166 = .ok (.goto 41, 3) := by decide +kernel
theorem dX2_told_169 : decode cX2_told 169 = .ok (.iload_n 1, 1) := by decide +kernel
theorem dX2_told_170 : decode cX2_told 170 = .ok (.iconst 4, 1) := by decide +kernel
theorem dX2_told_171 : decode cX2_told 171 = .ok (.if_icmp .ne 10, 3) := by decide +kernel
theorem dX2_told_174 : decode cX2_told 174 = .ok (.aload_n 0, 1) := by decide +kernel
theorem dX2_told_175 : decode cX2_told 175 = .ok (.getfield 41, 3) := by decide +kernel
theorem dX2_told_178 : decode cX2_told 178 = .ok (.goto 29, 3) := by decide +kernel
theorem dX2_told_181 : decode cX2_told 181 = .ok (.iload_n 1, 1) := by decide +kernel
theorem dX2_told_182 : decode cX2_told 182 = .ok (.iconst 5, 1) := by decide +kernel
theorem dX2_told_183 : decode cX2_told 183 = .ok (.if_icmp .ne 10, 3) := by decide +kernel
theorem dX2_told_186 : decode cX2_told 186 = .ok (.aload_n 0, 1) := by decide +kernel
theorem dX2_told_187 : decode cX2_told 187 = .ok (.getfield 44, 3) := by decide +kernel
theorem dX2_told_190 : decode cX2_told 190 = .ok (.goto 17, 3) := by decide +kernel
theorem dX2_told_193 : decode cX2_told 193 = .ok (.iload_n 1, 1) := by decide +kernel
theorem dX2_told_194 : decode cX2_told 194 = .ok (.bipush 7, 2) := by decide +kernel
theorem dX2_told_196 : decode cX2_told 196 = .ok (.if_icmp .ne 10, 3) := by decide +kernel
theorem dX2_told_199 : decode cX2_told 199 = .ok (.aload_n 0, 1) := by decide +kernel
theorem dX2_told_200 : decode cX2_told 200 = .ok (.getfield 47, 3) := by decide +kernel
theorem dX2_told_203 : decode cX2_told 203 = .ok (.goto 4, 3) := by decide +kernel
theorem dX2_told_206 : decode cX2_told 206 = .ok (.iload_n 2, 1) := by decide +kernel
theorem dX2_told_207 : decode cX2_told 207 = .ok (.ireturn, 1) := by decide +kernel
set_option maxRecDepth 20000 in
theorem ggX2_isSame_X2_crest : GoodIn wsX2_isSame wsX2_crest := goodIn_r _ [12, 3, 4, 2, 116, 117, 118, 119, 120, 121, 122, 123, 124, 125, 126] (by decide +kernel) (by decide +kernel)
set_option maxRecDepth 20000 in
theorem gX2_isSame_X2_crest : GoodIn wsX2_isSame (wsV RX2 51 RX2 yX2_crest wsX2_crest) := goodIn_app (goodIn_of _ (by decide +kernel)) ggX2_isSame_X2_crest
set_option maxRecDepth 20000 in
theorem ggX2_isSame_X1_cell : GoodIn wsX2_isSame wsX1_cell := goodIn_ca (goodIn_r _ [17, 18, 19, 20, 16, 21, 22, 23, 24, 25, 26, 27, 28, 29, 30, 31, 32, 33, 34, 35, 36, 37, 38, 39, 40, 41, 42, 43, 44, 45, 46, 47, 48, 49, 127, 128, 129, 130, 131, 132, 133, 134, 135, 136, 137, 138, 139, 140, 141, 142, 143] (by decide +kernel) (by decide +kernel)) (goodIn_sub (fun _ h => List.mem_cons_of_mem _ (List.mem_append_right _ h)) (by decide +kernel))
set_option maxRecDepth 20000 in
theorem gX2_isSame_X1_cell : GoodIn wsX2_isSame (wsV RX2 61 RX1 yX1_cell wsX1_cell) := goodIn_app (goodIn_of _ (by decide +kernel)) ggX2_isSame_X1_cell
set_option maxRecDepth 20000 in
theorem ggX2_isSame_X1_count : GoodIn wsX2_isSame wsX1_count := goodIn_ca (goodIn_r _ [53, 18, 22, 23, 16, 24, 25, 26, 54, 55, 56, 30, 57, 58, 33, 34, 59, 60, 37, 61, 62, 63, 64, 65, 66, 67, 68, 69, 70, 71, 72, 73, 74, 75, 76, 77, 78, 79, 80, 81, 82, 83, 84, 85, 86, 87, 88, 89, 90, 91, 92, 93, 94, 127, 128, 129, 130, 131, 132, 133, 134, 135, 136, 137, 138, 139, 140, 141, 142, 143] (by decide +kernel) (by decide +kernel)) (goodIn_sub (fun _ h => List.mem_cons_of_mem _ (List.mem_append_right _ h)) (by decide +kernel))
set_option maxRecDepth 20000 in
theorem gX2_isSame_X1_count : GoodIn wsX2_isSame (wsV RX2 67 RX1 yX1_count wsX1_count) := goodIn_app (goodIn_of _ (by decide +kernel)) ggX2_isSame_X1_count
set_option maxRecDepth 20000 in
theorem ggX2_isSame_X2_told : GoodIn wsX2_isSame wsX2_told := goodIn_r _ [98, 99, 100, 3, 4, 7, 101, 102, 103, 104, 105, 106, 107, 11, 108, 116, 117, 118, 119, 120, 121, 122, 123, 124, 125, 126] (by decide +kernel) (by decide +kernel)
set_option maxRecDepth 20000 in
theorem gX2_isSame_X2_told : GoodIn wsX2_isSame (wsV RX2 71 RX2 yX2_told wsX2_told) := goodIn_app (goodIn_of _ (by decide +kernel)) ggX2_isSame_X2_told
set_option maxRecDepth 20000 in
theorem ggX2_isSame_X1_mean : GoodIn wsX2_isSame wsX1_mean := goodIn_r _ [112, 18, 113, 114, 67, 68, 30, 69, 33, 70, 71, 72, 73, 115, 63, 64, 65, 127, 128, 129, 130, 131, 132, 133, 134, 135, 136, 137, 138, 139, 140, 141, 142, 143] (by decide +kernel) (by decide +kernel)
set_option maxRecDepth 20000 in
theorem gX2_isSame_X1_mean : GoodIn wsX2_isSame (wsV RX2 74 RX1 yX1_mean wsX1_mean) := goodIn_app (goodIn_of _ (by decide +kernel)) ggX2_isSame_X1_mean
theorem dX2_isSame_0 : decode cX2_isSame 0 = .ok (.iconst 0, 1) := by decide +kernel
theorem dX2_isSame_1 : decode cX2_isSame 1 = .ok (.istore_n 2, 1) := by decide +kernel
theorem dX2_isSame_2 : decode cX2_isSame 2 = .ok (.iload_n 2, 1) := by decide +kernel
theorem dX2_isSame_3 : decode cX2_isSame 3 = .ok (.bipush 8, 2) := by decide +kernel
theorem dX2_isSame_5 : decode cX2_isSame 5 = .ok (.if_icmp .ge 160, 3) := by decide +kernel
theorem dX2_isSame_8 : decode cX2_isSame 8 = .ok (.iconst 0, 1) := by decide +kernel
theorem dX2_isSame_9 : decode cX2_isSame 9 = .ok (.istore_n 3, 1) := by decide +kernel
theorem dX2_isSame_10 : decode cX2_isSame 10 = .ok (.iload_n 3, 1) := by decide +kernel
theorem dX2_isSame_11 : decode cX2_isSame 11 = .ok (.bipush 8, 2) := by decide +kernel
theorem dX2_isSame_13 : decode cX2_isSame 13 = .ok (.if_icmp .ge 146, 3) := by decide +kernel
theorem dX2_isSame_16 : decode cX2_isSame 16 = .ok (.bipush 8, 2) := by decide +kernel
theorem dX2_isSame_18 : decode cX2_isSame 18 = .ok (.newarray .int, 2) := by decide +kernel
theorem dX2_isSame_20 : decode cX2_isSame 20 = .ok (.dup, 1) := by decide +kernel
theorem dX2_isSame_21 : decode cX2_isSame 21 = .ok (.iconst 0, 1) := by decide +kernel
theorem dX2_isSame_22 : decode cX2_isSame 22 = .ok (.aload_n 0, 1) := by decide +kernel
theorem dX2_isSame_23 : decode cX2_isSame 23 = .ok (.getfield 9, 3) := by decide +kernel
theorem dX2_isSame_26 : decode cX2_isSame 26 = .ok (.iload_n 2, 1) := by decide +kernel
theorem dX2_isSame_27 : decode cX2_isSame 27 = .ok (.aaload, 1) := by decide +kernel
theorem dX2_isSame_28 : decode cX2_isSame 28 = .ok (.iload_n 3, 1) := by decide +kernel
theorem dX2_isSame_29 : decode cX2_isSame 29 = .ok (.iaload, 1) := by decide +kernel
theorem dX2_isSame_30 : decode cX2_isSame 30 = .ok (.iastore, 1) := by decide +kernel
theorem dX2_isSame_31 : decode cX2_isSame 31 = .ok (.dup, 1) := by decide +kernel
theorem dX2_isSame_32 : decode cX2_isSame 32 = .ok (.iconst 1, 1) := by decide +kernel
theorem dX2_isSame_33 : decode cX2_isSame 33 = .ok (.aload_n 0, 1) := by decide +kernel
theorem dX2_isSame_34 : decode cX2_isSame 34 = .ok (.getfield 14, 3) := by decide +kernel
theorem dX2_isSame_37 : decode cX2_isSame 37 = .ok (.iload_n 2, 1) := by decide +kernel
theorem dX2_isSame_38 : decode cX2_isSame 38 = .ok (.aaload, 1) := by decide +kernel
theorem dX2_isSame_39 : decode cX2_isSame 39 = .ok (.iload_n 3, 1) := by decide +kernel
theorem dX2_isSame_40 : decode cX2_isSame 40 = .ok (.iaload, 1) := by decide +kernel
theorem dX2_isSame_41 : decode cX2_isSame 41 = .ok (.iastore, 1) := by decide +kernel
theorem dX2_isSame_42 : decode cX2_isSame 42 = .ok (.dup, 1) := by decide +kernel
theorem dX2_isSame_43 : decode cX2_isSame 43 = .ok (.iconst 2, 1) := by decide +kernel
theorem dX2_isSame_44 : decode cX2_isSame 44 = .ok (.aload_n 0, 1) := by decide +kernel
theorem dX2_isSame_45 : decode cX2_isSame 45 = .ok (.getfield 17, 3) := by decide +kernel
theorem dX2_isSame_48 : decode cX2_isSame 48 = .ok (.iload_n 2, 1) := by decide +kernel
theorem dX2_isSame_49 : decode cX2_isSame 49 = .ok (.aaload, 1) := by decide +kernel
theorem dX2_isSame_50 : decode cX2_isSame 50 = .ok (.iload_n 3, 1) := by decide +kernel
theorem dX2_isSame_51 : decode cX2_isSame 51 = .ok (.iaload, 1) := by decide +kernel
theorem dX2_isSame_52 : decode cX2_isSame 52 = .ok (.iastore, 1) := by decide +kernel
theorem dX2_isSame_53 : decode cX2_isSame 53 = .ok (.dup, 1) := by decide +kernel
theorem dX2_isSame_54 : decode cX2_isSame 54 = .ok (.iconst 3, 1) := by decide +kernel
theorem dX2_isSame_55 : decode cX2_isSame 55 = .ok (.aload_n 0, 1) := by decide +kernel
theorem dX2_isSame_56 : decode cX2_isSame 56 = .ok (.getfield 20, 3) := by decide +kernel
theorem dX2_isSame_59 : decode cX2_isSame 59 = .ok (.iload_n 2, 1) := by decide +kernel
theorem dX2_isSame_60 : decode cX2_isSame 60 = .ok (.aaload, 1) := by decide +kernel
theorem dX2_isSame_61 : decode cX2_isSame 61 = .ok (.iload_n 3, 1) := by decide +kernel
theorem dX2_isSame_62 : decode cX2_isSame 62 = .ok (.iaload, 1) := by decide +kernel
theorem dX2_isSame_63 : decode cX2_isSame 63 = .ok (.iastore, 1) := by decide +kernel
theorem dX2_isSame_64 : decode cX2_isSame 64 = .ok (.dup, 1) := by decide +kernel
theorem dX2_isSame_65 : decode cX2_isSame 65 = .ok (.iconst 4, 1) := by decide +kernel
theorem dX2_isSame_66 : decode cX2_isSame 66 = .ok (.aload_n 0, 1) := by decide +kernel
theorem dX2_isSame_67 : decode cX2_isSame 67 = .ok (.getfield 23, 3) := by decide +kernel
theorem dX2_isSame_70 : decode cX2_isSame 70 = .ok (.iload_n 2, 1) := by decide +kernel
theorem dX2_isSame_71 : decode cX2_isSame 71 = .ok (.aaload, 1) := by decide +kernel
theorem dX2_isSame_72 : decode cX2_isSame 72 = .ok (.iload_n 3, 1) := by decide +kernel
theorem dX2_isSame_73 : decode cX2_isSame 73 = .ok (.iaload, 1) := by decide +kernel
theorem dX2_isSame_74 : decode cX2_isSame 74 = .ok (.iastore, 1) := by decide +kernel
theorem dX2_isSame_75 : decode cX2_isSame 75 = .ok (.dup, 1) := by decide +kernel
theorem dX2_isSame_76 : decode cX2_isSame 76 = .ok (.iconst 5, 1) := by decide +kernel
theorem dX2_isSame_77 : decode cX2_isSame 77 = .ok (.aload_n 0, 1) := by decide +kernel
theorem dX2_isSame_78 : decode cX2_isSame 78 = .ok (.getfield 26, 3) := by decide +kernel
theorem dX2_isSame_81 : decode cX2_isSame 81 = .ok (.iload_n 2, 1) := by decide +kernel
theorem dX2_isSame_82 : decode cX2_isSame 82 = .ok (.aaload, 1) := by decide +kernel
theorem dX2_isSame_83 : decode cX2_isSame 83 = .ok (.iload_n 3, 1) := by decide +kernel
theorem dX2_isSame_84 : decode cX2_isSame 84 = .ok (.iaload, 1) := by decide +kernel
theorem dX2_isSame_85 : decode cX2_isSame 85 = .ok (.iastore, 1) := by decide +kernel
theorem dX2_isSame_86 : decode cX2_isSame 86 = .ok (.dup, 1) := by decide +kernel
theorem dX2_isSame_87 : decode cX2_isSame 87 = .ok (.bipush 6, 2) := by decide +kernel
theorem dX2_isSame_89 : decode cX2_isSame 89 = .ok (.aload_n 0, 1) := by decide +kernel
theorem dX2_isSame_90 : decode cX2_isSame 90 = .ok (.getfield 9, 3) := by decide +kernel
theorem dX2_isSame_93 : decode cX2_isSame 93 = .ok (.iload_n 2, 1) := by decide +kernel
theorem dX2_isSame_94 : decode cX2_isSame 94 = .ok (.aaload, 1) := by decide +kernel
theorem dX2_isSame_95 : decode cX2_isSame 95 = .ok (.iload_n 3, 1) := by decide +kernel
theorem dX2_isSame_96 : decode cX2_isSame 96 = .ok (.iaload, 1) := by decide +kernel
theorem dX2_isSame_97 : decode cX2_isSame 97 = .ok (.aload_n 0, 1) := by decide +kernel
theorem dX2_isSame_98 : decode cX2_isSame 98 = .ok (.getfield 14, 3) := by decide +kernel
theorem dX2_isSame_101 : decode cX2_isSame 101 = .ok (.iload_n 2, 1) := by decide +kernel
theorem dX2_isSame_102 : decode cX2_isSame 102 = .ok (.aaload, 1) := by decide +kernel
theorem dX2_isSame_103 : decode cX2_isSame 103 = .ok (.iload_n 3, 1) := by decide +kernel
theorem dX2_isSame_104 : decode cX2_isSame 104 = .ok (.iaload, 1) := by decide +kernel
theorem dX2_isSame_105 : decode cX2_isSame 105 = .ok (.iadd, 1) := by decide +kernel
theorem dX2_isSame_106 : decode cX2_isSame 106 = .ok (.iastore, 1) := by decide +kernel
theorem dX2_isSame_107 : decode cX2_isSame 107 = .ok (.dup, 1) := by decide +kernel
theorem dX2_isSame_108 : decode cX2_isSame 108 = .ok (.bipush 7, 2) := by decide +kernel
theorem dX2_isSame_110 : decode cX2_isSame 110 = .ok (.aload_n 0, 1) := by decide +kernel
theorem dX2_isSame_111 : decode cX2_isSame 111 = .ok (.iload_n 2, 1) := by decide +kernel
theorem dX2_isSame_112 : decode cX2_isSame 112 = .ok (.iload_n 3, 1) := by decide +kernel
theorem dX2_isSame_113 : decode cX2_isSame 113 = .ok (.invokevirtual 51, 3) := by decide +kernel
theorem dX2_isSame_116 : decode cX2_isSame 116 = .ok (.iastore, 1) := by decide +kernel
theorem dX2_isSame_117 : decode cX2_isSame 117 = .ok (.astore 4, 2) := by decide +kernel
theorem dX2_isSame_119 : decode cX2_isSame 119 = .ok (.iconst 0, 1) := by decide +kernel
theorem dX2_isSame_120 : decode cX2_isSame 120 = .ok (.istore 5, 2) := by decide +kernel
theorem dX2_isSame_122 : decode cX2_isSame 122 = .ok (.iload 5, 2) := by decide +kernel
theorem dX2_isSame_124 : decode cX2_isSame 124 = .ok (.bipush 8, 2) := by decide +kernel
theorem dX2_isSame_126 : decode cX2_isSame 126 = .ok (.if_icmp .ge 27, 3) := by decide +kernel
theorem dX2_isSame_129 : decode cX2_isSame 129 = .ok (.aload_n 1, 1) := by decide +kernel
theorem dX2_isSame_130 : decode cX2_isSame 130 = .ok (.iload_n 2, 1) := by decide +kernel
theorem dX2_isSame_131 : decode cX2_isSame 131 = .ok (.iload_n 3, 1) := by decide +kernel
theorem dX2_isSame_132 : decode cX2_isSame 132 = .ok (.iload 5, 2) := by decide +kernel
theorem dX2_isSame_134 : decode cX2_isSame 134 = .ok (.invokevirtual 61, 3) := by decide +kernel
theorem dX2_isSame_137 : decode cX2_isSame 137 = .ok (.aload 4, 2) := by decide +kernel
theorem dX2_isSame_139 : decode cX2_isSame 139 = .ok (.iload 5, 2) := by decide +kernel
theorem dX2_isSame_141 : decode cX2_isSame 141 = .ok (.iaload, 1) := by decide +kernel
theorem dX2_isSame_142 : decode cX2_isSame 142 = .ok (.if_icmp .eq 5, 3) := by decide +kernel
theorem dX2_isSame_145 : decode cX2_isSame 145 = .ok (.iconst 0, 1) := by decide +kernel
theorem dX2_isSame_146 : decode cX2_isSame 146 = .ok (.ireturn, 1) := by decide +kernel
theorem dX2_isSame_147 : decode cX2_isSame 147 = .ok (.iinc 5 1, 3) := by decide +kernel
theorem dX2_isSame_150 : decode cX2_isSame 150 = .ok (.goto (-28), 3) := by decide +kernel
theorem dX2_isSame_153 : decode cX2_isSame 153 = .ok (.iinc 3 1, 3) := by decide +kernel
theorem dX2_isSame_156 : decode cX2_isSame 156 = .ok (.goto (-146), 3) := by decide +kernel
theorem dX2_isSame_159 : decode cX2_isSame 159 = .ok (.iinc 2 1, 3) := by decide +kernel
theorem dX2_isSame_162 : decode cX2_isSame 162 = .ok (.goto (-160), 3) := by decide +kernel
theorem dX2_isSame_165 : decode cX2_isSame 165 = .ok (.iconst 0, 1) := by decide +kernel
theorem dX2_isSame_166 : decode cX2_isSame 166 = .ok (.istore_n 2, 1) := by decide +kernel
theorem dX2_isSame_167 : decode cX2_isSame 167 = .ok (.iload_n 2, 1) := by decide +kernel
theorem dX2_isSame_168 : decode cX2_isSame 168 = .ok (.bipush 9, 2) := by decide +kernel
theorem dX2_isSame_170 : decode cX2_isSame 170 = .ok (.if_icmp .ge 24, 3) := by decide +kernel
theorem dX2_isSame_173 : decode cX2_isSame 173 = .ok (.aload_n 1, 1) := by decide +kernel
theorem dX2_isSame_174 : decode cX2_isSame 174 = .ok (.iload_n 2, 1) := by decide +kernel
theorem dX2_isSame_175 : decode cX2_isSame 175 = .ok (.invokevirtual 67, 3) := by decide +kernel
theorem dX2_isSame_178 : decode cX2_isSame 178 = .ok (.aload_n 0, 1) := by decide +kernel
theorem dX2_isSame_179 : decode cX2_isSame 179 = .ok (.iload_n 2, 1) := by decide +kernel
theorem dX2_isSame_180 : decode cX2_isSame 180 = .ok (.invokevirtual 71, 3) := by decide +kernel
theorem dX2_isSame_183 : decode cX2_isSame 183 = .ok (.if_icmp .eq 5, 3) := by decide +kernel
theorem dX2_isSame_186 : decode cX2_isSame 186 = .ok (.iconst 0, 1) := by decide +kernel
theorem dX2_isSame_187 : decode cX2_isSame 187 = .ok (.ireturn, 1) := by decide +kernel
theorem dX2_isSame_188 : decode cX2_isSame 188 = .ok (.iinc 2 1, 3) := by decide +kernel
theorem dX2_isSame_191 : decode cX2_isSame 191 = .ok (.goto (-24), 3) := by decide +kernel
theorem dX2_isSame_194 : decode cX2_isSame 194 = .ok (.aload_n 1, 1) := by decide +kernel
theorem dX2_isSame_195 : decode cX2_isSame 195 = .ok (.invokevirtual 74, 3) := by decide +kernel
theorem dX2_isSame_198 : decode cX2_isSame 198 = .ok (.aload_n 0, 1) := by decide +kernel
theorem dX2_isSame_199 : decode cX2_isSame 199 = .ok (.iconst 2, 1) := by decide +kernel
theorem dX2_isSame_200 : decode cX2_isSame 200 = .ok (.invokevirtual 71, 3) := by decide +kernel
theorem dX2_isSame_203 : decode cX2_isSame 203 = .ok (.ifCond .ne 7, 3) := by decide +kernel
theorem dX2_isSame_206 : decode cX2_isSame 206 = .ok (.dconst 0, 1) := by decide +kernel
theorem dX2_isSame_207 : decode cX2_isSame 207 = .ok (.goto 16, 3) := by decide +kernel
theorem dX2_isSame_210 : decode cX2_isSame 210 = .ok (.aload_n 0, 1) := by decide +kernel
theorem dX2_isSame_211 : decode cX2_isSame 211 = .ok (.iconst 1, 1) := by decide +kernel
theorem dX2_isSame_212 : decode cX2_isSame 212 = .ok (.invokevirtual 71, 3) := by decide +kernel
theorem dX2_isSame_215 : decode cX2_isSame 215 = .ok (.i2d, 1) := by decide +kernel
theorem dX2_isSame_216 : decode cX2_isSame 216 = .ok (.aload_n 0, 1) := by decide +kernel
theorem dX2_isSame_217 : decode cX2_isSame 217 = .ok (.iconst 2, 1) := by decide +kernel
theorem dX2_isSame_218 : decode cX2_isSame 218 = .ok (.invokevirtual 71, 3) := by decide +kernel
theorem dX2_isSame_221 : decode cX2_isSame 221 = .ok (.i2d, 1) := by decide +kernel
theorem dX2_isSame_222 : decode cX2_isSame 222 = .ok (.ddiv, 1) := by decide +kernel
theorem dX2_isSame_223 : decode cX2_isSame 223 = .ok (.dcmp .l, 1) := by decide +kernel
theorem dX2_isSame_224 : decode cX2_isSame 224 = .ok (.ifCond .ne 7, 3) := by decide +kernel
theorem dX2_isSame_227 : decode cX2_isSame 227 = .ok (.iconst 1, 1) := by decide +kernel
theorem dX2_isSame_228 : decode cX2_isSame 228 = .ok (.goto 4, 3) := by decide +kernel
theorem dX2_isSame_231 : decode cX2_isSame 231 = .ok (.iconst 0, 1) := by decide +kernel
theorem dX2_isSame_232 : decode cX2_isSame 232 = .ok (.ireturn, 1) := by decide +kernel
