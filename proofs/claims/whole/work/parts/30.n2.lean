theorem dX2_init_0 : decode cX2_init 0 = .ok (.aload_n 0, 1) := by decide +kernel
theorem dX2_init_1 : decode cX2_init 1 = .ok (.invokespecial 1, 3) := by decide +kernel
theorem dX2_init_4 : decode cX2_init 4 = .ok (.aload_n 0, 1) := by decide +kernel
theorem dX2_init_5 : decode cX2_init 5 = .ok (.bipush 64, 2) := by decide +kernel
theorem dX2_init_7 : decode cX2_init 7 = .ok (.newarray .int, 2) := by decide +kernel
theorem dX2_init_9 : decode cX2_init 9 = .ok (.putfield 9, 3) := by decide +kernel
theorem dX2_init_12 : decode cX2_init 12 = .ok (.aload_n 0, 1) := by decide +kernel
theorem dX2_init_13 : decode cX2_init 13 = .ok (.bipush 64, 2) := by decide +kernel
theorem dX2_init_15 : decode cX2_init 15 = .ok (.newarray .int, 2) := by decide +kernel
theorem dX2_init_17 : decode cX2_init 17 = .ok (.putfield 13, 3) := by decide +kernel
theorem dX2_init_20 : decode cX2_init 20 = .ok (.aload_n 0, 1) := by decide +kernel
theorem dX2_init_21 : decode cX2_init 21 = .ok (.bipush 64, 2) := by decide +kernel
theorem dX2_init_23 : decode cX2_init 23 = .ok (.newarray .int, 2) := by decide +kernel
theorem dX2_init_25 : decode cX2_init 25 = .ok (.putfield 16, 3) := by decide +kernel
theorem dX2_init_28 : decode cX2_init 28 = .ok (.aload_n 0, 1) := by decide +kernel
theorem dX2_init_29 : decode cX2_init 29 = .ok (.bipush 64, 2) := by decide +kernel
theorem dX2_init_31 : decode cX2_init 31 = .ok (.newarray .int, 2) := by decide +kernel
theorem dX2_init_33 : decode cX2_init 33 = .ok (.putfield 19, 3) := by decide +kernel
theorem dX2_init_36 : decode cX2_init 36 = .ok (.aload_n 0, 1) := by decide +kernel
theorem dX2_init_37 : decode cX2_init 37 = .ok (.bipush 64, 2) := by decide +kernel
theorem dX2_init_39 : decode cX2_init 39 = .ok (.newarray .int, 2) := by decide +kernel
theorem dX2_init_41 : decode cX2_init 41 = .ok (.putfield 22, 3) := by decide +kernel
theorem dX2_init_44 : decode cX2_init 44 = .ok (.aload_n 0, 1) := by decide +kernel
theorem dX2_init_45 : decode cX2_init 45 = .ok (.bipush 64, 2) := by decide +kernel
theorem dX2_init_47 : decode cX2_init 47 = .ok (.newarray .int, 2) := by decide +kernel
theorem dX2_init_49 : decode cX2_init 49 = .ok (.putfield 25, 3) := by decide +kernel
theorem dX2_init_52 : decode cX2_init 52 = .ok (.aload_n 0, 1) := by decide +kernel
theorem dX2_init_53 : decode cX2_init 53 = .ok (.bipush 12, 2) := by decide +kernel
theorem dX2_init_55 : decode cX2_init 55 = .ok (.newarray .int, 2) := by decide +kernel
theorem dX2_init_57 : decode cX2_init 57 = .ok (.putfield 28, 3) := by decide +kernel
theorem dX2_init_60 : decode cX2_init 60 = .ok (.aload_n 0, 1) := by decide +kernel
theorem dX2_init_61 : decode cX2_init 61 = .ok (.iconst 4, 1) := by decide +kernel
theorem dX2_init_62 : decode cX2_init 62 = .ok (.newarray .int, 2) := by decide +kernel
theorem dX2_init_64 : decode cX2_init 64 = .ok (.putfield 31, 3) := by decide +kernel
theorem dX2_init_67 : decode cX2_init 67 = .ok (.aload_n 0, 1) := by decide +kernel
theorem dX2_init_68 : decode cX2_init 68 = .ok (.bipush 64, 2) := by decide +kernel
theorem dX2_init_70 : decode cX2_init 70 = .ok (.newarray .int, 2) := by decide +kernel
theorem dX2_init_72 : decode cX2_init 72 = .ok (.putfield 34, 3) := by decide +kernel
theorem dX2_init_75 : decode cX2_init 75 = .ok (.aload_n 0, 1) := by decide +kernel
theorem dX2_init_76 : decode cX2_init 76 = .ok (.bipush 64, 2) := by decide +kernel
theorem dX2_init_78 : decode cX2_init 78 = .ok (.newarray .int, 2) := by decide +kernel
theorem dX2_init_80 : decode cX2_init 80 = .ok (.putfield 37, 3) := by decide +kernel
theorem dX2_init_83 : decode cX2_init 83 = .ok (.aload_n 0, 1) := by decide +kernel
theorem dX2_init_84 : decode cX2_init 84 = .ok (.bipush 64, 2) := by decide +kernel
theorem dX2_init_86 : decode cX2_init 86 = .ok (.newarray .int, 2) := by decide +kernel
theorem dX2_init_88 : decode cX2_init 88 = .ok (.putfield 40, 3) := by decide +kernel
theorem dX2_init_91 : decode cX2_init 91 = .ok (.iconst 0, 1) := by decide +kernel
theorem dX2_init_92 : decode cX2_init 92 = .ok (.istore_n 1, 1) := by decide +kernel
theorem dX2_init_93 : decode cX2_init 93 = .ok (.iload_n 1, 1) := by decide +kernel
theorem dX2_init_94 : decode cX2_init 94 = .ok (.bipush 64, 2) := by decide +kernel
theorem dX2_init_96 : decode cX2_init 96 = .ok (.if_icmp .ge 17, 3) := by decide +kernel
theorem dX2_init_99 : decode cX2_init 99 = .ok (.aload_n 0, 1) := by decide +kernel
theorem dX2_init_100 : decode cX2_init 100 = .ok (.getfield 9, 3) := by decide +kernel
theorem dX2_init_103 : decode cX2_init 103 = .ok (.iload_n 1, 1) := by decide +kernel
theorem dX2_init_104 : decode cX2_init 104 = .ok (.bipush 10, 2) := by decide +kernel
theorem dX2_init_106 : decode cX2_init 106 = .ok (.iastore, 1) := by decide +kernel
theorem dX2_init_107 : decode cX2_init 107 = .ok (.iinc 1 1, 3) := by decide +kernel
theorem dX2_init_110 : decode cX2_init 110 = .ok (.goto (-17), 3) := by decide +kernel
theorem dX2_init_113 : decode cX2_init 113 = .ok (.return_, 1) := by decide +kernel
theorem dX2_thrown_0 : decode cX2_thrown 0 = .ok (.aload_n 0, 1) := by decide +kernel
theorem dX2_thrown_1 : decode cX2_thrown 1 = .ok (.getfield 43, 3) := by decide +kernel
theorem dX2_thrown_4 : decode cX2_thrown 4 = .ok (.ireturn, 1) := by decide +kernel
theorem dX2_fail_0 : decode cX2_fail 0 = .ok (.aload_n 0, 1) := by decide +kernel
theorem dX2_fail_1 : decode cX2_fail 1 = .ok (.iload_n 1, 1) := by decide +kernel
theorem dX2_fail_2 : decode cX2_fail 2 = .ok (.putfield 43, 3) := by decide +kernel
theorem dX2_fail_5 : decode cX2_fail 5 = .ok (.iconst 0, 1) := by decide +kernel
theorem dX2_fail_6 : decode cX2_fail 6 = .ok (.ireturn, 1) := by decide +kernel
theorem dX2_isIn_0 : decode cX2_isIn 0 = .ok (.iload_n 0, 1) := by decide +kernel
theorem dX2_isIn_1 : decode cX2_isIn 1 = .ok (.iload_n 1, 1) := by decide +kernel
theorem dX2_isIn_2 : decode cX2_isIn 2 = .ok (.if_icmp .lt 12, 3) := by decide +kernel
theorem dX2_isIn_5 : decode cX2_isIn 5 = .ok (.iload_n 0, 1) := by decide +kernel
theorem dX2_isIn_6 : decode cX2_isIn 6 = .ok (.iload_n 2, 1) := by decide +kernel
theorem dX2_isIn_7 : decode cX2_isIn 7 = .ok (.if_icmp .gt 7, 3) := by decide +kernel
theorem dX2_isIn_10 : decode cX2_isIn 10 = .ok (.iconst 1, 1) := by decide +kernel
theorem dX2_isIn_11 : decode cX2_isIn 11 = .ok (.goto 4, 3) := by decide +kernel
theorem dX2_isIn_14 : decode cX2_isIn 14 = .ok (.iconst 0, 1) := by decide +kernel
theorem dX2_isIn_15 : decode cX2_isIn 15 = .ok (.ireturn, 1) := by decide +kernel
set_option maxRecDepth 20000 in
theorem ggX2_isCell_X2_isIn : GoodIn wsX2_isCell wsX2_isIn := goodIn_r _ [4] (by decide +kernel) (by decide +kernel)
set_option maxRecDepth 20000 in
theorem gX2_isCell_X2_isIn : GoodIn wsX2_isCell (va_wsS RX2 47 yX2_isIn wsX2_isIn) := goodIn_app (goodIn_of _ (by decide +kernel)) ggX2_isCell_X2_isIn
theorem dX2_isCell_0 : decode cX2_isCell 0 = .ok (.iload_n 0, 1) := by decide +kernel
theorem dX2_isCell_1 : decode cX2_isCell 1 = .ok (.iconst 0, 1) := by decide +kernel
theorem dX2_isCell_2 : decode cX2_isCell 2 = .ok (.bipush 7, 2) := by decide +kernel
theorem dX2_isCell_4 : decode cX2_isCell 4 = .ok (.invokestatic 47, 3) := by decide +kernel
theorem dX2_isCell_7 : decode cX2_isCell 7 = .ok (.ifCond .eq 17, 3) := by decide +kernel
theorem dX2_isCell_10 : decode cX2_isCell 10 = .ok (.iload_n 1, 1) := by decide +kernel
theorem dX2_isCell_11 : decode cX2_isCell 11 = .ok (.iconst 0, 1) := by decide +kernel
theorem dX2_isCell_12 : decode cX2_isCell 12 = .ok (.bipush 7, 2) := by decide +kernel
theorem dX2_isCell_14 : decode cX2_isCell 14 = .ok (.invokestatic 47, 3) := by decide +kernel
theorem dX2_isCell_17 : decode cX2_isCell 17 = .ok (.ifCond .eq 7, 3) := by decide +kernel
theorem dX2_isCell_20 : decode cX2_isCell 20 = .ok (.iconst 1, 1) := by decide +kernel
theorem dX2_isCell_21 : decode cX2_isCell 21 = .ok (.goto 4, 3) := by decide +kernel
theorem dX2_isCell_24 : decode cX2_isCell 24 = .ok (.iconst 0, 1) := by decide +kernel
theorem dX2_isCell_25 : decode cX2_isCell 25 = .ok (.ireturn, 1) := by decide +kernel
set_option maxRecDepth 20000 in
theorem ggX2_set_X2_isCell : GoodIn wsX2_set wsX2_isCell := goodIn_r _ [5, 6, 7, 4, 8] (by decide +kernel) (by decide +kernel)
set_option maxRecDepth 20000 in
theorem gX2_set_X2_isCell : GoodIn wsX2_set (va_wsS RX2 51 yX2_isCell wsX2_isCell) := goodIn_app (goodIn_of _ (by decide +kernel)) ggX2_set_X2_isCell
set_option maxRecDepth 20000 in
theorem ggX2_set_X2_isIn : GoodIn wsX2_set wsX2_isIn := goodIn_r _ [8] (by decide +kernel) (by decide +kernel)
set_option maxRecDepth 20000 in
theorem gX2_set_X2_isIn : GoodIn wsX2_set (va_wsS RX2 47 yX2_isIn wsX2_isIn) := goodIn_app (goodIn_of _ (by decide +kernel)) ggX2_set_X2_isIn
theorem dX2_set_0 : decode cX2_set 0 = .ok (.aload_n 0, 1) := by decide +kernel
theorem dX2_set_1 : decode cX2_set 1 = .ok (.iload_n 2, 1) := by decide +kernel
theorem dX2_set_2 : decode cX2_set 2 = .ok (.iload_n 3, 1) := by decide +kernel
theorem dX2_set_3 : decode cX2_set 3 = .ok (.invokestatic 51, 3) := by decide +kernel
theorem dX2_set_6 : decode cX2_set 6 = .ok (.ifCond .ne 7, 3) := by decide +kernel
theorem dX2_set_9 : decode cX2_set 9 = .ok (.iconst 1, 1) := by decide +kernel
theorem dX2_set_10 : decode cX2_set 10 = .ok (.goto 20, 3) := by decide +kernel
theorem dX2_set_13 : decode cX2_set 13 = .ok (.iload 4, 2) := by decide +kernel
theorem dX2_set_15 : decode cX2_set 15 = .ok (.iload 5, 2) := by decide +kernel
theorem dX2_set_17 : decode cX2_set 17 = .ok (.iload 6, 2) := by decide +kernel
theorem dX2_set_19 : decode cX2_set 19 = .ok (.invokestatic 47, 3) := by decide +kernel
theorem dX2_set_22 : decode cX2_set 22 = .ok (.ifCond .ne 7, 3) := by decide +kernel
theorem dX2_set_25 : decode cX2_set 25 = .ok (.iconst 2, 1) := by decide +kernel
theorem dX2_set_26 : decode cX2_set 26 = .ok (.goto 4, 3) := by decide +kernel
theorem dX2_set_29 : decode cX2_set 29 = .ok (.iconst 0, 1) := by decide +kernel
theorem dX2_set_30 : decode cX2_set 30 = .ok (.putfield 43, 3) := by decide +kernel
theorem dX2_set_33 : decode cX2_set 33 = .ok (.aload_n 0, 1) := by decide +kernel
theorem dX2_set_34 : decode cX2_set 34 = .ok (.getfield 43, 3) := by decide +kernel
theorem dX2_set_37 : decode cX2_set 37 = .ok (.ifCond .eq 5, 3) := by decide +kernel
theorem dX2_set_40 : decode cX2_set 40 = .ok (.iconst 0, 1) := by decide +kernel
theorem dX2_set_41 : decode cX2_set 41 = .ok (.ireturn, 1) := by decide +kernel
theorem dX2_set_42 : decode cX2_set 42 = .ok (.aload_n 1, 1) := by decide +kernel
theorem dX2_set_43 : decode cX2_set 43 = .ok (.bipush 8, 2) := by decide +kernel
theorem dX2_set_45 : decode cX2_set 45 = .ok (.iload_n 3, 1) := by decide +kernel
theorem dX2_set_46 : decode cX2_set 46 = .ok (.imul, 1) := by decide +kernel
theorem dX2_set_47 : decode cX2_set 47 = .ok (.iload_n 2, 1) := by decide +kernel
theorem dX2_set_48 : decode cX2_set 48 = .ok (.iadd, 1) := by decide +kernel
theorem dX2_set_49 : decode cX2_set 49 = .ok (.iaload, 1) := by decide +kernel
theorem dX2_set_50 : decode cX2_set 50 = .ok (.istore 7, 2) := by decide +kernel
theorem dX2_set_52 : decode cX2_set 52 = .ok (.aload_n 1, 1) := by decide +kernel
theorem dX2_set_53 : decode cX2_set 53 = .ok (.bipush 8, 2) := by decide +kernel
theorem dX2_set_55 : decode cX2_set 55 = .ok (.iload_n 3, 1) := by decide +kernel
theorem dX2_set_56 : decode cX2_set 56 = .ok (.imul, 1) := by decide +kernel
theorem dX2_set_57 : decode cX2_set 57 = .ok (.iload_n 2, 1) := by decide +kernel
theorem dX2_set_58 : decode cX2_set 58 = .ok (.iadd, 1) := by decide +kernel
theorem dX2_set_59 : decode cX2_set 59 = .ok (.iload 4, 2) := by decide +kernel
theorem dX2_set_61 : decode cX2_set 61 = .ok (.iastore, 1) := by decide +kernel
theorem dX2_set_62 : decode cX2_set 62 = .ok (.iload 7, 2) := by decide +kernel
theorem dX2_set_64 : decode cX2_set 64 = .ok (.ireturn, 1) := by decide +kernel
set_option maxRecDepth 20000 in
theorem ggX2_raise_X2_set : GoodIn wsX2_raise wsX2_set := goodIn_r _ [6, 7, 8, 9, 5, 10, 11, 12, 13, 14, 15, 16, 17, 18, 19, 20, 21, 22, 23, 24, 25] (by decide +kernel) (by decide +kernel)
set_option maxRecDepth 20000 in
theorem gX2_raise_X2_set : GoodIn wsX2_raise (wsV RX2 55 RX2 yX2_set wsX2_set) := goodIn_app (goodIn_of _ (by decide +kernel)) ggX2_raise_X2_set
theorem dX2_raise_0 : decode cX2_raise 0 = .ok (.aload_n 0, 1) := by decide +kernel
theorem dX2_raise_1 : decode cX2_raise 1 = .ok (.aload_n 0, 1) := by decide +kernel
theorem dX2_raise_2 : decode cX2_raise 2 = .ok (.getfield 9, 3) := by decide +kernel
theorem dX2_raise_5 : decode cX2_raise 5 = .ok (.iload_n 1, 1) := by decide +kernel
theorem dX2_raise_6 : decode cX2_raise 6 = .ok (.iload_n 2, 1) := by decide +kernel
theorem dX2_raise_7 : decode cX2_raise 7 = .ok (.iload_n 3, 1) := by decide +kernel
theorem dX2_raise_8 : decode cX2_raise 8 = .ok (.iconst 0, 1) := by decide +kernel
theorem dX2_raise_9 : decode cX2_raise 9 = .ok (.bipush 50, 2) := by decide +kernel
theorem dX2_raise_11 : decode cX2_raise 11 = .ok (.invokevirtual 55, 3) := by decide +kernel
theorem dX2_raise_14 : decode cX2_raise 14 = .ok (.ireturn, 1) := by decide +kernel
set_option maxRecDepth 20000 in
theorem ggX2_pour_X2_isCell : GoodIn wsX2_pour wsX2_isCell := goodIn_r _ [10, 11, 12, 9, 13] (by decide +kernel) (by decide +kernel)
set_option maxRecDepth 20000 in
theorem gX2_pour_X2_isCell : GoodIn wsX2_pour (va_wsS RX2 51 yX2_isCell wsX2_isCell) := goodIn_app (goodIn_of _ (by decide +kernel)) ggX2_pour_X2_isCell
set_option maxRecDepth 20000 in
theorem ggX2_pour_X2_isIn : GoodIn wsX2_pour wsX2_isIn := goodIn_r _ [13] (by decide +kernel) (by decide +kernel)
set_option maxRecDepth 20000 in
theorem gX2_pour_X2_isIn : GoodIn wsX2_pour (va_wsS RX2 47 yX2_isIn wsX2_isIn) := goodIn_app (goodIn_of _ (by decide +kernel)) ggX2_pour_X2_isIn
theorem dX2_pour_0 : decode cX2_pour 0 = .ok (.aload_n 0, 1) := by decide +kernel
theorem dX2_pour_1 : decode cX2_pour 1 = .ok (.iload_n 1, 1) := by decide +kernel
theorem dX2_pour_2 : decode cX2_pour 2 = .ok (.iload_n 2, 1) := by decide +kernel
theorem dX2_pour_3 : decode cX2_pour 3 = .ok (.invokestatic 51, 3) := by decide +kernel
theorem dX2_pour_6 : decode cX2_pour 6 = .ok (.ifCond .ne 7, 3) := by decide +kernel
theorem dX2_pour_9 : decode cX2_pour 9 = .ok (.iconst 1, 1) := by decide +kernel
theorem dX2_pour_10 : decode cX2_pour 10 = .ok (.goto 19, 3) := by decide +kernel
theorem dX2_pour_13 : decode cX2_pour 13 = .ok (.iload_n 3, 1) := by decide +kernel
theorem dX2_pour_14 : decode cX2_pour 14 = .ok (.bipush (-99), 2) := by decide +kernel
theorem dX2_pour_16 : decode cX2_pour 16 = .ok (.bipush 99, 2) := by decide +kernel
theorem dX2_pour_18 : decode cX2_pour 18 = .ok (.invokestatic 47, 3) := by decide +kernel
theorem dX2_pour_21 : decode cX2_pour 21 = .ok (.ifCond .ne 7, 3) := by decide +kernel
theorem dX2_pour_24 : decode cX2_pour 24 = .ok (.iconst 2, 1) := by decide +kernel
theorem dX2_pour_25 : decode cX2_pour 25 = .ok (.goto 4, 3) := by decide +kernel
theorem dX2_pour_28 : decode cX2_pour 28 = .ok (.iconst 0, 1) := by decide +kernel
theorem dX2_pour_29 : decode cX2_pour 29 = .ok (.putfield 43, 3) := by decide +kernel
theorem dX2_pour_32 : decode cX2_pour 32 = .ok (.aload_n 0, 1) := by decide +kernel
theorem dX2_pour_33 : decode cX2_pour 33 = .ok (.getfield 43, 3) := by decide +kernel
theorem dX2_pour_36 : decode cX2_pour 36 = .ok (.ifCond .eq 5, 3) := by decide +kernel
theorem dX2_pour_39 : decode cX2_pour 39 = .ok (.iconst 0, 1) := by decide +kernel
theorem dX2_pour_40 : decode cX2_pour 40 = .ok (.ireturn, 1) := by decide +kernel
theorem dX2_pour_41 : decode cX2_pour 41 = .ok (.aload_n 0, 1) := by decide +kernel
theorem dX2_pour_42 : decode cX2_pour 42 = .ok (.getfield 13, 3) := by decide +kernel
theorem dX2_pour_45 : decode cX2_pour 45 = .ok (.bipush 8, 2) := by decide +kernel
theorem dX2_pour_47 : decode cX2_pour 47 = .ok (.iload_n 2, 1) := by decide +kernel
theorem dX2_pour_48 : decode cX2_pour 48 = .ok (.imul, 1) := by decide +kernel
theorem dX2_pour_49 : decode cX2_pour 49 = .ok (.iload_n 1, 1) := by decide +kernel
theorem dX2_pour_50 : decode cX2_pour 50 = .ok (.iadd, 1) := by decide +kernel
theorem dX2_pour_51 : decode cX2_pour 51 = .ok (.iconst 0, 1) := by decide +kernel
theorem dX2_pour_52 : decode cX2_pour 52 = .ok (.aload_n 0, 1) := by decide +kernel
theorem dX2_pour_53 : decode cX2_pour 53 = .ok (.getfield 13, 3) := by decide +kernel
theorem dX2_pour_56 : decode cX2_pour 56 = .ok (.bipush 8, 2) := by decide +kernel
theorem dX2_pour_58 : decode cX2_pour 58 = .ok (.iload_n 2, 1) := by decide +kernel
theorem dX2_pour_59 : decode cX2_pour 59 = .ok (.imul, 1) := by decide +kernel
theorem dX2_pour_60 : decode cX2_pour 60 = .ok (.iload_n 1, 1) := by decide +kernel
theorem dX2_pour_61 : decode cX2_pour 61 = .ok (.iadd, 1) := by decide +kernel
theorem dX2_pour_62 : decode cX2_pour 62 = .ok (.iaload, 1) := by decide +kernel
theorem dX2_pour_63 : decode cX2_pour 63 = .ok (.iload_n 3, 1) := by decide +kernel
theorem dX2_pour_64 : decode cX2_pour 64 = .ok (.iadd, 1) := by decide +kernel
theorem dX2_pour_65 : decode cX2_pour 65 = .ok (.invokestatic 59, 3) := by decide +kernel
theorem dX2_pour_68 : decode cX2_pour 68 = .ok (.iastore, 1) := by decide +kernel
theorem dX2_pour_69 : decode cX2_pour 69 = .ok (.aload_n 0, 1) := by decide +kernel
theorem dX2_pour_70 : decode cX2_pour 70 = .ok (.getfield 13, 3) := by decide +kernel
theorem dX2_pour_73 : decode cX2_pour 73 = .ok (.bipush 8, 2) := by decide +kernel
theorem dX2_pour_75 : decode cX2_pour 75 = .ok (.iload_n 2, 1) := by decide +kernel
theorem dX2_pour_76 : decode cX2_pour 76 = .ok (.imul, 1) := by decide +kernel
theorem dX2_pour_77 : decode cX2_pour 77 = .ok (.iload_n 1, 1) := by decide +kernel
theorem dX2_pour_78 : decode cX2_pour 78 = .ok (.iadd, 1) := by decide +kernel
theorem dX2_pour_79 : decode cX2_pour 79 = .ok (.iaload, 1) := by decide +kernel
theorem dX2_pour_80 : decode cX2_pour 80 = .ok (.ireturn, 1) := by decide +kernel
set_option maxRecDepth 20000 in
theorem ggX2_dam_X2_set : GoodIn wsX2_dam wsX2_set := goodIn_r _ [8, 2, 9, 10, 7, 11, 12, 13, 14, 15, 16, 17, 18, 19, 20, 21, 22, 23, 24, 25, 26] (by decide +kernel) (by decide +kernel)
set_option maxRecDepth 20000 in
theorem gX2_dam_X2_set : GoodIn wsX2_dam (wsV RX2 55 RX2 yX2_set wsX2_set) := goodIn_app (goodIn_of _ (by decide +kernel)) ggX2_dam_X2_set
theorem dX2_dam_0 : decode cX2_dam 0 = .ok (.aload_n 0, 1) := by decide +kernel
theorem dX2_dam_1 : decode cX2_dam 1 = .ok (.aload_n 0, 1) := by decide +kernel
theorem dX2_dam_2 : decode cX2_dam 2 = .ok (.getfield 16, 3) := by decide +kernel
theorem dX2_dam_5 : decode cX2_dam 5 = .ok (.iload_n 1, 1) := by decide +kernel
theorem dX2_dam_6 : decode cX2_dam 6 = .ok (.iload_n 2, 1) := by decide +kernel
theorem dX2_dam_7 : decode cX2_dam 7 = .ok (.iload_n 3, 1) := by decide +kernel
theorem dX2_dam_8 : decode cX2_dam 8 = .ok (.iconst 0, 1) := by decide +kernel
theorem dX2_dam_9 : decode cX2_dam 9 = .ok (.bipush 20, 2) := by decide +kernel
theorem dX2_dam_11 : decode cX2_dam 11 = .ok (.invokevirtual 55, 3) := by decide +kernel
theorem dX2_dam_14 : decode cX2_dam 14 = .ok (.istore 4, 2) := by decide +kernel
theorem dX2_dam_16 : decode cX2_dam 16 = .ok (.aload_n 0, 1) := by decide +kernel
theorem dX2_dam_17 : decode cX2_dam 17 = .ok (.getfield 43, 3) := by decide +kernel
theorem dX2_dam_20 : decode cX2_dam 20 = .ok (.ifCond .ne 15, 3) := by decide +kernel
theorem dX2_dam_23 : decode cX2_dam 23 = .ok (.aload_n 0, 1) := by decide +kernel
theorem dX2_dam_24 : decode cX2_dam 24 = .ok (.getfield 19, 3) := by decide +kernel
theorem dX2_dam_27 : decode cX2_dam 27 = .ok (.bipush 8, 2) := by decide +kernel
theorem dX2_dam_29 : decode cX2_dam 29 = .ok (.iload_n 2, 1) := by decide +kernel
theorem dX2_dam_30 : decode cX2_dam 30 = .ok (.imul, 1) := by decide +kernel
theorem dX2_dam_31 : decode cX2_dam 31 = .ok (.iload_n 1, 1) := by decide +kernel
theorem dX2_dam_32 : decode cX2_dam 32 = .ok (.iadd, 1) := by decide +kernel
theorem dX2_dam_33 : decode cX2_dam 33 = .ok (.iconst 0, 1) := by decide +kernel
theorem dX2_dam_34 : decode cX2_dam 34 = .ok (.iastore, 1) := by decide +kernel
theorem dX2_dam_35 : decode cX2_dam 35 = .ok (.iload 4, 2) := by decide +kernel
theorem dX2_dam_37 : decode cX2_dam 37 = .ok (.ireturn, 1) := by decide +kernel
set_option maxRecDepth 20000 in
theorem ggX2_drain_X2_set : GoodIn wsX2_drain wsX2_set := goodIn_r _ [6, 7, 8, 9, 5, 10, 11, 12, 13, 14, 15, 16, 17, 18, 19, 20, 21, 22, 23, 24, 25] (by decide +kernel) (by decide +kernel)
set_option maxRecDepth 20000 in
theorem gX2_drain_X2_set : GoodIn wsX2_drain (wsV RX2 55 RX2 yX2_set wsX2_set) := goodIn_app (goodIn_of _ (by decide +kernel)) ggX2_drain_X2_set
theorem dX2_drain_0 : decode cX2_drain 0 = .ok (.aload_n 0, 1) := by decide +kernel
theorem dX2_drain_1 : decode cX2_drain 1 = .ok (.aload_n 0, 1) := by decide +kernel
theorem dX2_drain_2 : decode cX2_drain 2 = .ok (.getfield 22, 3) := by decide +kernel
theorem dX2_drain_5 : decode cX2_drain 5 = .ok (.iload_n 1, 1) := by decide +kernel
theorem dX2_drain_6 : decode cX2_drain 6 = .ok (.iload_n 2, 1) := by decide +kernel
theorem dX2_drain_7 : decode cX2_drain 7 = .ok (.iload_n 3, 1) := by decide +kernel
theorem dX2_drain_8 : decode cX2_drain 8 = .ok (.iconst 0, 1) := by decide +kernel
theorem dX2_drain_9 : decode cX2_drain 9 = .ok (.bipush 9, 2) := by decide +kernel
theorem dX2_drain_11 : decode cX2_drain 11 = .ok (.invokevirtual 55, 3) := by decide +kernel
theorem dX2_drain_14 : decode cX2_drain 14 = .ok (.ireturn, 1) := by decide +kernel
set_option maxRecDepth 20000 in
theorem ggX2_settle_X2_set : GoodIn wsX2_settle wsX2_set := goodIn_r _ [6, 7, 8, 9, 5, 10, 11, 12, 13, 14, 15, 16, 17, 18, 19, 20, 21, 22, 23, 24, 25] (by decide +kernel) (by decide +kernel)
set_option maxRecDepth 20000 in
theorem gX2_settle_X2_set : GoodIn wsX2_settle (wsV RX2 55 RX2 yX2_set wsX2_set) := goodIn_app (goodIn_of _ (by decide +kernel)) ggX2_settle_X2_set
theorem dX2_settle_0 : decode cX2_settle 0 = .ok (.aload_n 0, 1) := by decide +kernel
theorem dX2_settle_1 : decode cX2_settle 1 = .ok (.aload_n 0, 1) := by decide +kernel
theorem dX2_settle_2 : decode cX2_settle 2 = .ok (.getfield 25, 3) := by decide +kernel
theorem dX2_settle_5 : decode cX2_settle 5 = .ok (.iload_n 1, 1) := by decide +kernel
theorem dX2_settle_6 : decode cX2_settle 6 = .ok (.iload_n 2, 1) := by decide +kernel
theorem dX2_settle_7 : decode cX2_settle 7 = .ok (.iload_n 3, 1) := by decide +kernel
theorem dX2_settle_8 : decode cX2_settle 8 = .ok (.iconst 0, 1) := by decide +kernel
theorem dX2_settle_9 : decode cX2_settle 9 = .ok (.bipush 90, 2) := by decide +kernel
theorem dX2_settle_11 : decode cX2_settle 11 = .ok (.invokevirtual 55, 3) := by decide +kernel
theorem dX2_settle_14 : decode cX2_settle 14 = .ok (.ireturn, 1) := by decide +kernel
set_option maxRecDepth 20000 in
theorem ggX2_setRain_X2_isIn : GoodIn wsX2_setRain wsX2_isIn := goodIn_r _ [6] (by decide +kernel) (by decide +kernel)
set_option maxRecDepth 20000 in
theorem gX2_setRain_X2_isIn : GoodIn wsX2_setRain (va_wsS RX2 47 yX2_isIn wsX2_isIn) := goodIn_app (goodIn_of _ (by decide +kernel)) ggX2_setRain_X2_isIn
set_option maxRecDepth 20000 in
theorem ggX2_setRain_X2_fail : GoodIn wsX2_setRain wsX2_fail := goodIn_r _ [10, 1, 11, 12, 13, 14, 15, 16, 17, 18, 19, 20, 21, 22] (by decide +kernel) (by decide +kernel)
set_option maxRecDepth 20000 in
theorem gX2_setRain_X2_fail : GoodIn wsX2_setRain (wsV RX2 65 RX2 yX2_fail wsX2_fail) := goodIn_app (goodIn_of _ (by decide +kernel)) ggX2_setRain_X2_fail
theorem dX2_setRain_0 : decode cX2_setRain 0 = .ok (.aload_n 0, 1) := by decide +kernel
theorem dX2_setRain_1 : decode cX2_setRain 1 = .ok (.iconst 0, 1) := by decide +kernel
theorem dX2_setRain_2 : decode cX2_setRain 2 = .ok (.putfield 43, 3) := by decide +kernel
theorem dX2_setRain_5 : decode cX2_setRain 5 = .ok (.iload_n 1, 1) := by decide +kernel
theorem dX2_setRain_6 : decode cX2_setRain 6 = .ok (.iconst 0, 1) := by decide +kernel
theorem dX2_setRain_7 : decode cX2_setRain 7 = .ok (.bipush 11, 2) := by decide +kernel
theorem dX2_setRain_9 : decode cX2_setRain 9 = .ok (.invokestatic 47, 3) := by decide +kernel
theorem dX2_setRain_12 : decode cX2_setRain 12 = .ok (.ifCond .ne 9, 3) := by decide +kernel
theorem dX2_setRain_15 : decode cX2_setRain 15 = .ok (.aload_n 0, 1) := by decide +kernel
theorem dX2_setRain_16 : decode cX2_setRain 16 = .ok (.iconst 1, 1) := by decide +kernel
theorem dX2_setRain_17 : decode cX2_setRain 17 = .ok (.invokevirtual 65, 3) := by decide +kernel
theorem dX2_setRain_20 : decode cX2_setRain 20 = .ok (.ireturn, 1) := by decide +kernel
theorem dX2_setRain_21 : decode cX2_setRain 21 = .ok (.iload_n 2, 1) := by decide +kernel
theorem dX2_setRain_22 : decode cX2_setRain 22 = .ok (.iconst 0, 1) := by decide +kernel
theorem dX2_setRain_23 : decode cX2_setRain 23 = .ok (.bipush 9, 2) := by decide +kernel
theorem dX2_setRain_25 : decode cX2_setRain 25 = .ok (.invokestatic 47, 3) := by decide +kernel
theorem dX2_setRain_28 : decode cX2_setRain 28 = .ok (.ifCond .ne 9, 3) := by decide +kernel
theorem dX2_setRain_31 : decode cX2_setRain 31 = .ok (.aload_n 0, 1) := by decide +kernel
theorem dX2_setRain_32 : decode cX2_setRain 32 = .ok (.iconst 2, 1) := by decide +kernel
theorem dX2_setRain_33 : decode cX2_setRain 33 = .ok (.invokevirtual 65, 3) := by decide +kernel
theorem dX2_setRain_36 : decode cX2_setRain 36 = .ok (.ireturn, 1) := by decide +kernel
theorem dX2_setRain_37 : decode cX2_setRain 37 = .ok (.aload_n 0, 1) := by decide +kernel
theorem dX2_setRain_38 : decode cX2_setRain 38 = .ok (.getfield 28, 3) := by decide +kernel
theorem dX2_setRain_41 : decode cX2_setRain 41 = .ok (.iload_n 1, 1) := by decide +kernel
theorem dX2_setRain_42 : decode cX2_setRain 42 = .ok (.iaload, 1) := by decide +kernel
theorem dX2_setRain_43 : decode cX2_setRain 43 = .ok (.istore_n 3, 1) := by decide +kernel
theorem dX2_setRain_44 : decode cX2_setRain 44 = .ok (.aload_n 0, 1) := by decide +kernel
theorem dX2_setRain_45 : decode cX2_setRain 45 = .ok (.getfield 28, 3) := by decide +kernel
theorem dX2_setRain_48 : decode cX2_setRain 48 = .ok (.iload_n 1, 1) := by decide +kernel
theorem dX2_setRain_49 : decode cX2_setRain 49 = .ok (.iload_n 2, 1) := by decide +kernel
theorem dX2_setRain_50 : decode cX2_setRain 50 = .ok (.iastore, 1) := by decide +kernel
theorem dX2_setRain_51 : decode cX2_setRain 51 = .ok (.iload_n 3, 1) := by decide +kernel
theorem dX2_setRain_52 : decode cX2_setRain 52 = .ok (.ireturn, 1) := by decide +kernel
theorem dX2_level_0 : decode cX2_level 0 = .ok (.aload_n 0, 1) := by decide +kernel
theorem dX2_level_1 : decode cX2_level 1 = .ok (.getfield 9, 3) := by decide +kernel
theorem dX2_level_4 : decode cX2_level 4 = .ok (.iload_n 1, 1) := by decide +kernel
theorem dX2_level_5 : decode cX2_level 5 = .ok (.iaload, 1) := by decide +kernel
theorem dX2_level_6 : decode cX2_level 6 = .ok (.aload_n 0, 1) := by decide +kernel
theorem dX2_level_7 : decode cX2_level 7 = .ok (.getfield 13, 3) := by decide +kernel
theorem dX2_level_10 : decode cX2_level 10 = .ok (.iload_n 1, 1) := by decide +kernel
theorem dX2_level_11 : decode cX2_level 11 = .ok (.iaload, 1) := by decide +kernel
theorem dX2_level_12 : decode cX2_level 12 = .ok (.iadd, 1) := by decide +kernel
theorem dX2_level_13 : decode cX2_level 13 = .ok (.ireturn, 1) := by decide +kernel
theorem dX2_crest_0 : decode cX2_crest 0 = .ok (.aload_n 0, 1) := by decide +kernel
theorem dX2_crest_1 : decode cX2_crest 1 = .ok (.getfield 9, 3) := by decide +kernel
theorem dX2_crest_4 : decode cX2_crest 4 = .ok (.iload_n 1, 1) := by decide +kernel
theorem dX2_crest_5 : decode cX2_crest 5 = .ok (.iaload, 1) := by decide +kernel
theorem dX2_crest_6 : decode cX2_crest 6 = .ok (.aload_n 0, 1) := by decide +kernel
theorem dX2_crest_7 : decode cX2_crest 7 = .ok (.getfield 16, 3) := by decide +kernel
theorem dX2_crest_10 : decode cX2_crest 10 = .ok (.iload_n 1, 1) := by decide +kernel
theorem dX2_crest_11 : decode cX2_crest 11 = .ok (.iaload, 1) := by decide +kernel
theorem dX2_crest_12 : decode cX2_crest 12 = .ok (.aload_n 0, 1) := by decide +kernel
theorem dX2_crest_13 : decode cX2_crest 13 = .ok (.getfield 13, 3) := by decide +kernel
theorem dX2_crest_16 : decode cX2_crest 16 = .ok (.iload_n 1, 1) := by decide +kernel
theorem dX2_crest_17 : decode cX2_crest 17 = .ok (.iaload, 1) := by decide +kernel
theorem dX2_crest_18 : decode cX2_crest 18 = .ok (.invokestatic 59, 3) := by decide +kernel
theorem dX2_crest_21 : decode cX2_crest 21 = .ok (.iadd, 1) := by decide +kernel
theorem dX2_crest_22 : decode cX2_crest 22 = .ok (.ireturn, 1) := by decide +kernel
set_option maxRecDepth 20000 in
theorem ggX2_cellTold_X2_level : GoodIn wsX2_cellTold wsX2_level := goodIn_r _ [11, 1, 2, 20, 21, 22, 23, 24, 25, 26, 27, 28, 29, 30, 31] (by decide +kernel) (by decide +kernel)
set_option maxRecDepth 20000 in
theorem gX2_cellTold_X2_level : GoodIn wsX2_cellTold (wsV RX2 69 RX2 yX2_level wsX2_level) := goodIn_app (goodIn_of _ (by decide +kernel)) ggX2_cellTold_X2_level
set_option maxRecDepth 20000 in
theorem ggX2_cellTold_X2_crest : GoodIn wsX2_cellTold wsX2_crest := goodIn_r _ [15, 1, 3, 2, 16, 17, 18, 19, 20, 21, 22, 23, 24, 25, 26, 27, 28, 29, 30, 31] (by decide +kernel) (by decide +kernel)
set_option maxRecDepth 20000 in
theorem gX2_cellTold_X2_crest : GoodIn wsX2_cellTold (wsV RX2 72 RX2 yX2_crest wsX2_crest) := goodIn_app (goodIn_of _ (by decide +kernel)) ggX2_cellTold_X2_crest
theorem dX2_cellTold_0 : decode cX2_cellTold 0 = .ok (.iload_n 2, 1) := by decide +kernel
theorem dX2_cellTold_1 : decode cX2_cellTold 1 = .ok (.tableswitch 91 0 6 #[43, 50, 57, 64, 71, 78, 85], 43) := by decide +kernel
theorem dX2_cellTold_44 : decode cX2_cellTold 44 = .ok (.aload_n 0, 1) := by decide +kernel
theorem dX2_cellTold_45 : decode cX2_cellTold 45 = .ok (.getfield 9, 3) := by decide +kernel
theorem dX2_cellTold_48 : decode cX2_cellTold 48 = .ok (.iload_n 1, 1) := by decide +kernel
theorem dX2_cellTold_49 : decode cX2_cellTold 49 = .ok (.iaload, 1) := by decide +kernel
theorem dX2_cellTold_50 : decode cX2_cellTold 50 = .ok (.ireturn, 1) := by decide +kernel
theorem dX2_cellTold_51 : decode cX2_cellTold 51 = .ok (.aload_n 0, 1) := by decide +kernel
theorem dX2_cellTold_52 : decode cX2_cellTold 52 = .ok (.getfield 13, 3) := by decide +kernel
theorem dX2_cellTold_55 : decode cX2_cellTold 55 = .ok (.iload_n 1, 1) := by decide +kernel
theorem dX2_cellTold_56 : decode cX2_cellTold 56 = .ok (.iaload, 1) := by decide +kernel
theorem dX2_cellTold_57 : decode cX2_cellTold 57 = .ok (.ireturn, 1) := by decide +kernel
theorem dX2_cellTold_58 : decode cX2_cellTold 58 = .ok (.aload_n 0, 1) := by decide +kernel
theorem dX2_cellTold_59 : decode cX2_cellTold 59 = .ok (.getfield 16, 3) := by decide +kernel
theorem dX2_cellTold_62 : decode cX2_cellTold 62 = .ok (.iload_n 1, 1) := by decide +kernel
theorem dX2_cellTold_63 : decode cX2_cellTold 63 = .ok (.iaload, 1) := by decide +kernel
theorem dX2_cellTold_64 : decode cX2_cellTold 64 = .ok (.ireturn, 1) := by decide +kernel
theorem dX2_cellTold_65 : decode cX2_cellTold 65 = .ok (.aload_n 0, 1) := by decide +kernel
theorem dX2_cellTold_66 : decode cX2_cellTold 66 = .ok (.getfield 19, 3) := by decide +kernel
theorem dX2_cellTold_69 : decode cX2_cellTold 69 = .ok (.iload_n 1, 1) := by decide +kernel
theorem dX2_cellTold_70 : decode cX2_cellTold 70 = .ok (.iaload, 1) := by decide +kernel
theorem dX2_cellTold_71 : decode cX2_cellTold 71 = .ok (.ireturn, 1) := by decide +kernel
theorem dX2_cellTold_72 : decode cX2_cellTold 72 = .ok (.aload_n 0, 1) := by decide +kernel
theorem dX2_cellTold_73 : decode cX2_cellTold 73 = .ok (.getfield 22, 3) := by decide +kernel
theorem dX2_cellTold_76 : decode cX2_cellTold 76 = .ok (.iload_n 1, 1) := by decide +kernel
theorem dX2_cellTold_77 : decode cX2_cellTold 77 = .ok (.iaload, 1) := by decide +kernel
theorem dX2_cellTold_78 : decode cX2_cellTold 78 = .ok (.ireturn, 1) := by decide +kernel
theorem dX2_cellTold_79 : decode cX2_cellTold 79 = .ok (.aload_n 0, 1) := by decide +kernel
theorem dX2_cellTold_80 : decode cX2_cellTold 80 = .ok (.getfield 25, 3) := by decide +kernel
theorem dX2_cellTold_83 : decode cX2_cellTold 83 = .ok (.iload_n 1, 1) := by decide +kernel
theorem dX2_cellTold_84 : decode cX2_cellTold 84 = .ok (.iaload, 1) := by decide +kernel
theorem dX2_cellTold_85 : decode cX2_cellTold 85 = .ok (.ireturn, 1) := by decide +kernel
theorem dX2_cellTold_86 : decode cX2_cellTold 86 = .ok (.aload_n 0, 1) := by decide +kernel
theorem dX2_cellTold_87 : decode cX2_cellTold 87 = .ok (.iload_n 1, 1) := by decide +kernel
theorem dX2_cellTold_88 : decode cX2_cellTold 88 = .ok (.invokevirtual 69, 3) := by decide +kernel
theorem dX2_cellTold_91 : decode cX2_cellTold 91 = .ok (.ireturn, 1) := by decide +kernel
theorem dX2_cellTold_92 : decode cX2_cellTold 92 = .ok (.aload_n 0, 1) := by decide +kernel
theorem dX2_cellTold_93 : decode cX2_cellTold 93 = .ok (.iload_n 1, 1) := by decide +kernel
theorem dX2_cellTold_94 : decode cX2_cellTold 94 = .ok (.invokevirtual 72, 3) := by decide +kernel
theorem dX2_cellTold_97 : decode cX2_cellTold 97 = .ok (.ireturn, 1) := by decide +kernel
set_option maxRecDepth 20000 in
theorem ggX2_cell_X2_isCell : GoodIn wsX2_cell wsX2_isCell := goodIn_r _ [5, 6, 7, 4, 8] (by decide +kernel) (by decide +kernel)
set_option maxRecDepth 20000 in
theorem gX2_cell_X2_isCell : GoodIn wsX2_cell (va_wsS RX2 51 yX2_isCell wsX2_isCell) := goodIn_app (goodIn_of _ (by decide +kernel)) ggX2_cell_X2_isCell
set_option maxRecDepth 20000 in
theorem ggX2_cell_X2_isIn : GoodIn wsX2_cell wsX2_isIn := goodIn_r _ [8] (by decide +kernel) (by decide +kernel)
set_option maxRecDepth 20000 in
theorem gX2_cell_X2_isIn : GoodIn wsX2_cell (va_wsS RX2 47 yX2_isIn wsX2_isIn) := goodIn_app (goodIn_of _ (by decide +kernel)) ggX2_cell_X2_isIn
set_option maxRecDepth 20000 in
theorem ggX2_cell_X2_cellTold : GoodIn wsX2_cell wsX2_cellTold := goodIn_r _ [12, 13, 14, 15, 16, 17, 18, 19, 20, 21, 4, 22, 23, 24, 25, 26, 27, 28, 29, 30, 35, 36, 37, 38, 39, 40, 41, 42, 43, 44, 45, 46] (by decide +kernel) (by decide +kernel)
set_option maxRecDepth 20000 in
theorem gX2_cell_X2_cellTold : GoodIn wsX2_cell (wsV RX2 75 RX2 yX2_cellTold wsX2_cellTold) := goodIn_app (goodIn_of _ (by decide +kernel)) ggX2_cell_X2_cellTold
set_option maxRecDepth 20000 in
theorem ggX2_cell_X2_fail : GoodIn wsX2_cell wsX2_fail := goodIn_r _ [34, 1, 35, 36, 37, 38, 39, 40, 41, 42, 43, 44, 45, 46] (by decide +kernel) (by decide +kernel)
set_option maxRecDepth 20000 in
theorem gX2_cell_X2_fail : GoodIn wsX2_cell (wsV RX2 65 RX2 yX2_fail wsX2_fail) := goodIn_app (goodIn_of _ (by decide +kernel)) ggX2_cell_X2_fail
theorem dX2_cell_0 : decode cX2_cell 0 = .ok (.aload_n 0, 1) := by decide +kernel
theorem dX2_cell_1 : decode cX2_cell 1 = .ok (.iconst 0, 1) := by decide +kernel
theorem dX2_cell_2 : decode cX2_cell 2 = .ok (.putfield 43, 3) := by decide +kernel
theorem dX2_cell_5 : decode cX2_cell 5 = .ok (.iload_n 1, 1) := by decide +kernel
theorem dX2_cell_6 : decode cX2_cell 6 = .ok (.iload_n 2, 1) := by decide +kernel
theorem dX2_cell_7 : decode cX2_cell 7 = .ok (.invokestatic 51, 3) := by decide +kernel
theorem dX2_cell_10 : decode cX2_cell 10 = .ok (.ifCond .eq 27, 3) := by decide +kernel
theorem dX2_cell_13 : decode cX2_cell 13 = .ok (.iload_n 3, 1) := by decide +kernel
theorem dX2_cell_14 : decode cX2_cell 14 = .ok (.iconst 0, 1) := by decide +kernel
theorem dX2_cell_15 : decode cX2_cell 15 = .ok (.bipush 7, 2) := by decide +kernel
theorem dX2_cell_17 : decode cX2_cell 17 = .ok (.invokestatic 47, 3) := by decide +kernel
theorem dX2_cell_20 : decode cX2_cell 20 = .ok (.ifCond .eq 17, 3) := by decide +kernel
theorem dX2_cell_23 : decode cX2_cell 23 = .ok (.aload_n 0, 1) := by decide +kernel
theorem dX2_cell_24 : decode cX2_cell 24 = .ok (.bipush 8, 2) := by decide +kernel
theorem dX2_cell_26 : decode cX2_cell 26 = .ok (.iload_n 2, 1) := by decide +kernel
theorem dX2_cell_27 : decode cX2_cell 27 = .ok (.imul, 1) := by decide +kernel
theorem dX2_cell_28 : decode cX2_cell 28 = .ok (.iload_n 1, 1) := by decide +kernel
theorem dX2_cell_29 : decode cX2_cell 29 = .ok (.iadd, 1) := by decide +kernel
theorem dX2_cell_30 : decode cX2_cell 30 = .ok (.iload_n 3, 1) := by decide +kernel
theorem dX2_cell_31 : decode cX2_cell 31 = .ok (.invokevirtual 75, 3) := by decide +kernel
theorem dX2_cell_34 : decode cX2_cell 34 = .ok (.goto 8, 3) := by decide +kernel
theorem dX2_cell_37 : decode cX2_cell 37 = .ok (.aload_n 0, 1) := by decide +kernel
theorem dX2_cell_38 : decode cX2_cell 38 = .ok (.iconst 1, 1) := by decide +kernel
theorem dX2_cell_39 : decode cX2_cell 39 = .ok (.invokevirtual 65, 3) := by decide +kernel
theorem dX2_cell_42 : decode cX2_cell 42 = .ok (.ireturn, 1) := by decide +kernel
theorem dX2_beside_0 : decode cX2_beside 0 = .ok (.iload_n 1, 1) := by decide +kernel
theorem dX2_beside_1 : decode cX2_beside 1 = .ok (.ifCond .ne 18, 3) := by decide +kernel
theorem dX2_beside_4 : decode cX2_beside 4 = .ok (.iload_n 0, 1) := by decide +kernel
theorem dX2_beside_5 : decode cX2_beside 5 = .ok (.bipush 8, 2) := by decide +kernel
theorem dX2_beside_7 : decode cX2_beside 7 = .ok (.irem, 1) := by decide +kernel
theorem dX2_beside_8 : decode cX2_beside 8 = .ok (.ifCond .ne 7, 3) := by decide +kernel
theorem dX2_beside_11 : decode cX2_beside 11 = .ok (.iconst (-1), 1) := by decide +kernel
theorem dX2_beside_12 : decode cX2_beside 12 = .ok (.goto 6, 3) := by decide +kernel
theorem dX2_beside_15 : decode cX2_beside 15 = .ok (.iload_n 0, 1) := by decide +kernel
theorem dX2_beside_16 : decode cX2_beside 16 = .ok (.iconst 1, 1) := by decide +kernel
theorem dX2_beside_17 : decode cX2_beside 17 = .ok (.isub, 1) := by decide +kernel
theorem dX2_beside_18 : decode cX2_beside 18 = .ok (.ireturn, 1) := by decide +kernel
theorem dX2_beside_19 : decode cX2_beside 19 = .ok (.iload_n 1, 1) := by decide +kernel
theorem dX2_beside_20 : decode cX2_beside 20 = .ok (.iconst 1, 1) := by decide +kernel
theorem dX2_beside_21 : decode cX2_beside 21 = .ok (.if_icmp .ne 20, 3) := by decide +kernel
theorem dX2_beside_24 : decode cX2_beside 24 = .ok (.iload_n 0, 1) := by decide +kernel
theorem dX2_beside_25 : decode cX2_beside 25 = .ok (.bipush 8, 2) := by decide +kernel
theorem dX2_beside_27 : decode cX2_beside 27 = .ok (.irem, 1) := by decide +kernel
theorem dX2_beside_28 : decode cX2_beside 28 = .ok (.bipush 7, 2) := by decide +kernel
theorem dX2_beside_30 : decode cX2_beside 30 = .ok (.if_icmp .ne 7, 3) := by decide +kernel
theorem dX2_beside_33 : decode cX2_beside 33 = .ok (.iconst (-1), 1) := by decide +kernel
theorem dX2_beside_34 : decode cX2_beside 34 = .ok (.goto 6, 3) := by decide +kernel
theorem dX2_beside_37 : decode cX2_beside 37 = .ok (.iload_n 0, 1) := by decide +kernel
theorem dX2_beside_38 : decode cX2_beside 38 = .ok (.iconst 1, 1) := by decide +kernel
theorem dX2_beside_39 : decode cX2_beside 39 = .ok (.iadd, 1) := by decide +kernel
theorem dX2_beside_40 : decode cX2_beside 40 = .ok (.ireturn, 1) := by decide +kernel
theorem dX2_beside_41 : decode cX2_beside 41 = .ok (.iload_n 1, 1) := by decide +kernel
theorem dX2_beside_42 : decode cX2_beside 42 = .ok (.iconst 2, 1) := by decide +kernel
theorem dX2_beside_43 : decode cX2_beside 43 = .ok (.if_icmp .ne 18, 3) := by decide +kernel
theorem dX2_beside_46 : decode cX2_beside 46 = .ok (.iload_n 0, 1) := by decide +kernel
theorem dX2_beside_47 : decode cX2_beside 47 = .ok (.bipush 8, 2) := by decide +kernel
theorem dX2_beside_49 : decode cX2_beside 49 = .ok (.if_icmp .ge 7, 3) := by decide +kernel
theorem dX2_beside_52 : decode cX2_beside 52 = .ok (.iconst (-1), 1) := by decide +kernel
theorem dX2_beside_53 : decode cX2_beside 53 = .ok (.goto 7, 3) := by decide +kernel
theorem dX2_beside_56 : decode cX2_beside 56 = .ok (.iload_n 0, 1) := by decide +kernel
theorem dX2_beside_57 : decode cX2_beside 57 = .ok (.bipush 8, 2) := by decide +kernel
theorem dX2_beside_59 : decode cX2_beside 59 = .ok (.isub, 1) := by decide +kernel
theorem dX2_beside_60 : decode cX2_beside 60 = .ok (.ireturn, 1) := by decide +kernel
theorem dX2_beside_61 : decode cX2_beside 61 = .ok (.iload_n 0, 1) := by decide +kernel
theorem dX2_beside_62 : decode cX2_beside 62 = .ok (.bipush 56, 2) := by decide +kernel
theorem dX2_beside_64 : decode cX2_beside 64 = .ok (.if_icmp .lt 7, 3) := by decide +kernel
theorem dX2_beside_67 : decode cX2_beside 67 = .ok (.iconst (-1), 1) := by decide +kernel
theorem dX2_beside_68 : decode cX2_beside 68 = .ok (.goto 7, 3) := by decide +kernel
theorem dX2_beside_71 : decode cX2_beside 71 = .ok (.iload_n 0, 1) := by decide +kernel
theorem dX2_beside_72 : decode cX2_beside 72 = .ok (.bipush 8, 2) := by decide +kernel
theorem dX2_beside_74 : decode cX2_beside 74 = .ok (.iadd, 1) := by decide +kernel
theorem dX2_beside_75 : decode cX2_beside 75 = .ok (.ireturn, 1) := by decide +kernel
set_option maxRecDepth 20000 in
theorem ggX2_follow_X2_beside : GoodIn wsX2_follow wsX2_beside := goodIn_r _ [7] (by decide +kernel) (by decide +kernel)
set_option maxRecDepth 20000 in
theorem gX2_follow_X2_beside : GoodIn wsX2_follow (va_wsS RX2 78 yX2_beside wsX2_beside) := goodIn_app (goodIn_of _ (by decide +kernel)) ggX2_follow_X2_beside
theorem dX2_follow_0 : decode cX2_follow 0 = .ok (.iconst 1, 1) := by decide +kernel
theorem dX2_follow_1 : decode cX2_follow 1 = .ok (.istore_n 3, 1) := by decide +kernel
theorem dX2_follow_2 : decode cX2_follow 2 = .ok (.aload_n 0, 1) := by decide +kernel
theorem dX2_follow_3 : decode cX2_follow 3 = .ok (.getfield 40, 3) := by decide +kernel
theorem dX2_follow_6 : decode cX2_follow 6 = .ok (.iconst 0, 1) := by decide +kernel
theorem dX2_follow_7 : decode cX2_follow 7 = .ok (.iload_n 1, 1) := by decide +kernel
theorem dX2_follow_8 : decode cX2_follow 8 = .ok (.iastore, 1) := by decide +kernel
theorem dX2_follow_9 : decode cX2_follow 9 = .ok (.aload_n 0, 1) := by decide +kernel
theorem dX2_follow_10 : decode cX2_follow 10 = .ok (.getfield 37, 3) := by decide +kernel
theorem dX2_follow_13 : decode cX2_follow 13 = .ok (.iload_n 1, 1) := by decide +kernel
theorem dX2_follow_14 : decode cX2_follow 14 = .ok (.iload_n 2, 1) := by decide +kernel
theorem dX2_follow_15 : decode cX2_follow 15 = .ok (.iastore, 1) := by decide +kernel
theorem dX2_follow_16 : decode cX2_follow 16 = .ok (.iconst 0, 1) := by decide +kernel
theorem dX2_follow_17 : decode cX2_follow 17 = .ok (.istore 4, 2) := by decide +kernel
theorem dX2_follow_19 : decode cX2_follow 19 = .ok (.iload 4, 2) := by decide +kernel
theorem dX2_follow_21 : decode cX2_follow 21 = .ok (.iload_n 3, 1) := by decide +kernel
theorem dX2_follow_22 : decode cX2_follow 22 = .ok (.if_icmp .ge 86, 3) := by decide +kernel
theorem dX2_follow_25 : decode cX2_follow 25 = .ok (.iconst 0, 1) := by decide +kernel
theorem dX2_follow_26 : decode cX2_follow 26 = .ok (.istore 5, 2) := by decide +kernel
theorem dX2_follow_28 : decode cX2_follow 28 = .ok (.iload 5, 2) := by decide +kernel
theorem dX2_follow_30 : decode cX2_follow 30 = .ok (.iconst 4, 1) := by decide +kernel
theorem dX2_follow_31 : decode cX2_follow 31 = .ok (.if_icmp .ge 71, 3) := by decide +kernel
theorem dX2_follow_34 : decode cX2_follow 34 = .ok (.aload_n 0, 1) := by decide +kernel
theorem dX2_follow_35 : decode cX2_follow 35 = .ok (.getfield 40, 3) := by decide +kernel
theorem dX2_follow_38 : decode cX2_follow 38 = .ok (.iload 4, 2) := by decide +kernel
theorem dX2_follow_40 : decode cX2_follow 40 = .ok (.iaload, 1) := by decide +kernel
theorem dX2_follow_41 : decode cX2_follow 41 = .ok (.iload 5, 2) := by decide +kernel
theorem dX2_follow_43 : decode cX2_follow 43 = .ok (.invokestatic 78, 3) := by decide +kernel
theorem dX2_follow_46 : decode cX2_follow 46 = .ok (.istore 6, 2) := by decide +kernel
theorem dX2_follow_48 : decode cX2_follow 48 = .ok (.iload 6, 2) := by decide +kernel
theorem dX2_follow_50 : decode cX2_follow 50 = .ok (.iconst (-1), 1) := by decide +kernel
theorem dX2_follow_51 : decode cX2_follow 51 = .ok (.if_icmp .eq 45, 3) := by decide +kernel
theorem dX2_follow_54 : decode cX2_follow 54 = .ok (.aload_n 0, 1) := by decide +kernel
theorem dX2_follow_55 : decode cX2_follow 55 = .ok (.getfield 13, 3) := by decide +kernel
theorem dX2_follow_58 : decode cX2_follow 58 = .ok (.iload 6, 2) := by decide +kernel
theorem dX2_follow_60 : decode cX2_follow 60 = .ok (.iaload, 1) := by decide +kernel
theorem dX2_follow_61 : decode cX2_follow 61 = .ok (.ifCond .eq 35, 3) := by decide +kernel
theorem dX2_follow_64 : decode cX2_follow 64 = .ok (.aload_n 0, 1) := by decide +kernel
theorem dX2_follow_65 : decode cX2_follow 65 = .ok (.getfield 37, 3) := by decide +kernel
theorem dX2_follow_68 : decode cX2_follow 68 = .ok (.iload 6, 2) := by decide +kernel
theorem dX2_follow_70 : decode cX2_follow 70 = .ok (.iaload, 1) := by decide +kernel
theorem dX2_follow_71 : decode cX2_follow 71 = .ok (.ifCond .eq 6, 3) := by decide +kernel
theorem dX2_follow_74 : decode cX2_follow 74 = .ok (.goto 22, 3) := by decide +kernel
theorem dX2_follow_77 : decode cX2_follow 77 = .ok (.aload_n 0, 1) := by decide +kernel
theorem dX2_follow_78 : decode cX2_follow 78 = .ok (.getfield 37, 3) := by decide +kernel
theorem dX2_follow_81 : decode cX2_follow 81 = .ok (.iload 6, 2) := by decide +kernel
theorem dX2_follow_83 : decode cX2_follow 83 = .ok (.iload_n 2, 1) := by decide +kernel
theorem dX2_follow_84 : decode cX2_follow 84 = .ok (.iastore, 1) := by decide +kernel
theorem dX2_follow_85 : decode cX2_follow 85 = .ok (.aload_n 0, 1) := by decide +kernel
theorem dX2_follow_86 : decode cX2_follow 86 = .ok (.getfield 40, 3) := by decide +kernel
theorem dX2_follow_89 : decode cX2_follow 89 = .ok (.iload_n 3, 1) := by decide +kernel
theorem dX2_follow_90 : decode cX2_follow 90 = .ok (.iload 6, 2) := by decide +kernel
theorem dX2_follow_92 : decode cX2_follow 92 = .ok (.iastore, 1) := by decide +kernel
theorem dX2_follow_93 : decode cX2_follow 93 = .ok (.iinc 3 1, 3) := by decide +kernel
theorem dX2_follow_96 : decode cX2_follow 96 = .ok (.iinc 5 1, 3) := by decide +kernel
theorem dX2_follow_99 : decode cX2_follow 99 = .ok (.goto (-71), 3) := by decide +kernel
theorem dX2_follow_102 : decode cX2_follow 102 = .ok (.iinc 4 1, 3) := by decide +kernel
theorem dX2_follow_105 : decode cX2_follow 105 = .ok (.goto (-86), 3) := by decide +kernel
theorem dX2_follow_108 : decode cX2_follow 108 = .ok (.iload_n 3, 1) := by decide +kernel
theorem dX2_follow_109 : decode cX2_follow 109 = .ok (.ireturn, 1) := by decide +kernel
set_option maxRecDepth 20000 in
theorem ggX2_lakes_X2_follow : GoodIn wsX2_lakes wsX2_follow := goodIn_r _ [7, 8, 1, 2, 9, 10, 6, 11, 12, 13, 14, 15, 16, 17, 18, 19, 20, 21, 22, 23] (by decide +kernel) (by decide +kernel)
set_option maxRecDepth 20000 in
theorem gX2_lakes_X2_follow : GoodIn wsX2_lakes (wsV RX2 81 RX2 yX2_follow wsX2_follow) := goodIn_app (goodIn_of _ (by decide +kernel)) ggX2_lakes_X2_follow
theorem dX2_lakes_0 : decode cX2_lakes 0 = .ok (.iconst 0, 1) := by decide +kernel
theorem dX2_lakes_1 : decode cX2_lakes 1 = .ok (.istore_n 1, 1) := by decide +kernel
theorem dX2_lakes_2 : decode cX2_lakes 2 = .ok (.iconst 0, 1) := by decide +kernel
theorem dX2_lakes_3 : decode cX2_lakes 3 = .ok (.istore_n 2, 1) := by decide +kernel
theorem dX2_lakes_4 : decode cX2_lakes 4 = .ok (.iload_n 2, 1) := by decide +kernel
theorem dX2_lakes_5 : decode cX2_lakes 5 = .ok (.bipush 64, 2) := by decide +kernel
theorem dX2_lakes_7 : decode cX2_lakes 7 = .ok (.if_icmp .ge 16, 3) := by decide +kernel
theorem dX2_lakes_10 : decode cX2_lakes 10 = .ok (.aload_n 0, 1) := by decide +kernel
theorem dX2_lakes_11 : decode cX2_lakes 11 = .ok (.getfield 37, 3) := by decide +kernel
theorem dX2_lakes_14 : decode cX2_lakes 14 = .ok (.iload_n 2, 1) := by decide +kernel
theorem dX2_lakes_15 : decode cX2_lakes 15 = .ok (.iconst 0, 1) := by decide +kernel
theorem dX2_lakes_16 : decode cX2_lakes 16 = .ok (.iastore, 1) := by decide +kernel
theorem dX2_lakes_17 : decode cX2_lakes 17 = .ok (.iinc 2 1, 3) := by decide +kernel
theorem dX2_lakes_20 : decode cX2_lakes 20 = .ok (.goto (-16), 3) := by decide +kernel
theorem dX2_lakes_23 : decode cX2_lakes 23 = .ok (.iconst 0, 1) := by decide +kernel
theorem dX2_lakes_24 : decode cX2_lakes 24 = .ok (.istore_n 2, 1) := by decide +kernel
theorem dX2_lakes_25 : decode cX2_lakes 25 = .ok (.iload_n 2, 1) := by decide +kernel
theorem dX2_lakes_26 : decode cX2_lakes 26 = .ok (.bipush 64, 2) := by decide +kernel
theorem dX2_lakes_28 : decode cX2_lakes 28 = .ok (.if_icmp .ge 40, 3) := by decide +kernel
theorem dX2_lakes_31 : decode cX2_lakes 31 = .ok (.aload_n 0, 1) := by decide +kernel
theorem dX2_lakes_32 : decode cX2_lakes 32 = .ok (.getfield 13, 3) := by decide +kernel
theorem dX2_lakes_35 : decode cX2_lakes 35 = .ok (.iload_n 2, 1) := by decide +kernel
theorem dX2_lakes_36 : decode cX2_lakes 36 = .ok (.iaload, 1) := by decide +kernel
theorem dX2_lakes_37 : decode cX2_lakes 37 = .ok (.ifCond .eq 25, 3) := by decide +kernel
theorem dX2_lakes_40 : decode cX2_lakes 40 = .ok (.aload_n 0, 1) := by decide +kernel
theorem dX2_lakes_41 : decode cX2_lakes 41 = .ok (.getfield 37, 3) := by decide +kernel
theorem dX2_lakes_44 : decode cX2_lakes 44 = .ok (.iload_n 2, 1) := by decide +kernel
theorem dX2_lakes_45 : decode cX2_lakes 45 = .ok (.iaload, 1) := by decide +kernel
theorem dX2_lakes_46 : decode cX2_lakes 46 = .ok (.ifCond .eq 6, 3) := by decide +kernel
theorem dX2_lakes_49 : decode cX2_lakes 49 = .ok (.goto 13, 3) := by decide +kernel
theorem dX2_lakes_52 : decode cX2_lakes 52 = .ok (.iinc 1 1, 3) := by decide +kernel
theorem dX2_lakes_55 : decode cX2_lakes 55 = .ok (.aload_n 0, 1) := by decide +kernel
theorem dX2_lakes_56 : decode cX2_lakes 56 = .ok (.iload_n 2, 1) := by decide +kernel
theorem dX2_lakes_57 : decode cX2_lakes 57 = .ok (.iload_n 1, 1) := by decide +kernel
theorem dX2_lakes_58 : decode cX2_lakes 58 = .ok (.invokevirtual 81, 3) := by decide +kernel
theorem dX2_lakes_61 : decode cX2_lakes 61 = .ok (.pop, 1) := by decide +kernel
theorem dX2_lakes_62 : decode cX2_lakes 62 = .ok (.iinc 2 1, 3) := by decide +kernel
theorem dX2_lakes_65 : decode cX2_lakes 65 = .ok (.goto (-40), 3) := by decide +kernel
theorem dX2_lakes_68 : decode cX2_lakes 68 = .ok (.iload_n 1, 1) := by decide +kernel
theorem dX2_lakes_69 : decode cX2_lakes 69 = .ok (.ireturn, 1) := by decide +kernel
set_option maxRecDepth 20000 in
theorem ggX2_lake_X2_isCell : GoodIn wsX2_lake wsX2_isCell := goodIn_r _ [7, 8, 9, 6, 10] (by decide +kernel) (by decide +kernel)
set_option maxRecDepth 20000 in
theorem gX2_lake_X2_isCell : GoodIn wsX2_lake (va_wsS RX2 51 yX2_isCell wsX2_isCell) := goodIn_app (goodIn_of _ (by decide +kernel)) ggX2_lake_X2_isCell
set_option maxRecDepth 20000 in
theorem ggX2_lake_X2_fail : GoodIn wsX2_lake wsX2_fail := goodIn_r _ [14, 1, 23, 24, 25, 26, 27, 28, 29, 30, 31, 32, 33, 34] (by decide +kernel) (by decide +kernel)
set_option maxRecDepth 20000 in
theorem gX2_lake_X2_fail : GoodIn wsX2_lake (wsV RX2 65 RX2 yX2_fail wsX2_fail) := goodIn_app (goodIn_of _ (by decide +kernel)) ggX2_lake_X2_fail
set_option maxRecDepth 20000 in
theorem ggX2_lake_X2_follow : GoodIn wsX2_lake wsX2_follow := goodIn_r _ [18, 19, 2, 3, 20, 21, 6, 22, 23, 24, 25, 26, 27, 28, 29, 30, 31, 32, 33, 34] (by decide +kernel) (by decide +kernel)
set_option maxRecDepth 20000 in
theorem gX2_lake_X2_follow : GoodIn wsX2_lake (wsV RX2 81 RX2 yX2_follow wsX2_follow) := goodIn_app (goodIn_of _ (by decide +kernel)) ggX2_lake_X2_follow
theorem dX2_lake_0 : decode cX2_lake 0 = .ok (.aload_n 0, 1) := by decide +kernel
theorem dX2_lake_1 : decode cX2_lake 1 = .ok (.iconst 0, 1) := by decide +kernel
theorem dX2_lake_2 : decode cX2_lake 2 = .ok (.putfield 43, 3) := by decide +kernel
theorem dX2_lake_5 : decode cX2_lake 5 = .ok (.iload_n 1, 1) := by decide +kernel
theorem dX2_lake_6 : decode cX2_lake 6 = .ok (.iload_n 2, 1) := by decide +kernel
theorem dX2_lake_7 : decode cX2_lake 7 = .ok (.invokestatic 51, 3) := by decide +kernel
theorem dX2_lake_10 : decode cX2_lake 10 = .ok (.ifCond .ne 9, 3) := by decide +kernel
theorem dX2_lake_13 : decode cX2_lake 13 = .ok (.aload_n 0, 1) := by decide +kernel
theorem dX2_lake_14 : decode cX2_lake 14 = .ok (.iconst 1, 1) := by decide +kernel
theorem dX2_lake_15 : decode cX2_lake 15 = .ok (.invokevirtual 65, 3) := by decide +kernel
theorem dX2_lake_18 : decode cX2_lake 18 = .ok (.ireturn, 1) := by decide +kernel
theorem dX2_lake_19 : decode cX2_lake 19 = .ok (.iconst 0, 1) := by decide +kernel
theorem dX2_lake_20 : decode cX2_lake 20 = .ok (.istore_n 3, 1) := by decide +kernel
theorem dX2_lake_21 : decode cX2_lake 21 = .ok (.iload_n 3, 1) := by decide +kernel
theorem dX2_lake_22 : decode cX2_lake 22 = .ok (.bipush 64, 2) := by decide +kernel
theorem dX2_lake_24 : decode cX2_lake 24 = .ok (.if_icmp .ge 16, 3) := by decide +kernel
theorem dX2_lake_27 : decode cX2_lake 27 = .ok (.aload_n 0, 1) := by decide +kernel
theorem dX2_lake_28 : decode cX2_lake 28 = .ok (.getfield 37, 3) := by decide +kernel
theorem dX2_lake_31 : decode cX2_lake 31 = .ok (.iload_n 3, 1) := by decide +kernel
theorem dX2_lake_32 : decode cX2_lake 32 = .ok (.iconst 0, 1) := by decide +kernel
theorem dX2_lake_33 : decode cX2_lake 33 = .ok (.iastore, 1) := by decide +kernel
theorem dX2_lake_34 : decode cX2_lake 34 = .ok (.iinc 3 1, 3) := by decide +kernel
theorem dX2_lake_37 : decode cX2_lake 37 = .ok (.goto (-16), 3) := by decide +kernel
theorem dX2_lake_40 : decode cX2_lake 40 = .ok (.aload_n 0, 1) := by decide +kernel
theorem dX2_lake_41 : decode cX2_lake 41 = .ok (.getfield 13, 3) := by decide +kernel
theorem dX2_lake_44 : decode cX2_lake 44 = .ok (.bipush 8, 2) := by decide +kernel
theorem dX2_lake_46 : decode cX2_lake 46 = .ok (.iload_n 2, 1) := by decide +kernel
theorem dX2_lake_47 : decode cX2_lake 47 = .ok (.imul, 1) := by decide +kernel
theorem dX2_lake_48 : decode cX2_lake 48 = .ok (.iload_n 1, 1) := by decide +kernel
theorem dX2_lake_49 : decode cX2_lake 49 = .ok (.iadd, 1) := by decide +kernel
theorem dX2_lake_50 : decode cX2_lake 50 = .ok (.iaload, 1) := by decide +kernel
theorem dX2_lake_51 : decode cX2_lake 51 = .ok (.ifCond .ne 7, 3) := by decide +kernel
theorem dX2_lake_54 : decode cX2_lake 54 = .ok (.iconst 0, 1) := by decide +kernel
theorem dX2_lake_55 : decode cX2_lake 55 = .ok (.goto 14, 3) := by decide +kernel
theorem dX2_lake_58 : decode cX2_lake 58 = .ok (.aload_n 0, 1) := by decide +kernel
theorem dX2_lake_59 : decode cX2_lake 59 = .ok (.bipush 8, 2) := by decide +kernel
theorem dX2_lake_61 : decode cX2_lake 61 = .ok (.iload_n 2, 1) := by decide +kernel
theorem dX2_lake_62 : decode cX2_lake 62 = .ok (.imul, 1) := by decide +kernel
theorem dX2_lake_63 : decode cX2_lake 63 = .ok (.iload_n 1, 1) := by decide +kernel
theorem dX2_lake_64 : decode cX2_lake 64 = .ok (.iadd, 1) := by decide +kernel
theorem dX2_lake_65 : decode cX2_lake 65 = .ok (.iconst 1, 1) := by decide +kernel
theorem dX2_lake_66 : decode cX2_lake 66 = .ok (.invokevirtual 81, 3) := by decide +kernel
theorem dX2_lake_69 : decode cX2_lake 69 = .ok (.ireturn, 1) := by decide +kernel
theorem dX2_sum_0 : decode cX2_sum 0 = .ok (.iconst 0, 1) := by decide +kernel
theorem dX2_sum_1 : decode cX2_sum 1 = .ok (.istore_n 1, 1) := by decide +kernel
theorem dX2_sum_2 : decode cX2_sum 2 = .ok (.aload_n 0, 1) := by decide +kernel
theorem dX2_sum_3 : decode cX2_sum 3 = .ok (.astore_n 2, 1) := by decide +kernel
theorem dX2_sum_4 : decode cX2_sum 4 = .ok (.aload_n 2, 1) := by decide +kernel
theorem dX2_sum_5 : decode cX2_sum 5 = .ok (.arraylength, 1) := by decide +kernel
theorem dX2_sum_6 : decode cX2_sum 6 = .ok (.istore_n 3, 1) := by decide +kernel
theorem dX2_sum_7 : decode cX2_sum 7 = .ok (.iconst 0, 1) := by decide +kernel
theorem dX2_sum_8 : decode cX2_sum 8 = .ok (.istore 4, 2) := by decide +kernel
theorem dX2_sum_10 : decode cX2_sum 10 = .ok (.iload 4, 2) := by decide +kernel
theorem dX2_sum_12 : decode cX2_sum 12 = .ok (.iload_n 3, 1) := by decide +kernel
theorem dX2_sum_13 : decode cX2_sum 13 = .ok (.if_icmp .ge 20, 3) := by decide +kernel
theorem dX2_sum_16 : decode cX2_sum 16 = .ok (.aload_n 2, 1) := by decide +kernel
theorem dX2_sum_17 : decode cX2_sum 17 = .ok (.iload 4, 2) := by decide +kernel
theorem dX2_sum_19 : decode cX2_sum 19 = .ok (.iaload, 1) := by decide +kernel
theorem dX2_sum_20 : decode cX2_sum 20 = .ok (.istore 5, 2) := by decide +kernel
theorem dX2_sum_22 : decode cX2_sum 22 = .ok (.iload_n 1, 1) := by decide +kernel
theorem dX2_sum_23 : decode cX2_sum 23 = .ok (.iload 5, 2) := by decide +kernel
theorem dX2_sum_25 : decode cX2_sum 25 = .ok (.iadd, 1) := by decide +kernel
theorem dX2_sum_26 : decode cX2_sum 26 = .ok (.istore_n 1, 1) := by decide +kernel
theorem dX2_sum_27 : decode cX2_sum 27 = .ok (.iinc 4 1, 3) := by decide +kernel
theorem dX2_sum_30 : decode cX2_sum 30 = .ok (.goto (-20), 3) := by decide +kernel
theorem dX2_sum_33 : decode cX2_sum 33 = .ok (.iload_n 1, 1) := by decide +kernel
theorem dX2_sum_34 : decode cX2_sum 34 = .ok (.ireturn, 1) := by decide +kernel
theorem dX2_some_0 : decode cX2_some 0 = .ok (.iconst 0, 1) := by decide +kernel
theorem dX2_some_1 : decode cX2_some 1 = .ok (.istore_n 1, 1) := by decide +kernel
theorem dX2_some_2 : decode cX2_some 2 = .ok (.aload_n 0, 1) := by decide +kernel
theorem dX2_some_3 : decode cX2_some 3 = .ok (.astore_n 2, 1) := by decide +kernel
theorem dX2_some_4 : decode cX2_some 4 = .ok (.aload_n 2, 1) := by decide +kernel
theorem dX2_some_5 : decode cX2_some 5 = .ok (.arraylength, 1) := by decide +kernel
theorem dX2_some_6 : decode cX2_some 6 = .ok (.istore_n 3, 1) := by decide +kernel
theorem dX2_some_7 : decode cX2_some 7 = .ok (.iconst 0, 1) := by decide +kernel
theorem dX2_some_8 : decode cX2_some 8 = .ok (.istore 4, 2) := by decide +kernel
theorem dX2_some_10 : decode cX2_some 10 = .ok (.iload 4, 2) := by decide +kernel
theorem dX2_some_12 : decode cX2_some 12 = .ok (.iload_n 3, 1) := by decide +kernel
theorem dX2_some_13 : decode cX2_some 13 = .ok (.if_icmp .ge 28, 3) := by decide +kernel
theorem dX2_some_16 : decode cX2_some 16 = .ok (.aload_n 2, 1) := by decide +kernel
theorem dX2_some_17 : decode cX2_some 17 = .ok (.iload 4, 2) := by decide +kernel
theorem dX2_some_19 : decode cX2_some 19 = .ok (.iaload, 1) := by decide +kernel
theorem dX2_some_20 : decode cX2_some 20 = .ok (.istore 5, 2) := by decide +kernel
theorem dX2_some_22 : decode cX2_some 22 = .ok (.iload_n 1, 1) := by decide +kernel
theorem dX2_some_23 : decode cX2_some 23 = .ok (.iload 5, 2) := by decide +kernel
theorem dX2_some_25 : decode cX2_some 25 = .ok (.ifCond .le 7, 3) := by decide +kernel
theorem dX2_some_28 : decode cX2_some 28 = .ok (.iconst 1, 1) := by decide +kernel
theorem dX2_some_29 : decode cX2_some 29 = .ok (.goto 4, 3) := by decide +kernel
theorem dX2_some_32 : decode cX2_some 32 = .ok (.iconst 0, 1) := by decide +kernel
theorem dX2_some_33 : decode cX2_some 33 = .ok (.iadd, 1) := by decide +kernel
theorem dX2_some_34 : decode cX2_some 34 = .ok (.istore_n 1, 1) := by decide +kernel
theorem dX2_some_35 : decode cX2_some 35 = .ok (.iinc 4 1, 3) := by decide +kernel
theorem dX2_some_38 : decode cX2_some 38 = .ok (.goto (-28), 3) := by decide +kernel
theorem dX2_some_41 : decode cX2_some 41 = .ok (.iload_n 1, 1) := by decide +kernel
theorem dX2_some_42 : decode cX2_some 42 = .ok (.ireturn, 1) := by decide +kernel
set_option maxRecDepth 20000 in
theorem ggX2_counted_X2_sum : GoodIn wsX2_counted wsX2_sum := goodIn_r _ [8] (by decide +kernel) (by decide +kernel)
set_option maxRecDepth 20000 in
theorem gX2_counted_X2_sum : GoodIn wsX2_counted (va_wsS RX2 84 yX2_sum wsX2_sum) := goodIn_app (goodIn_of _ (by decide +kernel)) ggX2_counted_X2_sum
set_option maxRecDepth 20000 in
theorem ggX2_counted_X2_some : GoodIn wsX2_counted wsX2_some := goodIn_r _ [11] (by decide +kernel) (by decide +kernel)
set_option maxRecDepth 20000 in
theorem gX2_counted_X2_some : GoodIn wsX2_counted (va_wsS RX2 88 yX2_some wsX2_some) := goodIn_app (goodIn_of _ (by decide +kernel)) ggX2_counted_X2_some
set_option maxRecDepth 20000 in
theorem ggX2_counted_X2_lakes : GoodIn wsX2_counted wsX2_lakes := goodIn_r _ [15, 16, 2, 17, 18, 19, 7, 20, 21, 22, 23, 24, 25, 26, 27, 28, 29, 30, 31, 32, 33, 34, 35, 36] (by decide +kernel) (by decide +kernel)
set_option maxRecDepth 20000 in
theorem gX2_counted_X2_lakes : GoodIn wsX2_counted (wsV RX2 91 RX2 yX2_lakes wsX2_lakes) := goodIn_app (goodIn_of _ (by decide +kernel)) ggX2_counted_X2_lakes
theorem dX2_counted_0 : decode cX2_counted 0 = .ok (.iload_n 1, 1) := by decide +kernel
theorem dX2_counted_1 : decode cX2_counted 1 = .ok (.tableswitch 107 0 7 #[47, 54, 62, 70, 78, 85, 92, 100], 47) := by decide +kernel
theorem dX2_counted_48 : decode cX2_counted 48 = .ok (.aload_n 0, 1) := by decide +kernel
theorem dX2_counted_49 : decode cX2_counted 49 = .ok (.getfield 31, 3) := by decide +kernel
theorem dX2_counted_52 : decode cX2_counted 52 = .ok (.iconst 0, 1) := by decide +kernel
theorem dX2_counted_53 : decode cX2_counted 53 = .ok (.iaload, 1) := by decide +kernel
theorem dX2_counted_54 : decode cX2_counted 54 = .ok (.ireturn, 1) := by decide +kernel
theorem dX2_counted_55 : decode cX2_counted 55 = .ok (.aload_n 0, 1) := by decide +kernel
theorem dX2_counted_56 : decode cX2_counted 56 = .ok (.getfield 13, 3) := by decide +kernel
theorem dX2_counted_59 : decode cX2_counted 59 = .ok (.invokestatic 84, 3) := by decide +kernel
theorem dX2_counted_62 : decode cX2_counted 62 = .ok (.ireturn, 1) := by decide +kernel
theorem dX2_counted_63 : decode cX2_counted 63 = .ok (.aload_n 0, 1) := by decide +kernel
theorem dX2_counted_64 : decode cX2_counted 64 = .ok (.getfield 13, 3) := by decide +kernel
theorem dX2_counted_67 : decode cX2_counted 67 = .ok (.invokestatic 88, 3) := by decide +kernel
theorem dX2_counted_70 : decode cX2_counted 70 = .ok (.ireturn, 1) := by decide +kernel
theorem dX2_counted_71 : decode cX2_counted 71 = .ok (.aload_n 0, 1) := by decide +kernel
theorem dX2_counted_72 : decode cX2_counted 72 = .ok (.getfield 16, 3) := by decide +kernel
theorem dX2_counted_75 : decode cX2_counted 75 = .ok (.invokestatic 88, 3) := by decide +kernel
theorem dX2_counted_78 : decode cX2_counted 78 = .ok (.ireturn, 1) := by decide +kernel
theorem dX2_counted_79 : decode cX2_counted 79 = .ok (.aload_n 0, 1) := by decide +kernel
theorem dX2_counted_80 : decode cX2_counted 80 = .ok (.getfield 31, 3) := by decide +kernel
theorem dX2_counted_83 : decode cX2_counted 83 = .ok (.iconst 1, 1) := by decide +kernel
theorem dX2_counted_84 : decode cX2_counted 84 = .ok (.iaload, 1) := by decide +kernel
theorem dX2_counted_85 : decode cX2_counted 85 = .ok (.ireturn, 1) := by decide +kernel
theorem dX2_counted_86 : decode cX2_counted 86 = .ok (.aload_n 0, 1) := by decide +kernel
theorem dX2_counted_87 : decode cX2_counted 87 = .ok (.getfield 31, 3) := by decide +kernel
theorem dX2_counted_90 : decode cX2_counted 90 = .ok (.iconst 2, 1) := by decide +kernel
theorem dX2_counted_91 : decode cX2_counted 91 = .ok (.iaload, 1) := by decide +kernel
theorem dX2_counted_92 : decode cX2_counted 92 = .ok (.ireturn, 1) := by decide +kernel
theorem dX2_counted_93 : decode cX2_counted 93 = .ok (.aload_n 0, 1) := by decide +kernel
theorem dX2_counted_94 : decode cX2_counted 94 = .ok (.getfield 25, 3) := by decide +kernel
theorem dX2_counted_97 : decode cX2_counted 97 = .ok (.invokestatic 84, 3) := by decide +kernel
theorem dX2_counted_100 : decode cX2_counted 100 = .ok (.ireturn, 1) := by decide +kernel
theorem dX2_counted_101 : decode cX2_counted 101 = .ok (.aload_n 0, 1) := by decide +kernel
theorem dX2_counted_102 : decode cX2_counted 102 = .ok (.getfield 31, 3) := by decide +kernel
theorem dX2_counted_105 : decode cX2_counted 105 = .ok (.iconst 3, 1) := by decide +kernel
theorem dX2_counted_106 : decode cX2_counted 106 = .ok (.iaload, 1) := by decide +kernel
theorem dX2_counted_107 : decode cX2_counted 107 = .ok (.ireturn, 1) := by decide +kernel
theorem dX2_counted_108 : decode cX2_counted 108 = .ok (.aload_n 0, 1) := by decide +kernel
theorem dX2_counted_109 : decode cX2_counted 109 = .ok (.invokevirtual 91, 3) := by decide +kernel
theorem dX2_counted_112 : decode cX2_counted 112 = .ok (.ireturn, 1) := by decide +kernel
set_option maxRecDepth 20000 in
theorem ggX2_count_X2_isIn : GoodIn wsX2_count wsX2_isIn := goodIn_r _ [5] (by decide +kernel) (by decide +kernel)
set_option maxRecDepth 20000 in
theorem gX2_count_X2_isIn : GoodIn wsX2_count (va_wsS RX2 47 yX2_isIn wsX2_isIn) := goodIn_app (goodIn_of _ (by decide +kernel)) ggX2_count_X2_isIn
set_option maxRecDepth 20000 in
theorem ggX2_count_X2_counted : GoodIn wsX2_count wsX2_counted := goodIn_r _ [9, 10, 11, 12, 13, 14, 15, 4, 16, 17, 18, 19, 20, 21, 22, 23, 24, 25, 26, 27, 28, 29, 30, 31, 32, 37, 38, 39, 40, 41, 42, 43, 44, 45, 46, 47, 48] (by decide +kernel) (by decide +kernel)
set_option maxRecDepth 20000 in
theorem gX2_count_X2_counted : GoodIn wsX2_count (wsV RX2 95 RX2 yX2_counted wsX2_counted) := goodIn_app (goodIn_of _ (by decide +kernel)) ggX2_count_X2_counted
set_option maxRecDepth 20000 in
theorem ggX2_count_X2_fail : GoodIn wsX2_count wsX2_fail := goodIn_r _ [36, 1, 37, 38, 39, 40, 41, 42, 43, 44, 45, 46, 47, 48] (by decide +kernel) (by decide +kernel)
set_option maxRecDepth 20000 in
theorem gX2_count_X2_fail : GoodIn wsX2_count (wsV RX2 65 RX2 yX2_fail wsX2_fail) := goodIn_app (goodIn_of _ (by decide +kernel)) ggX2_count_X2_fail
theorem dX2_count_0 : decode cX2_count 0 = .ok (.aload_n 0, 1) := by decide +kernel
theorem dX2_count_1 : decode cX2_count 1 = .ok (.iconst 0, 1) := by decide +kernel
theorem dX2_count_2 : decode cX2_count 2 = .ok (.putfield 43, 3) := by decide +kernel
theorem dX2_count_5 : decode cX2_count 5 = .ok (.iload_n 1, 1) := by decide +kernel
theorem dX2_count_6 : decode cX2_count 6 = .ok (.iconst 0, 1) := by decide +kernel
theorem dX2_count_7 : decode cX2_count 7 = .ok (.bipush 8, 2) := by decide +kernel
theorem dX2_count_9 : decode cX2_count 9 = .ok (.invokestatic 47, 3) := by decide +kernel
theorem dX2_count_12 : decode cX2_count 12 = .ok (.ifCond .eq 11, 3) := by decide +kernel
theorem dX2_count_15 : decode cX2_count 15 = .ok (.aload_n 0, 1) := by decide +kernel
theorem dX2_count_16 : decode cX2_count 16 = .ok (.iload_n 1, 1) := by decide +kernel
theorem dX2_count_17 : decode cX2_count 17 = .ok (.invokevirtual 95, 3) := by decide +kernel
theorem dX2_count_20 : decode cX2_count 20 = .ok (.goto 8, 3) := by decide +kernel
theorem dX2_count_23 : decode cX2_count 23 = .ok (.aload_n 0, 1) := by decide +kernel
theorem dX2_count_24 : decode cX2_count 24 = .ok (.iconst 1, 1) := by decide +kernel
theorem dX2_count_25 : decode cX2_count 25 = .ok (.invokevirtual 65, 3) := by decide +kernel
theorem dX2_count_28 : decode cX2_count 28 = .ok (.ireturn, 1) := by decide +kernel
set_option maxRecDepth 20000 in
theorem ggX2_run_X2_beside : GoodIn wsX2_run wsX2_beside := goodIn_r _ [14] (by decide +kernel) (by decide +kernel)
set_option maxRecDepth 20000 in
theorem gX2_run_X2_beside : GoodIn wsX2_run (va_wsS RX2 78 yX2_beside wsX2_beside) := goodIn_app (goodIn_of _ (by decide +kernel)) ggX2_run_X2_beside
set_option maxRecDepth 20000 in
theorem ggX2_run_X2_crest : GoodIn wsX2_run wsX2_crest := goodIn_r _ [18, 19, 2, 1, 3, 4, 5, 6, 24, 25, 26, 27, 28, 29, 30, 31, 32, 33, 34, 35] (by decide +kernel) (by decide +kernel)
set_option maxRecDepth 20000 in
theorem gX2_run_X2_crest : GoodIn wsX2_run (wsV RX2 72 RX2 yX2_crest wsX2_crest) := goodIn_app (goodIn_of _ (by decide +kernel)) ggX2_run_X2_crest
set_option maxRecDepth 20000 in
theorem ggX2_run_X2_level : GoodIn wsX2_run wsX2_level := goodIn_r _ [23, 19, 1, 24, 25, 26, 27, 28, 29, 30, 31, 32, 33, 34, 35] (by decide +kernel) (by decide +kernel)
set_option maxRecDepth 20000 in
theorem gX2_run_X2_level : GoodIn wsX2_run (wsV RX2 69 RX2 yX2_level wsX2_level) := goodIn_app (goodIn_of _ (by decide +kernel)) ggX2_run_X2_level
theorem dX2_run_0 : decode cX2_run 0 = .ok (.aload_n 0, 1) := by decide +kernel
theorem dX2_run_1 : decode cX2_run 1 = .ok (.getfield 13, 3) := by decide +kernel
theorem dX2_run_4 : decode cX2_run 4 = .ok (.iload_n 1, 1) := by decide +kernel
theorem dX2_run_5 : decode cX2_run 5 = .ok (.iaload, 1) := by decide +kernel
theorem dX2_run_6 : decode cX2_run 6 = .ok (.aload_n 0, 1) := by decide +kernel
theorem dX2_run_7 : decode cX2_run 7 = .ok (.getfield 16, 3) := by decide +kernel
theorem dX2_run_10 : decode cX2_run 10 = .ok (.iload_n 1, 1) := by decide +kernel
theorem dX2_run_11 : decode cX2_run 11 = .ok (.iaload, 1) := by decide +kernel
theorem dX2_run_12 : decode cX2_run 12 = .ok (.if_icmp .gt 4, 3) := by decide +kernel
theorem dX2_run_15 : decode cX2_run 15 = .ok (.return_, 1) := by decide +kernel
theorem dX2_run_16 : decode cX2_run 16 = .ok (.iconst (-1), 1) := by decide +kernel
theorem dX2_run_17 : decode cX2_run 17 = .ok (.istore_n 2, 1) := by decide +kernel
theorem dX2_run_18 : decode cX2_run 18 = .ok (.iconst 0, 1) := by decide +kernel
theorem dX2_run_19 : decode cX2_run 19 = .ok (.istore_n 3, 1) := by decide +kernel
theorem dX2_run_20 : decode cX2_run 20 = .ok (.iload_n 3, 1) := by decide +kernel
theorem dX2_run_21 : decode cX2_run 21 = .ok (.iconst 4, 1) := by decide +kernel
theorem dX2_run_22 : decode cX2_run 22 = .ok (.if_icmp .ge 44, 3) := by decide +kernel
theorem dX2_run_25 : decode cX2_run 25 = .ok (.iload_n 1, 1) := by decide +kernel
theorem dX2_run_26 : decode cX2_run 26 = .ok (.iload_n 3, 1) := by decide +kernel
theorem dX2_run_27 : decode cX2_run 27 = .ok (.invokestatic 78, 3) := by decide +kernel
theorem dX2_run_30 : decode cX2_run 30 = .ok (.istore 4, 2) := by decide +kernel
theorem dX2_run_32 : decode cX2_run 32 = .ok (.iload 4, 2) := by decide +kernel
theorem dX2_run_34 : decode cX2_run 34 = .ok (.iconst (-1), 1) := by decide +kernel
theorem dX2_run_35 : decode cX2_run 35 = .ok (.if_icmp .eq 25, 3) := by decide +kernel
theorem dX2_run_38 : decode cX2_run 38 = .ok (.iload_n 2, 1) := by decide +kernel
theorem dX2_run_39 : decode cX2_run 39 = .ok (.iconst (-1), 1) := by decide +kernel
theorem dX2_run_40 : decode cX2_run 40 = .ok (.if_icmp .eq 17, 3) := by decide +kernel
theorem dX2_run_43 : decode cX2_run 43 = .ok (.aload_n 0, 1) := by decide +kernel
theorem dX2_run_44 : decode cX2_run 44 = .ok (.iload 4, 2) := by decide +kernel
theorem dX2_run_46 : decode cX2_run 46 = .ok (.invokevirtual 72, 3) := by decide +kernel
theorem dX2_run_49 : decode cX2_run 49 = .ok (.aload_n 0, 1) := by decide +kernel
theorem dX2_run_50 : decode cX2_run 50 = .ok (.iload_n 2, 1) := by decide +kernel
theorem dX2_run_51 : decode cX2_run 51 = .ok (.invokevirtual 72, 3) := by decide +kernel
theorem dX2_run_54 : decode cX2_run 54 = .ok (.if_icmp .ge 6, 3) := by decide +kernel
theorem dX2_run_57 : decode cX2_run 57 = .ok (.iload 4, 2) := by decide +kernel
theorem dX2_run_59 : decode cX2_run 59 = .ok (.istore_n 2, 1) := by decide +kernel
theorem dX2_run_60 : decode cX2_run 60 = .ok (.iinc 3 1, 3) := by decide +kernel
theorem dX2_run_63 : decode cX2_run 63 = .ok (.goto (-43), 3) := by decide +kernel
theorem dX2_run_66 : decode cX2_run 66 = .ok (.aload_n 0, 1) := by decide +kernel
theorem dX2_run_67 : decode cX2_run 67 = .ok (.getfield 13, 3) := by decide +kernel
theorem dX2_run_70 : decode cX2_run 70 = .ok (.iload_n 1, 1) := by decide +kernel
theorem dX2_run_71 : decode cX2_run 71 = .ok (.iaload, 1) := by decide +kernel
theorem dX2_run_72 : decode cX2_run 72 = .ok (.aload_n 0, 1) := by decide +kernel
theorem dX2_run_73 : decode cX2_run 73 = .ok (.getfield 16, 3) := by decide +kernel
theorem dX2_run_76 : decode cX2_run 76 = .ok (.iload_n 1, 1) := by decide +kernel
theorem dX2_run_77 : decode cX2_run 77 = .ok (.iaload, 1) := by decide +kernel
theorem dX2_run_78 : decode cX2_run 78 = .ok (.isub, 1) := by decide +kernel
theorem dX2_run_79 : decode cX2_run 79 = .ok (.iconst 0, 1) := by decide +kernel
theorem dX2_run_80 : decode cX2_run 80 = .ok (.aload_n 0, 1) := by decide +kernel
theorem dX2_run_81 : decode cX2_run 81 = .ok (.iload_n 1, 1) := by decide +kernel
theorem dX2_run_82 : decode cX2_run 82 = .ok (.invokevirtual 69, 3) := by decide +kernel
theorem dX2_run_85 : decode cX2_run 85 = .ok (.aload_n 0, 1) := by decide +kernel
theorem dX2_run_86 : decode cX2_run 86 = .ok (.iload_n 2, 1) := by decide +kernel
theorem dX2_run_87 : decode cX2_run 87 = .ok (.invokevirtual 72, 3) := by decide +kernel
theorem dX2_run_90 : decode cX2_run 90 = .ok (.isub, 1) := by decide +kernel
theorem dX2_run_91 : decode cX2_run 91 = .ok (.invokestatic 59, 3) := by decide +kernel
theorem dX2_run_94 : decode cX2_run 94 = .ok (.iconst 2, 1) := by decide +kernel
theorem dX2_run_95 : decode cX2_run 95 = .ok (.idiv, 1) := by decide +kernel
theorem dX2_run_96 : decode cX2_run 96 = .ok (.invokestatic 98, 3) := by decide +kernel
theorem dX2_run_99 : decode cX2_run 99 = .ok (.istore_n 3, 1) := by decide +kernel
theorem dX2_run_100 : decode cX2_run 100 = .ok (.aload_n 0, 1) := by decide +kernel
theorem dX2_run_101 : decode cX2_run 101 = .ok (.getfield 34, 3) := by decide +kernel
theorem dX2_run_104 : decode cX2_run 104 = .ok (.iload_n 1, 1) := by decide +kernel
theorem dX2_run_105 : decode cX2_run 105 = .ok (.dup2, 1) := by decide +kernel
theorem dX2_run_106 : decode cX2_run 106 = .ok (.iaload, 1) := by decide +kernel
theorem dX2_run_107 : decode cX2_run 107 = .ok (.iload_n 3, 1) := by decide +kernel
theorem dX2_run_108 : decode cX2_run 108 = .ok (.isub, 1) := by decide +kernel
theorem dX2_run_109 : decode cX2_run 109 = .ok (.iastore, 1) := by decide +kernel
theorem dX2_run_110 : decode cX2_run 110 = .ok (.aload_n 0, 1) := by decide +kernel
theorem dX2_run_111 : decode cX2_run 111 = .ok (.getfield 34, 3) := by decide +kernel
theorem dX2_run_114 : decode cX2_run 114 = .ok (.iload_n 2, 1) := by decide +kernel
theorem dX2_run_115 : decode cX2_run 115 = .ok (.dup2, 1) := by decide +kernel
theorem dX2_run_116 : decode cX2_run 116 = .ok (.iaload, 1) := by decide +kernel
theorem dX2_run_117 : decode cX2_run 117 = .ok (.iload_n 3, 1) := by decide +kernel
theorem dX2_run_118 : decode cX2_run 118 = .ok (.iadd, 1) := by decide +kernel
theorem dX2_run_119 : decode cX2_run 119 = .ok (.iastore, 1) := by decide +kernel
theorem dX2_run_120 : decode cX2_run 120 = .ok (.return_, 1) := by decide +kernel
set_option maxRecDepth 20000 in
theorem ggX2_hourOn_X2_run : GoodIn wsX2_hourOn wsX2_run := goodIn_r _ [17, 1, 5, 18, 19, 10, 20, 8, 9, 11, 4, 21, 22, 16, 23, 24, 25, 26, 27, 28, 29, 30, 31, 32, 33, 34, 35, 36, 37, 38, 39, 40, 41, 42, 43, 44] (by decide +kernel) (by decide +kernel)
set_option maxRecDepth 20000 in
theorem gX2_hourOn_X2_run : GoodIn wsX2_hourOn (wsV RX2 101 RX2 yX2_run wsX2_run) := goodIn_app (goodIn_of _ (by decide +kernel)) ggX2_hourOn_X2_run
theorem dX2_hourOn_0 : decode cX2_hourOn 0 = .ok (.iconst 0, 1) := by decide +kernel
theorem dX2_hourOn_1 : decode cX2_hourOn 1 = .ok (.istore_n 1, 1) := by decide +kernel
theorem dX2_hourOn_2 : decode cX2_hourOn 2 = .ok (.iload_n 1, 1) := by decide +kernel
theorem dX2_hourOn_3 : decode cX2_hourOn 3 = .ok (.bipush 64, 2) := by decide +kernel
theorem dX2_hourOn_5 : decode cX2_hourOn 5 = .ok (.if_icmp .ge 39, 3) := by decide +kernel
theorem dX2_hourOn_8 : decode cX2_hourOn 8 = .ok (.aload_n 0, 1) := by decide +kernel
theorem dX2_hourOn_9 : decode cX2_hourOn 9 = .ok (.getfield 13, 3) := by decide +kernel
theorem dX2_hourOn_12 : decode cX2_hourOn 12 = .ok (.iload_n 1, 1) := by decide +kernel
theorem dX2_hourOn_13 : decode cX2_hourOn 13 = .ok (.dup2, 1) := by decide +kernel
theorem dX2_hourOn_14 : decode cX2_hourOn 14 = .ok (.iaload, 1) := by decide +kernel
theorem dX2_hourOn_15 : decode cX2_hourOn 15 = .ok (.aload_n 0, 1) := by decide +kernel
theorem dX2_hourOn_16 : decode cX2_hourOn 16 = .ok (.getfield 28, 3) := by decide +kernel
theorem dX2_hourOn_19 : decode cX2_hourOn 19 = .ok (.aload_n 0, 1) := by decide +kernel
theorem dX2_hourOn_20 : decode cX2_hourOn 20 = .ok (.getfield 31, 3) := by decide +kernel
theorem dX2_hourOn_23 : decode cX2_hourOn 23 = .ok (.iconst 0, 1) := by decide +kernel
theorem dX2_hourOn_24 : decode cX2_hourOn 24 = .ok (.iaload, 1) := by decide +kernel
theorem dX2_hourOn_25 : decode cX2_hourOn 25 = .ok (.bipush 12, 2) := by decide +kernel
theorem dX2_hourOn_27 : decode cX2_hourOn 27 = .ok (.irem, 1) := by decide +kernel
theorem dX2_hourOn_28 : decode cX2_hourOn 28 = .ok (.iaload, 1) := by decide +kernel
theorem dX2_hourOn_29 : decode cX2_hourOn 29 = .ok (.iadd, 1) := by decide +kernel
theorem dX2_hourOn_30 : decode cX2_hourOn 30 = .ok (.iastore, 1) := by decide +kernel
theorem dX2_hourOn_31 : decode cX2_hourOn 31 = .ok (.aload_n 0, 1) := by decide +kernel
theorem dX2_hourOn_32 : decode cX2_hourOn 32 = .ok (.getfield 34, 3) := by decide +kernel
theorem dX2_hourOn_35 : decode cX2_hourOn 35 = .ok (.iload_n 1, 1) := by decide +kernel
theorem dX2_hourOn_36 : decode cX2_hourOn 36 = .ok (.iconst 0, 1) := by decide +kernel
theorem dX2_hourOn_37 : decode cX2_hourOn 37 = .ok (.iastore, 1) := by decide +kernel
theorem dX2_hourOn_38 : decode cX2_hourOn 38 = .ok (.iinc 1 1, 3) := by decide +kernel
theorem dX2_hourOn_41 : decode cX2_hourOn 41 = .ok (.goto (-39), 3) := by decide +kernel
theorem dX2_hourOn_44 : decode cX2_hourOn 44 = .ok (.iconst 0, 1) := by decide +kernel
theorem dX2_hourOn_45 : decode cX2_hourOn 45 = .ok (.istore_n 1, 1) := by decide +kernel
theorem dX2_hourOn_46 : decode cX2_hourOn 46 = .ok (.iload_n 1, 1) := by decide +kernel
theorem dX2_hourOn_47 : decode cX2_hourOn 47 = .ok (.bipush 64, 2) := by decide +kernel
theorem dX2_hourOn_49 : decode cX2_hourOn 49 = .ok (.if_icmp .ge 14, 3) := by decide +kernel
theorem dX2_hourOn_52 : decode cX2_hourOn 52 = .ok (.aload_n 0, 1) := by decide +kernel
theorem dX2_hourOn_53 : decode cX2_hourOn 53 = .ok (.iload_n 1, 1) := by decide +kernel
theorem dX2_hourOn_54 : decode cX2_hourOn 54 = .ok (.invokevirtual 101, 3) := by decide +kernel
theorem dX2_hourOn_57 : decode cX2_hourOn 57 = .ok (.iinc 1 1, 3) := by decide +kernel
theorem dX2_hourOn_60 : decode cX2_hourOn 60 = .ok (.goto (-14), 3) := by decide +kernel
theorem dX2_hourOn_63 : decode cX2_hourOn 63 = .ok (.iconst 0, 1) := by decide +kernel
theorem dX2_hourOn_64 : decode cX2_hourOn 64 = .ok (.istore_n 1, 1) := by decide +kernel
theorem dX2_hourOn_65 : decode cX2_hourOn 65 = .ok (.iload_n 1, 1) := by decide +kernel
theorem dX2_hourOn_66 : decode cX2_hourOn 66 = .ok (.bipush 64, 2) := by decide +kernel
theorem dX2_hourOn_68 : decode cX2_hourOn 68 = .ok (.if_icmp .ge 182, 3) := by decide +kernel
theorem dX2_hourOn_71 : decode cX2_hourOn 71 = .ok (.aload_n 0, 1) := by decide +kernel
theorem dX2_hourOn_72 : decode cX2_hourOn 72 = .ok (.getfield 13, 3) := by decide +kernel
theorem dX2_hourOn_75 : decode cX2_hourOn 75 = .ok (.iload_n 1, 1) := by decide +kernel
theorem dX2_hourOn_76 : decode cX2_hourOn 76 = .ok (.dup2, 1) := by decide +kernel
theorem dX2_hourOn_77 : decode cX2_hourOn 77 = .ok (.iaload, 1) := by decide +kernel
theorem dX2_hourOn_78 : decode cX2_hourOn 78 = .ok (.aload_n 0, 1) := by decide +kernel
theorem dX2_hourOn_79 : decode cX2_hourOn 79 = .ok (.getfield 34, 3) := by decide +kernel
theorem dX2_hourOn_82 : decode cX2_hourOn 82 = .ok (.iload_n 1, 1) := by decide +kernel
theorem dX2_hourOn_83 : decode cX2_hourOn 83 = .ok (.iaload, 1) := by decide +kernel
theorem dX2_hourOn_84 : decode cX2_hourOn 84 = .ok (.iadd, 1) := by decide +kernel
theorem dX2_hourOn_85 : decode cX2_hourOn 85 = .ok (.iastore, 1) := by decide +kernel
theorem dX2_hourOn_86 : decode cX2_hourOn 86 = .ok (.aload_n 0, 1) := by decide +kernel
theorem dX2_hourOn_87 : decode cX2_hourOn 87 = .ok (.getfield 16, 3) := by decide +kernel
theorem dX2_hourOn_90 : decode cX2_hourOn 90 = .ok (.iload_n 1, 1) := by decide +kernel
theorem dX2_hourOn_91 : decode cX2_hourOn 91 = .ok (.iaload, 1) := by decide +kernel
theorem dX2_hourOn_92 : decode cX2_hourOn 92 = .ok (.ifCond .le 63, 3) := by decide +kernel
theorem dX2_hourOn_95 : decode cX2_hourOn 95 = .ok (.aload_n 0, 1) := by decide +kernel
theorem dX2_hourOn_96 : decode cX2_hourOn 96 = .ok (.getfield 13, 3) := by decide +kernel
theorem dX2_hourOn_99 : decode cX2_hourOn 99 = .ok (.iload_n 1, 1) := by decide +kernel
theorem dX2_hourOn_100 : decode cX2_hourOn 100 = .ok (.iaload, 1) := by decide +kernel
theorem dX2_hourOn_101 : decode cX2_hourOn 101 = .ok (.aload_n 0, 1) := by decide +kernel
theorem dX2_hourOn_102 : decode cX2_hourOn 102 = .ok (.getfield 16, 3) := by decide +kernel
theorem dX2_hourOn_105 : decode cX2_hourOn 105 = .ok (.iload_n 1, 1) := by decide +kernel
theorem dX2_hourOn_106 : decode cX2_hourOn 106 = .ok (.iaload, 1) := by decide +kernel
theorem dX2_hourOn_107 : decode cX2_hourOn 107 = .ok (.if_icmp .lt 48, 3) := by decide +kernel
theorem dX2_hourOn_110 : decode cX2_hourOn 110 = .ok (.aload_n 0, 1) := by decide +kernel
theorem dX2_hourOn_111 : decode cX2_hourOn 111 = .ok (.getfield 19, 3) := by decide +kernel
theorem dX2_hourOn_114 : decode cX2_hourOn 114 = .ok (.iload_n 1, 1) := by decide +kernel
theorem dX2_hourOn_115 : decode cX2_hourOn 115 = .ok (.dup2, 1) := by decide +kernel
theorem dX2_hourOn_116 : decode cX2_hourOn 116 = .ok (.iaload, 1) := by decide +kernel
theorem dX2_hourOn_117 : decode cX2_hourOn 117 = .ok (.iconst 1, 1) := by decide +kernel
theorem dX2_hourOn_118 : decode cX2_hourOn 118 = .ok (.iadd, 1) := by decide +kernel
theorem dX2_hourOn_119 : decode cX2_hourOn 119 = .ok (.iastore, 1) := by decide +kernel
theorem dX2_hourOn_120 : decode cX2_hourOn 120 = .ok (.aload_n 0, 1) := by decide +kernel
theorem dX2_hourOn_121 : decode cX2_hourOn 121 = .ok (.getfield 19, 3) := by decide +kernel
theorem dX2_hourOn_124 : decode cX2_hourOn 124 = .ok (.iload_n 1, 1) := by decide +kernel
theorem dX2_hourOn_125 : decode cX2_hourOn 125 = .ok (.iaload, 1) := by decide +kernel
theorem dX2_hourOn_126 : decode cX2_hourOn 126 = .ok (.bipush 10, 2) := by decide +kernel
theorem dX2_hourOn_128 : decode cX2_hourOn 128 = .ok (.if_icmp .ne 27, 3) := by decide +kernel
theorem dX2_hourOn_131 : decode cX2_hourOn 131 = .ok (.aload_n 0, 1) := by decide +kernel
theorem dX2_hourOn_132 : decode cX2_hourOn 132 = .ok (.getfield 19, 3) := by decide +kernel
theorem dX2_hourOn_135 : decode cX2_hourOn 135 = .ok (.iload_n 1, 1) := by decide +kernel
theorem dX2_hourOn_136 : decode cX2_hourOn 136 = .ok (.iconst 0, 1) := by decide +kernel
theorem dX2_hourOn_137 : decode cX2_hourOn 137 = .ok (.iastore, 1) := by decide +kernel
theorem dX2_hourOn_138 : decode cX2_hourOn 138 = .ok (.aload_n 0, 1) := by decide +kernel
theorem dX2_hourOn_139 : decode cX2_hourOn 139 = .ok (.getfield 16, 3) := by decide +kernel
theorem dX2_hourOn_142 : decode cX2_hourOn 142 = .ok (.iload_n 1, 1) := by decide +kernel
theorem dX2_hourOn_143 : decode cX2_hourOn 143 = .ok (.iconst 0, 1) := by decide +kernel
theorem dX2_hourOn_144 : decode cX2_hourOn 144 = .ok (.iastore, 1) := by decide +kernel
theorem dX2_hourOn_145 : decode cX2_hourOn 145 = .ok (.aload_n 0, 1) := by decide +kernel
theorem dX2_hourOn_146 : decode cX2_hourOn 146 = .ok (.getfield 31, 3) := by decide +kernel
theorem dX2_hourOn_149 : decode cX2_hourOn 149 = .ok (.iconst 1, 1) := by decide +kernel
theorem dX2_hourOn_150 : decode cX2_hourOn 150 = .ok (.dup2, 1) := by decide +kernel
theorem dX2_hourOn_151 : decode cX2_hourOn 151 = .ok (.iaload, 1) := by decide +kernel
theorem dX2_hourOn_152 : decode cX2_hourOn 152 = .ok (.iconst 1, 1) := by decide +kernel
theorem dX2_hourOn_153 : decode cX2_hourOn 153 = .ok (.iadd, 1) := by decide +kernel
theorem dX2_hourOn_154 : decode cX2_hourOn 154 = .ok (.iastore, 1) := by decide +kernel
theorem dX2_hourOn_155 : decode cX2_hourOn 155 = .ok (.aload_n 0, 1) := by decide +kernel
theorem dX2_hourOn_156 : decode cX2_hourOn 156 = .ok (.getfield 22, 3) := by decide +kernel
theorem dX2_hourOn_159 : decode cX2_hourOn 159 = .ok (.iload_n 1, 1) := by decide +kernel
theorem dX2_hourOn_160 : decode cX2_hourOn 160 = .ok (.iaload, 1) := by decide +kernel
theorem dX2_hourOn_161 : decode cX2_hourOn 161 = .ok (.aload_n 0, 1) := by decide +kernel
theorem dX2_hourOn_162 : decode cX2_hourOn 162 = .ok (.getfield 13, 3) := by decide +kernel
theorem dX2_hourOn_165 : decode cX2_hourOn 165 = .ok (.iload_n 1, 1) := by decide +kernel
theorem dX2_hourOn_166 : decode cX2_hourOn 166 = .ok (.iaload, 1) := by decide +kernel
theorem dX2_hourOn_167 : decode cX2_hourOn 167 = .ok (.invokestatic 98, 3) := by decide +kernel
theorem dX2_hourOn_170 : decode cX2_hourOn 170 = .ok (.istore_n 2, 1) := by decide +kernel
theorem dX2_hourOn_171 : decode cX2_hourOn 171 = .ok (.aload_n 0, 1) := by decide +kernel
theorem dX2_hourOn_172 : decode cX2_hourOn 172 = .ok (.getfield 13, 3) := by decide +kernel
theorem dX2_hourOn_175 : decode cX2_hourOn 175 = .ok (.iload_n 1, 1) := by decide +kernel
theorem dX2_hourOn_176 : decode cX2_hourOn 176 = .ok (.dup2, 1) := by decide +kernel
theorem dX2_hourOn_177 : decode cX2_hourOn 177 = .ok (.iaload, 1) := by decide +kernel
theorem dX2_hourOn_178 : decode cX2_hourOn 178 = .ok (.iload_n 2, 1) := by decide +kernel
theorem dX2_hourOn_179 : decode cX2_hourOn 179 = .ok (.isub, 1) := by decide +kernel
theorem dX2_hourOn_180 : decode cX2_hourOn 180 = .ok (.iastore, 1) := by decide +kernel
theorem dX2_hourOn_181 : decode cX2_hourOn 181 = .ok (.aload_n 0, 1) := by decide +kernel
theorem dX2_hourOn_182 : decode cX2_hourOn 182 = .ok (.getfield 31, 3) := by decide +kernel
theorem dX2_hourOn_185 : decode cX2_hourOn 185 = .ok (.iconst 2, 1) := by decide +kernel
theorem dX2_hourOn_186 : decode cX2_hourOn 186 = .ok (.dup2, 1) := by decide +kernel
theorem dX2_hourOn_187 : decode cX2_hourOn 187 = .ok (.iaload, 1) := by decide +kernel
theorem dX2_hourOn_188 : decode cX2_hourOn 188 = .ok (.iload_n 2, 1) := by decide +kernel
theorem dX2_hourOn_189 : decode cX2_hourOn 189 = .ok (.iadd, 1) := by decide +kernel
theorem dX2_hourOn_190 : decode cX2_hourOn 190 = .ok (.iastore, 1) := by decide +kernel
theorem dX2_hourOn_191 : decode cX2_hourOn 191 = .ok (.aload_n 0, 1) := by decide +kernel
theorem dX2_hourOn_192 : decode cX2_hourOn 192 = .ok (.getfield 13, 3) := by decide +kernel
theorem dX2_hourOn_195 : decode cX2_hourOn 195 = .ok (.iload_n 1, 1) := by decide +kernel
theorem dX2_hourOn_196 : decode cX2_hourOn 196 = .ok (.iaload, 1) := by decide +kernel
theorem dX2_hourOn_197 : decode cX2_hourOn 197 = .ok (.iconst 3, 1) := by decide +kernel
theorem dX2_hourOn_198 : decode cX2_hourOn 198 = .ok (.if_icmp .ge 6, 3) := by decide +kernel
theorem dX2_hourOn_201 : decode cX2_hourOn 201 = .ok (.goto 43, 3) := by decide +kernel
theorem dX2_hourOn_204 : decode cX2_hourOn 204 = .ok (.aload_n 0, 1) := by decide +kernel
theorem dX2_hourOn_205 : decode cX2_hourOn 205 = .ok (.getfield 25, 3) := by decide +kernel
theorem dX2_hourOn_208 : decode cX2_hourOn 208 = .ok (.iload_n 1, 1) := by decide +kernel
theorem dX2_hourOn_209 : decode cX2_hourOn 209 = .ok (.iaload, 1) := by decide +kernel
theorem dX2_hourOn_210 : decode cX2_hourOn 210 = .ok (.aload_n 0, 1) := by decide +kernel
theorem dX2_hourOn_211 : decode cX2_hourOn 211 = .ok (.getfield 25, 3) := by decide +kernel
theorem dX2_hourOn_214 : decode cX2_hourOn 214 = .ok (.iload_n 1, 1) := by decide +kernel
theorem dX2_hourOn_215 : decode cX2_hourOn 215 = .ok (.iaload, 1) := by decide +kernel
theorem dX2_hourOn_216 : decode cX2_hourOn 216 = .ok (.iconst 3, 1) := by decide +kernel
theorem dX2_hourOn_217 : decode cX2_hourOn 217 = .ok (.idiv, 1) := by decide +kernel
theorem dX2_hourOn_218 : decode cX2_hourOn 218 = .ok (.iconst 1, 1) := by decide +kernel
theorem dX2_hourOn_219 : decode cX2_hourOn 219 = .ok (.iadd, 1) := by decide +kernel
theorem dX2_hourOn_220 : decode cX2_hourOn 220 = .ok (.invokestatic 98, 3) := by decide +kernel
theorem dX2_hourOn_223 : decode cX2_hourOn 223 = .ok (.istore_n 3, 1) := by decide +kernel
theorem dX2_hourOn_224 : decode cX2_hourOn 224 = .ok (.aload_n 0, 1) := by decide +kernel
theorem dX2_hourOn_225 : decode cX2_hourOn 225 = .ok (.getfield 25, 3) := by decide +kernel
theorem dX2_hourOn_228 : decode cX2_hourOn 228 = .ok (.iload_n 1, 1) := by decide +kernel
theorem dX2_hourOn_229 : decode cX2_hourOn 229 = .ok (.dup2, 1) := by decide +kernel
theorem dX2_hourOn_230 : decode cX2_hourOn 230 = .ok (.iaload, 1) := by decide +kernel
theorem dX2_hourOn_231 : decode cX2_hourOn 231 = .ok (.iload_n 3, 1) := by decide +kernel
theorem dX2_hourOn_232 : decode cX2_hourOn 232 = .ok (.isub, 1) := by decide +kernel
theorem dX2_hourOn_233 : decode cX2_hourOn 233 = .ok (.iastore, 1) := by decide +kernel
theorem dX2_hourOn_234 : decode cX2_hourOn 234 = .ok (.aload_n 0, 1) := by decide +kernel
theorem dX2_hourOn_235 : decode cX2_hourOn 235 = .ok (.getfield 31, 3) := by decide +kernel
theorem dX2_hourOn_238 : decode cX2_hourOn 238 = .ok (.iconst 3, 1) := by decide +kernel
theorem dX2_hourOn_239 : decode cX2_hourOn 239 = .ok (.dup2, 1) := by decide +kernel
theorem dX2_hourOn_240 : decode cX2_hourOn 240 = .ok (.iaload, 1) := by decide +kernel
theorem dX2_hourOn_241 : decode cX2_hourOn 241 = .ok (.iload_n 3, 1) := by decide +kernel
theorem dX2_hourOn_242 : decode cX2_hourOn 242 = .ok (.iadd, 1) := by decide +kernel
theorem dX2_hourOn_243 : decode cX2_hourOn 243 = .ok (.iastore, 1) := by decide +kernel
theorem dX2_hourOn_244 : decode cX2_hourOn 244 = .ok (.iinc 1 1, 3) := by decide +kernel
theorem dX2_hourOn_247 : decode cX2_hourOn 247 = .ok (.goto (-182), 3) := by decide +kernel
theorem dX2_hourOn_250 : decode cX2_hourOn 250 = .ok (.aload_n 0, 1) := by decide +kernel
theorem dX2_hourOn_251 : decode cX2_hourOn 251 = .ok (.getfield 31, 3) := by decide +kernel
theorem dX2_hourOn_254 : decode cX2_hourOn 254 = .ok (.iconst 0, 1) := by decide +kernel
theorem dX2_hourOn_255 : decode cX2_hourOn 255 = .ok (.dup2, 1) := by decide +kernel
theorem dX2_hourOn_256 : decode cX2_hourOn 256 = .ok (.iaload, 1) := by decide +kernel
theorem dX2_hourOn_257 : decode cX2_hourOn 257 = .ok (.iconst 1, 1) := by decide +kernel
theorem dX2_hourOn_258 : decode cX2_hourOn 258 = .ok (.iadd, 1) := by decide +kernel
theorem dX2_hourOn_259 : decode cX2_hourOn 259 = .ok (.iastore, 1) := by decide +kernel
theorem dX2_hourOn_260 : decode cX2_hourOn 260 = .ok (.return_, 1) := by decide +kernel
set_option maxRecDepth 20000 in
theorem ggX2_hoursOn_X2_hourOn : GoodIn wsX2_hoursOn wsX2_hourOn := goodIn_r _ [6, 7, 8, 1, 9, 10, 11, 12, 13, 14, 15, 16, 17, 18, 19, 20, 5, 21, 22, 23, 24, 25, 26, 27, 28, 29, 30, 31, 32, 33, 34, 35, 36, 37, 38, 39, 40, 41, 42, 43, 44, 45, 46, 47, 48] (by decide +kernel) (by decide +kernel)
set_option maxRecDepth 20000 in
theorem gX2_hoursOn_X2_hourOn : GoodIn wsX2_hoursOn (wsV RX2 105 RX2 yX2_hourOn wsX2_hourOn) := goodIn_app (goodIn_of _ (by decide +kernel)) ggX2_hoursOn_X2_hourOn
theorem dX2_hoursOn_0 : decode cX2_hoursOn 0 = .ok (.aload_n 0, 1) := by decide +kernel
theorem dX2_hoursOn_1 : decode cX2_hoursOn 1 = .ok (.getfield 31, 3) := by decide +kernel
theorem dX2_hoursOn_4 : decode cX2_hoursOn 4 = .ok (.iconst 3, 1) := by decide +kernel
theorem dX2_hoursOn_5 : decode cX2_hoursOn 5 = .ok (.iaload, 1) := by decide +kernel
theorem dX2_hoursOn_6 : decode cX2_hoursOn 6 = .ok (.istore_n 2, 1) := by decide +kernel
theorem dX2_hoursOn_7 : decode cX2_hoursOn 7 = .ok (.iconst 0, 1) := by decide +kernel
theorem dX2_hoursOn_8 : decode cX2_hoursOn 8 = .ok (.istore_n 3, 1) := by decide +kernel
theorem dX2_hoursOn_9 : decode cX2_hoursOn 9 = .ok (.iload_n 3, 1) := by decide +kernel
theorem dX2_hoursOn_10 : decode cX2_hoursOn 10 = .ok (.iload_n 1, 1) := by decide +kernel
theorem dX2_hoursOn_11 : decode cX2_hoursOn 11 = .ok (.if_icmp .ge 13, 3) := by decide +kernel
theorem dX2_hoursOn_14 : decode cX2_hoursOn 14 = .ok (.aload_n 0, 1) := by decide +kernel
theorem dX2_hoursOn_15 : decode cX2_hoursOn 15 = .ok (.invokevirtual 105, 3) := by decide +kernel
theorem dX2_hoursOn_18 : decode cX2_hoursOn 18 = .ok (.iinc 3 1, 3) := by decide +kernel
theorem dX2_hoursOn_21 : decode cX2_hoursOn 21 = .ok (.goto (-12), 3) := by decide +kernel
theorem dX2_hoursOn_24 : decode cX2_hoursOn 24 = .ok (.aload_n 0, 1) := by decide +kernel
theorem dX2_hoursOn_25 : decode cX2_hoursOn 25 = .ok (.getfield 31, 3) := by decide +kernel
theorem dX2_hoursOn_28 : decode cX2_hoursOn 28 = .ok (.iconst 3, 1) := by decide +kernel
theorem dX2_hoursOn_29 : decode cX2_hoursOn 29 = .ok (.iaload, 1) := by decide +kernel
theorem dX2_hoursOn_30 : decode cX2_hoursOn 30 = .ok (.iload_n 2, 1) := by decide +kernel
theorem dX2_hoursOn_31 : decode cX2_hoursOn 31 = .ok (.isub, 1) := by decide +kernel
theorem dX2_hoursOn_32 : decode cX2_hoursOn 32 = .ok (.ireturn, 1) := by decide +kernel
set_option maxRecDepth 20000 in
theorem ggX2_pass_X2_isIn : GoodIn wsX2_pass wsX2_isIn := goodIn_r _ [5] (by decide +kernel) (by decide +kernel)
set_option maxRecDepth 20000 in
theorem gX2_pass_X2_isIn : GoodIn wsX2_pass (va_wsS RX2 47 yX2_isIn wsX2_isIn) := goodIn_app (goodIn_of _ (by decide +kernel)) ggX2_pass_X2_isIn
set_option maxRecDepth 20000 in
theorem ggX2_pass_X2_hoursOn : GoodIn wsX2_pass wsX2_hoursOn := goodIn_r _ [9, 10, 11, 12, 13, 4, 14, 15, 16, 17, 18, 19, 20, 21, 22, 23, 24, 25, 26, 27, 28, 29, 30, 31, 32, 33, 34, 35, 36, 37, 38, 39, 40, 41, 42, 43, 44, 49, 50, 51, 52, 53, 54, 55, 56, 57, 58, 59, 60] (by decide +kernel) (by decide +kernel)
set_option maxRecDepth 20000 in
theorem gX2_pass_X2_hoursOn : GoodIn wsX2_pass (wsV RX2 108 RX2 yX2_hoursOn wsX2_hoursOn) := goodIn_app (goodIn_of _ (by decide +kernel)) ggX2_pass_X2_hoursOn
set_option maxRecDepth 20000 in
theorem ggX2_pass_X2_fail : GoodIn wsX2_pass wsX2_fail := goodIn_r _ [48, 1, 49, 50, 51, 52, 53, 54, 55, 56, 57, 58, 59, 60] (by decide +kernel) (by decide +kernel)
set_option maxRecDepth 20000 in
theorem gX2_pass_X2_fail : GoodIn wsX2_pass (wsV RX2 65 RX2 yX2_fail wsX2_fail) := goodIn_app (goodIn_of _ (by decide +kernel)) ggX2_pass_X2_fail
theorem dX2_pass_0 : decode cX2_pass 0 = .ok (.aload_n 0, 1) := by decide +kernel
theorem dX2_pass_1 : decode cX2_pass 1 = .ok (.iconst 0, 1) := by decide +kernel
theorem dX2_pass_2 : decode cX2_pass 2 = .ok (.putfield 43, 3) := by decide +kernel
theorem dX2_pass_5 : decode cX2_pass 5 = .ok (.iload_n 1, 1) := by decide +kernel
theorem dX2_pass_6 : decode cX2_pass 6 = .ok (.iconst 1, 1) := by decide +kernel
theorem dX2_pass_7 : decode cX2_pass 7 = .ok (.bipush 48, 2) := by decide +kernel
theorem dX2_pass_9 : decode cX2_pass 9 = .ok (.invokestatic 47, 3) := by decide +kernel
theorem dX2_pass_12 : decode cX2_pass 12 = .ok (.ifCond .eq 11, 3) := by decide +kernel
theorem dX2_pass_15 : decode cX2_pass 15 = .ok (.aload_n 0, 1) := by decide +kernel
theorem dX2_pass_16 : decode cX2_pass 16 = .ok (.iload_n 1, 1) := by decide +kernel
theorem dX2_pass_17 : decode cX2_pass 17 = .ok (.invokevirtual 108, 3) := by decide +kernel
theorem dX2_pass_20 : decode cX2_pass 20 = .ok (.goto 8, 3) := by decide +kernel
theorem dX2_pass_23 : decode cX2_pass 23 = .ok (.aload_n 0, 1) := by decide +kernel
theorem dX2_pass_24 : decode cX2_pass 24 = .ok (.iconst 1, 1) := by decide +kernel
theorem dX2_pass_25 : decode cX2_pass 25 = .ok (.invokevirtual 65, 3) := by decide +kernel
theorem dX2_pass_28 : decode cX2_pass 28 = .ok (.ireturn, 1) := by decide +kernel
theorem dX2_kept_0 : decode cX2_kept 0 = .ok (.iconst 5, 1) := by decide +kernel
theorem dX2_kept_1 : decode cX2_kept 1 = .ok (.anewarray 111, 3) := by decide +kernel
theorem dX2_kept_4 : decode cX2_kept 4 = .ok (.dup, 1) := by decide +kernel
theorem dX2_kept_5 : decode cX2_kept 5 = .ok (.iconst 0, 1) := by decide +kernel
theorem dX2_kept_6 : decode cX2_kept 6 = .ok (.aload_n 0, 1) := by decide +kernel
theorem dX2_kept_7 : decode cX2_kept 7 = .ok (.getfield 13, 3) := by decide +kernel
theorem dX2_kept_10 : decode cX2_kept 10 = .ok (.invokevirtual 112, 3) := by decide +kernel
theorem dX2_kept_13 : decode cX2_kept 13 = .ok (.checkcast 111, 3) := by decide +kernel
theorem dX2_kept_16 : decode cX2_kept 16 = .ok (.aastore, 1) := by decide +kernel
theorem dX2_kept_17 : decode cX2_kept 17 = .ok (.dup, 1) := by decide +kernel
theorem dX2_kept_18 : decode cX2_kept 18 = .ok (.iconst 1, 1) := by decide +kernel
theorem dX2_kept_19 : decode cX2_kept 19 = .ok (.aload_n 0, 1) := by decide +kernel
theorem dX2_kept_20 : decode cX2_kept 20 = .ok (.getfield 16, 3) := by decide +kernel
theorem dX2_kept_23 : decode cX2_kept 23 = .ok (.invokevirtual 112, 3) := by decide +kernel
theorem dX2_kept_26 : decode cX2_kept 26 = .ok (.checkcast 111, 3) := by decide +kernel
theorem dX2_kept_29 : decode cX2_kept 29 = .ok (.aastore, 1) := by decide +kernel
theorem dX2_kept_30 : decode cX2_kept 30 = .ok (.dup, 1) := by decide +kernel
theorem dX2_kept_31 : decode cX2_kept 31 = .ok (.iconst 2, 1) := by decide +kernel
theorem dX2_kept_32 : decode cX2_kept 32 = .ok (.aload_n 0, 1) := by decide +kernel
theorem dX2_kept_33 : decode cX2_kept 33 = .ok (.getfield 19, 3) := by decide +kernel
theorem dX2_kept_36 : decode cX2_kept 36 = .ok (.invokevirtual 112, 3) := by decide +kernel
theorem dX2_kept_39 : decode cX2_kept 39 = .ok (.checkcast 111, 3) := by decide +kernel
theorem dX2_kept_42 : decode cX2_kept 42 = .ok (.aastore, 1) := by decide +kernel
theorem dX2_kept_43 : decode cX2_kept 43 = .ok (.dup, 1) := by decide +kernel
theorem dX2_kept_44 : decode cX2_kept 44 = .ok (.iconst 3, 1) := by decide +kernel
theorem dX2_kept_45 : decode cX2_kept 45 = .ok (.aload_n 0, 1) := by decide +kernel
theorem dX2_kept_46 : decode cX2_kept 46 = .ok (.getfield 25, 3) := by decide +kernel
theorem dX2_kept_49 : decode cX2_kept 49 = .ok (.invokevirtual 112, 3) := by decide +kernel
theorem dX2_kept_52 : decode cX2_kept 52 = .ok (.checkcast 111, 3) := by decide +kernel
theorem dX2_kept_55 : decode cX2_kept 55 = .ok (.aastore, 1) := by decide +kernel
theorem dX2_kept_56 : decode cX2_kept 56 = .ok (.dup, 1) := by decide +kernel
theorem dX2_kept_57 : decode cX2_kept 57 = .ok (.iconst 4, 1) := by decide +kernel
theorem dX2_kept_58 : decode cX2_kept 58 = .ok (.aload_n 0, 1) := by decide +kernel
theorem dX2_kept_59 : decode cX2_kept 59 = .ok (.getfield 31, 3) := by decide +kernel
theorem dX2_kept_62 : decode cX2_kept 62 = .ok (.invokevirtual 112, 3) := by decide +kernel
theorem dX2_kept_65 : decode cX2_kept 65 = .ok (.checkcast 111, 3) := by decide +kernel
theorem dX2_kept_68 : decode cX2_kept 68 = .ok (.aastore, 1) := by decide +kernel
theorem dX2_kept_69 : decode cX2_kept 69 = .ok (.areturn, 1) := by decide +kernel
theorem dX2_bringBack_0 : decode cX2_bringBack 0 = .ok (.iconst 5, 1) := by decide +kernel
theorem dX2_bringBack_1 : decode cX2_bringBack 1 = .ok (.anewarray 111, 3) := by decide +kernel
theorem dX2_bringBack_4 : decode cX2_bringBack 4 = .ok (.dup, 1) := by decide +kernel
theorem dX2_bringBack_5 : decode cX2_bringBack 5 = .ok (.iconst 0, 1) := by decide +kernel
theorem dX2_bringBack_6 : decode cX2_bringBack 6 = .ok (.aload_n 0, 1) := by decide +kernel
theorem dX2_bringBack_7 : decode cX2_bringBack 7 = .ok (.getfield 13, 3) := by decide +kernel
theorem dX2_bringBack_10 : decode cX2_bringBack 10 = .ok (.aastore, 1) := by decide +kernel
theorem dX2_bringBack_11 : decode cX2_bringBack 11 = .ok (.dup, 1) := by decide +kernel
theorem dX2_bringBack_12 : decode cX2_bringBack 12 = .ok (.iconst 1, 1) := by decide +kernel
theorem dX2_bringBack_13 : decode cX2_bringBack 13 = .ok (.aload_n 0, 1) := by decide +kernel
theorem dX2_bringBack_14 : decode cX2_bringBack 14 = .ok (.getfield 16, 3) := by decide +kernel
theorem dX2_bringBack_17 : decode cX2_bringBack 17 = .ok (.aastore, 1) := by decide +kernel
theorem dX2_bringBack_18 : decode cX2_bringBack 18 = .ok (.dup, 1) := by decide +kernel
theorem dX2_bringBack_19 : decode cX2_bringBack 19 = .ok (.iconst 2, 1) := by decide +kernel
theorem dX2_bringBack_20 : decode cX2_bringBack 20 = .ok (.aload_n 0, 1) := by decide +kernel
theorem dX2_bringBack_21 : decode cX2_bringBack 21 = .ok (.getfield 19, 3) := by decide +kernel
theorem dX2_bringBack_24 : decode cX2_bringBack 24 = .ok (.aastore, 1) := by decide +kernel
theorem dX2_bringBack_25 : decode cX2_bringBack 25 = .ok (.dup, 1) := by decide +kernel
theorem dX2_bringBack_26 : decode cX2_bringBack 26 = .ok (.iconst 3, 1) := by decide +kernel
theorem dX2_bringBack_27 : decode cX2_bringBack 27 = .ok (.aload_n 0, 1) := by decide +kernel
theorem dX2_bringBack_28 : decode cX2_bringBack 28 = .ok (.getfield 25, 3) := by decide +kernel
theorem dX2_bringBack_31 : decode cX2_bringBack 31 = .ok (.aastore, 1) := by decide +kernel
theorem dX2_bringBack_32 : decode cX2_bringBack 32 = .ok (.dup, 1) := by decide +kernel
theorem dX2_bringBack_33 : decode cX2_bringBack 33 = .ok (.iconst 4, 1) := by decide +kernel
theorem dX2_bringBack_34 : decode cX2_bringBack 34 = .ok (.aload_n 0, 1) := by decide +kernel
theorem dX2_bringBack_35 : decode cX2_bringBack 35 = .ok (.getfield 31, 3) := by decide +kernel
theorem dX2_bringBack_38 : decode cX2_bringBack 38 = .ok (.aastore, 1) := by decide +kernel
theorem dX2_bringBack_39 : decode cX2_bringBack 39 = .ok (.astore_n 2, 1) := by decide +kernel
theorem dX2_bringBack_40 : decode cX2_bringBack 40 = .ok (.iconst 0, 1) := by decide +kernel
theorem dX2_bringBack_41 : decode cX2_bringBack 41 = .ok (.istore_n 3, 1) := by decide +kernel
theorem dX2_bringBack_42 : decode cX2_bringBack 42 = .ok (.iload_n 3, 1) := by decide +kernel
theorem dX2_bringBack_43 : decode cX2_bringBack 43 = .ok (.aload_n 2, 1) := by decide +kernel
theorem dX2_bringBack_44 : decode cX2_bringBack 44 = .ok (.arraylength, 1) := by decide +kernel
theorem dX2_bringBack_45 : decode cX2_bringBack 45 = .ok (.if_icmp .ge 24, 3) := by decide +kernel
theorem dX2_bringBack_48 : decode cX2_bringBack 48 = .ok (.aload_n 1, 1) := by decide +kernel
theorem dX2_bringBack_49 : decode cX2_bringBack 49 = .ok (.iload_n 3, 1) := by decide +kernel
theorem dX2_bringBack_50 : decode cX2_bringBack 50 = .ok (.aaload, 1) := by decide +kernel
theorem dX2_bringBack_51 : decode cX2_bringBack 51 = .ok (.iconst 0, 1) := by decide +kernel
theorem dX2_bringBack_52 : decode cX2_bringBack 52 = .ok (.aload_n 2, 1) := by decide +kernel
theorem dX2_bringBack_53 : decode cX2_bringBack 53 = .ok (.iload_n 3, 1) := by decide +kernel
theorem dX2_bringBack_54 : decode cX2_bringBack 54 = .ok (.aaload, 1) := by decide +kernel
theorem dX2_bringBack_55 : decode cX2_bringBack 55 = .ok (.iconst 0, 1) := by decide +kernel
theorem dX2_bringBack_56 : decode cX2_bringBack 56 = .ok (.aload_n 2, 1) := by decide +kernel
theorem dX2_bringBack_57 : decode cX2_bringBack 57 = .ok (.iload_n 3, 1) := by decide +kernel
theorem dX2_bringBack_58 : decode cX2_bringBack 58 = .ok (.aaload, 1) := by decide +kernel
theorem dX2_bringBack_59 : decode cX2_bringBack 59 = .ok (.arraylength, 1) := by decide +kernel
theorem dX2_bringBack_60 : decode cX2_bringBack 60 = .ok (.invokestatic 116, 3) := by decide +kernel
theorem dX2_bringBack_63 : decode cX2_bringBack 63 = .ok (.iinc 3 1, 3) := by decide +kernel
theorem dX2_bringBack_66 : decode cX2_bringBack 66 = .ok (.goto (-24), 3) := by decide +kernel
theorem dX2_bringBack_69 : decode cX2_bringBack 69 = .ok (.return_, 1) := by decide +kernel
set_option maxRecDepth 20000 in
theorem ggX2_floods_X2_isCell : GoodIn wsX2_floods wsX2_isCell := goodIn_r _ [6, 7, 8, 5, 9] (by decide +kernel) (by decide +kernel)
set_option maxRecDepth 20000 in
theorem gX2_floods_X2_isCell : GoodIn wsX2_floods (va_wsS RX2 51 yX2_isCell wsX2_isCell) := goodIn_app (goodIn_of _ (by decide +kernel)) ggX2_floods_X2_isCell
set_option maxRecDepth 20000 in
theorem ggX2_floods_X2_fail : GoodIn wsX2_floods wsX2_fail := goodIn_r _ [13, 1, 66, 67, 68, 69, 70, 71, 72, 73, 74, 75, 76, 77] (by decide +kernel) (by decide +kernel)
set_option maxRecDepth 20000 in
theorem gX2_floods_X2_fail : GoodIn wsX2_floods (wsV RX2 65 RX2 yX2_fail wsX2_fail) := goodIn_app (goodIn_of _ (by decide +kernel)) ggX2_floods_X2_fail
set_option maxRecDepth 20000 in
theorem ggX2_floods_X2_kept : GoodIn wsX2_floods wsX2_kept := goodIn_r _ [17, 18, 2, 19, 20, 21, 22, 23, 24, 25, 26, 27, 66, 67, 68, 69, 70, 71, 72, 73, 74, 75, 76, 77] (by decide +kernel) (by decide +kernel)
set_option maxRecDepth 20000 in
theorem gX2_floods_X2_kept : GoodIn wsX2_floods (wsV RX2 122 RX2 yX2_kept wsX2_kept) := goodIn_app (goodIn_of _ (by decide +kernel)) ggX2_floods_X2_kept
set_option maxRecDepth 20000 in
theorem ggX2_floods_X2_hourOn : GoodIn wsX2_floods wsX2_hourOn := goodIn_r _ [31, 2, 32, 27, 33, 24, 25, 34, 35, 36, 37, 38, 26, 39, 40, 41, 5, 42, 43, 44, 45, 46, 47, 48, 49, 50, 51, 52, 53, 54, 55, 56, 57, 66, 67, 68, 69, 70, 71, 72, 73, 74, 75, 76, 77] (by decide +kernel) (by decide +kernel)
set_option maxRecDepth 20000 in
theorem gX2_floods_X2_hourOn : GoodIn wsX2_floods (wsV RX2 105 RX2 yX2_hourOn wsX2_hourOn) := goodIn_app (goodIn_of _ (by decide +kernel)) ggX2_floods_X2_hourOn
set_option maxRecDepth 20000 in
theorem ggX2_floods_X2_bringBack : GoodIn wsX2_floods wsX2_bringBack := goodIn_r _ [61, 18, 2, 24, 25, 26, 27, 62, 63, 64, 65, 66, 67, 68, 69, 70, 71, 72, 73, 74, 75, 76, 77] (by decide +kernel) (by decide +kernel)
set_option maxRecDepth 20000 in
theorem gX2_floods_X2_bringBack : GoodIn wsX2_floods (wsV RX2 126 RX2 yX2_bringBack wsX2_bringBack) := goodIn_app (goodIn_of _ (by decide +kernel)) ggX2_floods_X2_bringBack
theorem dX2_floods_0 : decode cX2_floods 0 = .ok (.aload_n 0, 1) := by decide +kernel
theorem dX2_floods_1 : decode cX2_floods 1 = .ok (.iconst 0, 1) := by decide +kernel
theorem dX2_floods_2 : decode cX2_floods 2 = .ok (.putfield 43, 3) := by decide +kernel
theorem dX2_floods_5 : decode cX2_floods 5 = .ok (.iload_n 1, 1) := by decide +kernel
theorem dX2_floods_6 : decode cX2_floods 6 = .ok (.iload_n 2, 1) := by decide +kernel
theorem dX2_floods_7 : decode cX2_floods 7 = .ok (.invokestatic 51, 3) := by decide +kernel
theorem dX2_floods_10 : decode cX2_floods 10 = .ok (.ifCond .ne 9, 3) := by decide +kernel
theorem dX2_floods_13 : decode cX2_floods 13 = .ok (.aload_n 0, 1) := by decide +kernel
theorem dX2_floods_14 : decode cX2_floods 14 = .ok (.iconst 1, 1) := by decide +kernel
theorem dX2_floods_15 : decode cX2_floods 15 = .ok (.invokevirtual 65, 3) := by decide +kernel
theorem dX2_floods_18 : decode cX2_floods 18 = .ok (.ireturn, 1) := by decide +kernel
theorem dX2_floods_19 : decode cX2_floods 19 = .ok (.bipush 8, 2) := by decide +kernel
theorem dX2_floods_21 : decode cX2_floods 21 = .ok (.iload_n 2, 1) := by decide +kernel
theorem dX2_floods_22 : decode cX2_floods 22 = .ok (.imul, 1) := by decide +kernel
theorem dX2_floods_23 : decode cX2_floods 23 = .ok (.iload_n 1, 1) := by decide +kernel
theorem dX2_floods_24 : decode cX2_floods 24 = .ok (.iadd, 1) := by decide +kernel
theorem dX2_floods_25 : decode cX2_floods 25 = .ok (.istore_n 3, 1) := by decide +kernel
theorem dX2_floods_26 : decode cX2_floods 26 = .ok (.aload_n 0, 1) := by decide +kernel
theorem dX2_floods_27 : decode cX2_floods 27 = .ok (.invokevirtual 122, 3) := by decide +kernel
theorem dX2_floods_30 : decode cX2_floods 30 = .ok (.astore 4, 2) := by decide +kernel
theorem dX2_floods_32 : decode cX2_floods 32 = .ok (.iconst 0, 1) := by decide +kernel
theorem dX2_floods_33 : decode cX2_floods 33 = .ok (.istore 5, 2) := by decide +kernel
theorem dX2_floods_35 : decode cX2_floods 35 = .ok (.iload 5, 2) := by decide +kernel
theorem dX2_floods_37 : decode cX2_floods 37 = .ok (.bipush 48, 2) := by decide +kernel
theorem dX2_floods_39 : decode cX2_floods 39 = .ok (.if_icmp .ge 23, 3) := by decide +kernel
theorem dX2_floods_42 : decode cX2_floods 42 = .ok (.aload_n 0, 1) := by decide +kernel
theorem dX2_floods_43 : decode cX2_floods 43 = .ok (.getfield 13, 3) := by decide +kernel
theorem dX2_floods_46 : decode cX2_floods 46 = .ok (.iload_n 3, 1) := by decide +kernel
theorem dX2_floods_47 : decode cX2_floods 47 = .ok (.iaload, 1) := by decide +kernel
theorem dX2_floods_48 : decode cX2_floods 48 = .ok (.iconst 3, 1) := by decide +kernel
theorem dX2_floods_49 : decode cX2_floods 49 = .ok (.if_icmp .ge 13, 3) := by decide +kernel
theorem dX2_floods_52 : decode cX2_floods 52 = .ok (.aload_n 0, 1) := by decide +kernel
theorem dX2_floods_53 : decode cX2_floods 53 = .ok (.invokevirtual 105, 3) := by decide +kernel
theorem dX2_floods_56 : decode cX2_floods 56 = .ok (.iinc 5 1, 3) := by decide +kernel
theorem dX2_floods_59 : decode cX2_floods 59 = .ok (.goto (-24), 3) := by decide +kernel
theorem dX2_floods_62 : decode cX2_floods 62 = .ok (.aload_n 0, 1) := by decide +kernel
theorem dX2_floods_63 : decode cX2_floods 63 = .ok (.getfield 13, 3) := by decide +kernel
theorem dX2_floods_66 : decode cX2_floods 66 = .ok (.iload_n 3, 1) := by decide +kernel
theorem dX2_floods_67 : decode cX2_floods 67 = .ok (.iaload, 1) := by decide +kernel
theorem dX2_floods_68 : decode cX2_floods 68 = .ok (.iconst 3, 1) := by decide +kernel
theorem dX2_floods_69 : decode cX2_floods 69 = .ok (.if_icmp .ge 6, 3) := by decide +kernel
theorem dX2_floods_72 : decode cX2_floods 72 = .ok (.iconst (-1), 1) := by decide +kernel
theorem dX2_floods_73 : decode cX2_floods 73 = .ok (.istore 5, 2) := by decide +kernel
theorem dX2_floods_75 : decode cX2_floods 75 = .ok (.aload_n 0, 1) := by decide +kernel
theorem dX2_floods_76 : decode cX2_floods 76 = .ok (.aload 4, 2) := by decide +kernel
theorem dX2_floods_78 : decode cX2_floods 78 = .ok (.invokevirtual 126, 3) := by decide +kernel
theorem dX2_floods_81 : decode cX2_floods 81 = .ok (.iload 5, 2) := by decide +kernel
theorem dX2_floods_83 : decode cX2_floods 83 = .ok (.ireturn, 1) := by decide +kernel
set_option maxRecDepth 20000 in
theorem ggX2_breaks_X2_isCell : GoodIn wsX2_breaks wsX2_isCell := goodIn_r _ [6, 7, 8, 5, 9] (by decide +kernel) (by decide +kernel)
set_option maxRecDepth 20000 in
theorem gX2_breaks_X2_isCell : GoodIn wsX2_breaks (va_wsS RX2 51 yX2_isCell wsX2_isCell) := goodIn_app (goodIn_of _ (by decide +kernel)) ggX2_breaks_X2_isCell
set_option maxRecDepth 20000 in
theorem ggX2_breaks_X2_fail : GoodIn wsX2_breaks wsX2_fail := goodIn_r _ [13, 1, 66, 67, 68, 69, 70, 71, 72, 73, 74, 75, 76, 77] (by decide +kernel) (by decide +kernel)
set_option maxRecDepth 20000 in
theorem gX2_breaks_X2_fail : GoodIn wsX2_breaks (wsV RX2 65 RX2 yX2_fail wsX2_fail) := goodIn_app (goodIn_of _ (by decide +kernel)) ggX2_breaks_X2_fail
set_option maxRecDepth 20000 in
theorem ggX2_breaks_X2_kept : GoodIn wsX2_breaks wsX2_kept := goodIn_r _ [17, 18, 19, 20, 21, 22, 23, 24, 2, 25, 26, 27, 66, 67, 68, 69, 70, 71, 72, 73, 74, 75, 76, 77] (by decide +kernel) (by decide +kernel)
set_option maxRecDepth 20000 in
theorem gX2_breaks_X2_kept : GoodIn wsX2_breaks (wsV RX2 122 RX2 yX2_kept wsX2_kept) := goodIn_app (goodIn_of _ (by decide +kernel)) ggX2_breaks_X2_kept
set_option maxRecDepth 20000 in
theorem ggX2_breaks_X2_hourOn : GoodIn wsX2_breaks wsX2_hourOn := goodIn_r _ [31, 19, 32, 27, 33, 2, 25, 34, 35, 36, 37, 38, 26, 39, 40, 41, 5, 42, 43, 44, 45, 46, 47, 48, 49, 50, 51, 52, 53, 54, 55, 56, 57, 66, 67, 68, 69, 70, 71, 72, 73, 74, 75, 76, 77] (by decide +kernel) (by decide +kernel)
set_option maxRecDepth 20000 in
theorem gX2_breaks_X2_hourOn : GoodIn wsX2_breaks (wsV RX2 105 RX2 yX2_hourOn wsX2_hourOn) := goodIn_app (goodIn_of _ (by decide +kernel)) ggX2_breaks_X2_hourOn
set_option maxRecDepth 20000 in
theorem ggX2_breaks_X2_bringBack : GoodIn wsX2_breaks wsX2_bringBack := goodIn_r _ [61, 18, 19, 2, 25, 26, 27, 62, 63, 64, 65, 66, 67, 68, 69, 70, 71, 72, 73, 74, 75, 76, 77] (by decide +kernel) (by decide +kernel)
set_option maxRecDepth 20000 in
theorem gX2_breaks_X2_bringBack : GoodIn wsX2_breaks (wsV RX2 126 RX2 yX2_bringBack wsX2_bringBack) := goodIn_app (goodIn_of _ (by decide +kernel)) ggX2_breaks_X2_bringBack
theorem dX2_breaks_0 : decode cX2_breaks 0 = .ok (.aload_n 0, 1) := by decide +kernel
theorem dX2_breaks_1 : decode cX2_breaks 1 = .ok (.iconst 0, 1) := by decide +kernel
theorem dX2_breaks_2 : decode cX2_breaks 2 = .ok (.putfield 43, 3) := by decide +kernel
theorem dX2_breaks_5 : decode cX2_breaks 5 = .ok (.iload_n 1, 1) := by decide +kernel
theorem dX2_breaks_6 : decode cX2_breaks 6 = .ok (.iload_n 2, 1) := by decide +kernel
theorem dX2_breaks_7 : decode cX2_breaks 7 = .ok (.invokestatic 51, 3) := by decide +kernel
theorem dX2_breaks_10 : decode cX2_breaks 10 = .ok (.ifCond .ne 9, 3) := by decide +kernel
theorem dX2_breaks_13 : decode cX2_breaks 13 = .ok (.aload_n 0, 1) := by decide +kernel
theorem dX2_breaks_14 : decode cX2_breaks 14 = .ok (.iconst 1, 1) := by decide +kernel
theorem dX2_breaks_15 : decode cX2_breaks 15 = .ok (.invokevirtual 65, 3) := by decide +kernel
theorem dX2_breaks_18 : decode cX2_breaks 18 = .ok (.ireturn, 1) := by decide +kernel
theorem dX2_breaks_19 : decode cX2_breaks 19 = .ok (.bipush 8, 2) := by decide +kernel
theorem dX2_breaks_21 : decode cX2_breaks 21 = .ok (.iload_n 2, 1) := by decide +kernel
theorem dX2_breaks_22 : decode cX2_breaks 22 = .ok (.imul, 1) := by decide +kernel
theorem dX2_breaks_23 : decode cX2_breaks 23 = .ok (.iload_n 1, 1) := by decide +kernel
theorem dX2_breaks_24 : decode cX2_breaks 24 = .ok (.iadd, 1) := by decide +kernel
theorem dX2_breaks_25 : decode cX2_breaks 25 = .ok (.istore_n 3, 1) := by decide +kernel
theorem dX2_breaks_26 : decode cX2_breaks 26 = .ok (.aload_n 0, 1) := by decide +kernel
theorem dX2_breaks_27 : decode cX2_breaks 27 = .ok (.getfield 16, 3) := by decide +kernel
theorem dX2_breaks_30 : decode cX2_breaks 30 = .ok (.iload_n 3, 1) := by decide +kernel
theorem dX2_breaks_31 : decode cX2_breaks 31 = .ok (.iaload, 1) := by decide +kernel
theorem dX2_breaks_32 : decode cX2_breaks 32 = .ok (.ifCond .ne 5, 3) := by decide +kernel
theorem dX2_breaks_35 : decode cX2_breaks 35 = .ok (.iconst (-1), 1) := by decide +kernel
theorem dX2_breaks_36 : decode cX2_breaks 36 = .ok (.ireturn, 1) := by decide +kernel
theorem dX2_breaks_37 : decode cX2_breaks 37 = .ok (.aload_n 0, 1) := by decide +kernel
theorem dX2_breaks_38 : decode cX2_breaks 38 = .ok (.invokevirtual 122, 3) := by decide +kernel
theorem dX2_breaks_41 : decode cX2_breaks 41 = .ok (.astore 4, 2) := by decide +kernel
theorem dX2_breaks_43 : decode cX2_breaks 43 = .ok (.iconst 0, 1) := by decide +kernel
theorem dX2_breaks_44 : decode cX2_breaks 44 = .ok (.istore 5, 2) := by decide +kernel
theorem dX2_breaks_46 : decode cX2_breaks 46 = .ok (.iload 5, 2) := by decide +kernel
theorem dX2_breaks_48 : decode cX2_breaks 48 = .ok (.bipush 48, 2) := by decide +kernel
theorem dX2_breaks_50 : decode cX2_breaks 50 = .ok (.if_icmp .ge 22, 3) := by decide +kernel
theorem dX2_breaks_53 : decode cX2_breaks 53 = .ok (.aload_n 0, 1) := by decide +kernel
theorem dX2_breaks_54 : decode cX2_breaks 54 = .ok (.getfield 16, 3) := by decide +kernel
theorem dX2_breaks_57 : decode cX2_breaks 57 = .ok (.iload_n 3, 1) := by decide +kernel
theorem dX2_breaks_58 : decode cX2_breaks 58 = .ok (.iaload, 1) := by decide +kernel
theorem dX2_breaks_59 : decode cX2_breaks 59 = .ok (.ifCond .le 13, 3) := by decide +kernel
theorem dX2_breaks_62 : decode cX2_breaks 62 = .ok (.aload_n 0, 1) := by decide +kernel
theorem dX2_breaks_63 : decode cX2_breaks 63 = .ok (.invokevirtual 105, 3) := by decide +kernel
theorem dX2_breaks_66 : decode cX2_breaks 66 = .ok (.iinc 5 1, 3) := by decide +kernel
theorem dX2_breaks_69 : decode cX2_breaks 69 = .ok (.goto (-23), 3) := by decide +kernel
theorem dX2_breaks_72 : decode cX2_breaks 72 = .ok (.aload_n 0, 1) := by decide +kernel
theorem dX2_breaks_73 : decode cX2_breaks 73 = .ok (.getfield 16, 3) := by decide +kernel
theorem dX2_breaks_76 : decode cX2_breaks 76 = .ok (.iload_n 3, 1) := by decide +kernel
theorem dX2_breaks_77 : decode cX2_breaks 77 = .ok (.iaload, 1) := by decide +kernel
theorem dX2_breaks_78 : decode cX2_breaks 78 = .ok (.ifCond .le 6, 3) := by decide +kernel
theorem dX2_breaks_81 : decode cX2_breaks 81 = .ok (.iconst (-1), 1) := by decide +kernel
theorem dX2_breaks_82 : decode cX2_breaks 82 = .ok (.istore 5, 2) := by decide +kernel
theorem dX2_breaks_84 : decode cX2_breaks 84 = .ok (.aload_n 0, 1) := by decide +kernel
theorem dX2_breaks_85 : decode cX2_breaks 85 = .ok (.aload 4, 2) := by decide +kernel
theorem dX2_breaks_87 : decode cX2_breaks 87 = .ok (.invokevirtual 126, 3) := by decide +kernel
theorem dX2_breaks_90 : decode cX2_breaks 90 = .ok (.iload 5, 2) := by decide +kernel
theorem dX2_breaks_92 : decode cX2_breaks 92 = .ok (.ireturn, 1) := by decide +kernel
set_option maxRecDepth 20000 in
theorem ggX2_foresee_X2_isIn : GoodIn wsX2_foresee wsX2_isIn := goodIn_r _ [5] (by decide +kernel) (by decide +kernel)
set_option maxRecDepth 20000 in
theorem gX2_foresee_X2_isIn : GoodIn wsX2_foresee (va_wsS RX2 47 yX2_isIn wsX2_isIn) := goodIn_app (goodIn_of _ (by decide +kernel)) ggX2_foresee_X2_isIn
set_option maxRecDepth 20000 in
theorem ggX2_foresee_X2_fail : GoodIn wsX2_foresee wsX2_fail := goodIn_r _ [9, 1, 87, 88, 89, 90, 91, 92, 93, 94, 95, 96, 97, 98] (by decide +kernel) (by decide +kernel)
set_option maxRecDepth 20000 in
theorem gX2_foresee_X2_fail : GoodIn wsX2_foresee (wsV RX2 65 RX2 yX2_fail wsX2_fail) := goodIn_app (goodIn_of _ (by decide +kernel)) ggX2_foresee_X2_fail
set_option maxRecDepth 20000 in
theorem ggX2_foresee_X2_kept : GoodIn wsX2_foresee wsX2_kept := goodIn_r _ [13, 14, 15, 16, 17, 18, 19, 20, 21, 22, 23, 24, 87, 88, 89, 90, 91, 92, 93, 94, 95, 96, 97, 98] (by decide +kernel) (by decide +kernel)
set_option maxRecDepth 20000 in
theorem gX2_foresee_X2_kept : GoodIn wsX2_foresee (wsV RX2 122 RX2 yX2_kept wsX2_kept) := goodIn_app (goodIn_of _ (by decide +kernel)) ggX2_foresee_X2_kept
set_option maxRecDepth 20000 in
theorem ggX2_foresee_X2_hoursOn : GoodIn wsX2_foresee wsX2_hoursOn := goodIn_r _ [28, 24, 29, 30, 31, 4, 32, 15, 33, 34, 21, 22, 35, 36, 37, 38, 39, 23, 40, 41, 42, 43, 44, 45, 46, 47, 48, 49, 50, 51, 52, 53, 54, 55, 56, 57, 58, 87, 88, 89, 90, 91, 92, 93, 94, 95, 96, 97, 98] (by decide +kernel) (by decide +kernel)
set_option maxRecDepth 20000 in
theorem gX2_foresee_X2_hoursOn : GoodIn wsX2_foresee (wsV RX2 108 RX2 yX2_hoursOn wsX2_hoursOn) := goodIn_app (goodIn_of _ (by decide +kernel)) ggX2_foresee_X2_hoursOn
set_option maxRecDepth 20000 in
theorem ggX2_foresee_X2_counted : GoodIn wsX2_foresee wsX2_counted := goodIn_r _ [62, 24, 15, 21, 23, 63, 64, 4, 65, 66, 67, 68, 69, 70, 71, 72, 73, 74, 75, 76, 77, 78, 47, 48, 49, 87, 88, 89, 90, 91, 92, 93, 94, 95, 96, 97, 98] (by decide +kernel) (by decide +kernel)
set_option maxRecDepth 20000 in
theorem gX2_foresee_X2_counted : GoodIn wsX2_foresee (wsV RX2 95 RX2 yX2_counted wsX2_counted) := goodIn_app (goodIn_of _ (by decide +kernel)) ggX2_foresee_X2_counted
set_option maxRecDepth 20000 in
theorem ggX2_foresee_X2_bringBack : GoodIn wsX2_foresee wsX2_bringBack := goodIn_r _ [82, 14, 15, 21, 22, 23, 24, 83, 84, 85, 86, 87, 88, 89, 90, 91, 92, 93, 94, 95, 96, 97, 98] (by decide +kernel) (by decide +kernel)
set_option maxRecDepth 20000 in
theorem gX2_foresee_X2_bringBack : GoodIn wsX2_foresee (wsV RX2 126 RX2 yX2_bringBack wsX2_bringBack) := goodIn_app (goodIn_of _ (by decide +kernel)) ggX2_foresee_X2_bringBack
theorem dX2_foresee_0 : decode cX2_foresee 0 = .ok (.aload_n 0, 1) := by decide +kernel
theorem dX2_foresee_1 : decode cX2_foresee 1 = .ok (.iconst 0, 1) := by decide +kernel
theorem dX2_foresee_2 : decode cX2_foresee 2 = .ok (.putfield 43, 3) := by decide +kernel
theorem dX2_foresee_5 : decode cX2_foresee 5 = .ok (.iload_n 1, 1) := by decide +kernel
theorem dX2_foresee_6 : decode cX2_foresee 6 = .ok (.iconst 1, 1) := by decide +kernel
theorem dX2_foresee_7 : decode cX2_foresee 7 = .ok (.bipush 48, 2) := by decide +kernel
theorem dX2_foresee_9 : decode cX2_foresee 9 = .ok (.invokestatic 47, 3) := by decide +kernel
theorem dX2_foresee_12 : decode cX2_foresee 12 = .ok (.ifCond .ne 9, 3) := by decide +kernel
theorem dX2_foresee_15 : decode cX2_foresee 15 = .ok (.aload_n 0, 1) := by decide +kernel
theorem dX2_foresee_16 : decode cX2_foresee 16 = .ok (.iconst 1, 1) := by decide +kernel
theorem dX2_foresee_17 : decode cX2_foresee 17 = .ok (.invokevirtual 65, 3) := by decide +kernel
theorem dX2_foresee_20 : decode cX2_foresee 20 = .ok (.ireturn, 1) := by decide +kernel
theorem dX2_foresee_21 : decode cX2_foresee 21 = .ok (.iload_n 2, 1) := by decide +kernel
theorem dX2_foresee_22 : decode cX2_foresee 22 = .ok (.iconst 1, 1) := by decide +kernel
theorem dX2_foresee_23 : decode cX2_foresee 23 = .ok (.bipush 8, 2) := by decide +kernel
theorem dX2_foresee_25 : decode cX2_foresee 25 = .ok (.invokestatic 47, 3) := by decide +kernel
theorem dX2_foresee_28 : decode cX2_foresee 28 = .ok (.ifCond .ne 9, 3) := by decide +kernel
theorem dX2_foresee_31 : decode cX2_foresee 31 = .ok (.aload_n 0, 1) := by decide +kernel
theorem dX2_foresee_32 : decode cX2_foresee 32 = .ok (.iconst 2, 1) := by decide +kernel
theorem dX2_foresee_33 : decode cX2_foresee 33 = .ok (.invokevirtual 65, 3) := by decide +kernel
theorem dX2_foresee_36 : decode cX2_foresee 36 = .ok (.ireturn, 1) := by decide +kernel
theorem dX2_foresee_37 : decode cX2_foresee 37 = .ok (.aload_n 0, 1) := by decide +kernel
theorem dX2_foresee_38 : decode cX2_foresee 38 = .ok (.invokevirtual 122, 3) := by decide +kernel
theorem dX2_foresee_41 : decode cX2_foresee 41 = .ok (.astore_n 3, 1) := by decide +kernel
theorem dX2_foresee_42 : decode cX2_foresee 42 = .ok (.aload_n 0, 1) := by decide +kernel
theorem dX2_foresee_43 : decode cX2_foresee 43 = .ok (.iload_n 1, 1) := by decide +kernel
theorem dX2_foresee_44 : decode cX2_foresee 44 = .ok (.invokevirtual 108, 3) := by decide +kernel
theorem dX2_foresee_47 : decode cX2_foresee 47 = .ok (.pop, 1) := by decide +kernel
theorem dX2_foresee_48 : decode cX2_foresee 48 = .ok (.aload_n 0, 1) := by decide +kernel
theorem dX2_foresee_49 : decode cX2_foresee 49 = .ok (.iload_n 2, 1) := by decide +kernel
theorem dX2_foresee_50 : decode cX2_foresee 50 = .ok (.invokevirtual 95, 3) := by decide +kernel
theorem dX2_foresee_53 : decode cX2_foresee 53 = .ok (.istore 4, 2) := by decide +kernel
theorem dX2_foresee_55 : decode cX2_foresee 55 = .ok (.aload_n 0, 1) := by decide +kernel
theorem dX2_foresee_56 : decode cX2_foresee 56 = .ok (.aload_n 3, 1) := by decide +kernel
theorem dX2_foresee_57 : decode cX2_foresee 57 = .ok (.invokevirtual 126, 3) := by decide +kernel
theorem dX2_foresee_60 : decode cX2_foresee 60 = .ok (.iload 4, 2) := by decide +kernel
theorem dX2_foresee_62 : decode cX2_foresee 62 = .ok (.ireturn, 1) := by decide +kernel
set_option maxRecDepth 20000 in
theorem ggX2_holds_X2_isIn : GoodIn wsX2_holds wsX2_isIn := goodIn_r _ [7] (by decide +kernel) (by decide +kernel)
set_option maxRecDepth 20000 in
theorem gX2_holds_X2_isIn : GoodIn wsX2_holds (va_wsS RX2 47 yX2_isIn wsX2_isIn) := goodIn_app (goodIn_of _ (by decide +kernel)) ggX2_holds_X2_isIn
set_option maxRecDepth 20000 in
theorem ggX2_holds_X2_fail : GoodIn wsX2_holds wsX2_fail := goodIn_r _ [11, 1, 67, 68, 69, 70, 71, 72, 73, 74, 75, 76, 77, 78] (by decide +kernel) (by decide +kernel)
set_option maxRecDepth 20000 in
theorem gX2_holds_X2_fail : GoodIn wsX2_holds (wsV RX2 65 RX2 yX2_fail wsX2_fail) := goodIn_app (goodIn_of _ (by decide +kernel)) ggX2_holds_X2_fail
set_option maxRecDepth 20000 in
theorem ggX2_holds_X2_kept : GoodIn wsX2_holds wsX2_kept := goodIn_r _ [15, 16, 17, 18, 19, 20, 21, 22, 2, 3, 23, 24, 67, 68, 69, 70, 71, 72, 73, 74, 75, 76, 77, 78] (by decide +kernel) (by decide +kernel)
set_option maxRecDepth 20000 in
theorem gX2_holds_X2_kept : GoodIn wsX2_holds (wsV RX2 122 RX2 yX2_kept wsX2_kept) := goodIn_app (goodIn_of _ (by decide +kernel)) ggX2_holds_X2_kept
set_option maxRecDepth 20000 in
theorem ggX2_holds_X2_hoursOn : GoodIn wsX2_holds wsX2_hoursOn := goodIn_r _ [28, 24, 29, 30, 31, 6, 32, 17, 33, 34, 2, 3, 35, 36, 37, 38, 39, 23, 40, 41, 42, 43, 44, 45, 46, 47, 48, 49, 50, 51, 52, 53, 54, 55, 56, 57, 58, 67, 68, 69, 70, 71, 72, 73, 74, 75, 76, 77, 78] (by decide +kernel) (by decide +kernel)
set_option maxRecDepth 20000 in
theorem gX2_holds_X2_hoursOn : GoodIn wsX2_holds (wsV RX2 108 RX2 yX2_hoursOn wsX2_hoursOn) := goodIn_app (goodIn_of _ (by decide +kernel)) ggX2_holds_X2_hoursOn
set_option maxRecDepth 20000 in
theorem ggX2_holds_X2_bringBack : GoodIn wsX2_holds wsX2_bringBack := goodIn_r _ [62, 16, 17, 2, 3, 23, 24, 63, 64, 65, 66, 67, 68, 69, 70, 71, 72, 73, 74, 75, 76, 77, 78] (by decide +kernel) (by decide +kernel)
set_option maxRecDepth 20000 in
theorem gX2_holds_X2_bringBack : GoodIn wsX2_holds (wsV RX2 126 RX2 yX2_bringBack wsX2_bringBack) := goodIn_app (goodIn_of _ (by decide +kernel)) ggX2_holds_X2_bringBack
theorem dX2_holds_0 : decode cX2_holds 0 = .ok (.aload_n 0, 1) := by decide +kernel
theorem dX2_holds_1 : decode cX2_holds 1 = .ok (.iconst 0, 1) := by decide +kernel
theorem dX2_holds_2 : decode cX2_holds 2 = .ok (.putfield 43, 3) := by decide +kernel
theorem dX2_holds_5 : decode cX2_holds 5 = .ok (.iload_n 1, 1) := by decide +kernel
theorem dX2_holds_6 : decode cX2_holds 6 = .ok (.iconst 1, 1) := by decide +kernel
theorem dX2_holds_7 : decode cX2_holds 7 = .ok (.bipush 12, 2) := by decide +kernel
theorem dX2_holds_9 : decode cX2_holds 9 = .ok (.invokestatic 47, 3) := by decide +kernel
theorem dX2_holds_12 : decode cX2_holds 12 = .ok (.ifCond .ne 9, 3) := by decide +kernel
theorem dX2_holds_15 : decode cX2_holds 15 = .ok (.aload_n 0, 1) := by decide +kernel
theorem dX2_holds_16 : decode cX2_holds 16 = .ok (.iconst 1, 1) := by decide +kernel
theorem dX2_holds_17 : decode cX2_holds 17 = .ok (.invokevirtual 65, 3) := by decide +kernel
theorem dX2_holds_20 : decode cX2_holds 20 = .ok (.ireturn, 1) := by decide +kernel
theorem dX2_holds_21 : decode cX2_holds 21 = .ok (.aload_n 0, 1) := by decide +kernel
theorem dX2_holds_22 : decode cX2_holds 22 = .ok (.invokevirtual 122, 3) := by decide +kernel
theorem dX2_holds_25 : decode cX2_holds 25 = .ok (.astore_n 2, 1) := by decide +kernel
theorem dX2_holds_26 : decode cX2_holds 26 = .ok (.iconst (-1), 1) := by decide +kernel
theorem dX2_holds_27 : decode cX2_holds 27 = .ok (.istore_n 3, 1) := by decide +kernel
theorem dX2_holds_28 : decode cX2_holds 28 = .ok (.aload_n 0, 1) := by decide +kernel
theorem dX2_holds_29 : decode cX2_holds 29 = .ok (.iload_n 1, 1) := by decide +kernel
theorem dX2_holds_30 : decode cX2_holds 30 = .ok (.invokevirtual 108, 3) := by decide +kernel
theorem dX2_holds_33 : decode cX2_holds 33 = .ok (.istore 4, 2) := by decide +kernel
theorem dX2_holds_35 : decode cX2_holds 35 = .ok (.aload_n 0, 1) := by decide +kernel
theorem dX2_holds_36 : decode cX2_holds 36 = .ok (.aload_n 2, 1) := by decide +kernel
theorem dX2_holds_37 : decode cX2_holds 37 = .ok (.invokevirtual 126, 3) := by decide +kernel
theorem dX2_holds_40 : decode cX2_holds 40 = .ok (.iconst 0, 1) := by decide +kernel
theorem dX2_holds_41 : decode cX2_holds 41 = .ok (.istore 5, 2) := by decide +kernel
theorem dX2_holds_43 : decode cX2_holds 43 = .ok (.iload 5, 2) := by decide +kernel
theorem dX2_holds_45 : decode cX2_holds 45 = .ok (.bipush 64, 2) := by decide +kernel
theorem dX2_holds_47 : decode cX2_holds 47 = .ok (.if_icmp .ge 67, 3) := by decide +kernel
theorem dX2_holds_50 : decode cX2_holds 50 = .ok (.aload_n 0, 1) := by decide +kernel
theorem dX2_holds_51 : decode cX2_holds 51 = .ok (.getfield 16, 3) := by decide +kernel
theorem dX2_holds_54 : decode cX2_holds 54 = .ok (.iload 5, 2) := by decide +kernel
theorem dX2_holds_56 : decode cX2_holds 56 = .ok (.iaload, 1) := by decide +kernel
theorem dX2_holds_57 : decode cX2_holds 57 = .ok (.ifCond .ne 6, 3) := by decide +kernel
theorem dX2_holds_60 : decode cX2_holds 60 = .ok (.goto 48, 3) := by decide +kernel
theorem dX2_holds_63 : decode cX2_holds 63 = .ok (.aload_n 0, 1) := by decide +kernel
theorem dX2_holds_64 : decode cX2_holds 64 = .ok (.getfield 16, 3) := by decide +kernel
theorem dX2_holds_67 : decode cX2_holds 67 = .ok (.iload 5, 2) := by decide +kernel
theorem dX2_holds_69 : decode cX2_holds 69 = .ok (.iconst 0, 1) := by decide +kernel
theorem dX2_holds_70 : decode cX2_holds 70 = .ok (.iastore, 1) := by decide +kernel
theorem dX2_holds_71 : decode cX2_holds 71 = .ok (.aload_n 0, 1) := by decide +kernel
theorem dX2_holds_72 : decode cX2_holds 72 = .ok (.getfield 19, 3) := by decide +kernel
theorem dX2_holds_75 : decode cX2_holds 75 = .ok (.iload 5, 2) := by decide +kernel
theorem dX2_holds_77 : decode cX2_holds 77 = .ok (.iconst 0, 1) := by decide +kernel
theorem dX2_holds_78 : decode cX2_holds 78 = .ok (.iastore, 1) := by decide +kernel
theorem dX2_holds_79 : decode cX2_holds 79 = .ok (.aload_n 0, 1) := by decide +kernel
theorem dX2_holds_80 : decode cX2_holds 80 = .ok (.iload_n 1, 1) := by decide +kernel
theorem dX2_holds_81 : decode cX2_holds 81 = .ok (.invokevirtual 108, 3) := by decide +kernel
theorem dX2_holds_84 : decode cX2_holds 84 = .ok (.istore 6, 2) := by decide +kernel
theorem dX2_holds_86 : decode cX2_holds 86 = .ok (.aload_n 0, 1) := by decide +kernel
theorem dX2_holds_87 : decode cX2_holds 87 = .ok (.aload_n 2, 1) := by decide +kernel
theorem dX2_holds_88 : decode cX2_holds 88 = .ok (.invokevirtual 126, 3) := by decide +kernel
theorem dX2_holds_91 : decode cX2_holds 91 = .ok (.iload 6, 2) := by decide +kernel
theorem dX2_holds_93 : decode cX2_holds 93 = .ok (.iload 4, 2) := by decide +kernel
theorem dX2_holds_95 : decode cX2_holds 95 = .ok (.if_icmp .gt 6, 3) := by decide +kernel
theorem dX2_holds_98 : decode cX2_holds 98 = .ok (.goto 10, 3) := by decide +kernel
theorem dX2_holds_101 : decode cX2_holds 101 = .ok (.iload 5, 2) := by decide +kernel
theorem dX2_holds_103 : decode cX2_holds 103 = .ok (.istore_n 3, 1) := by decide +kernel
theorem dX2_holds_104 : decode cX2_holds 104 = .ok (.iload 6, 2) := by decide +kernel
theorem dX2_holds_106 : decode cX2_holds 106 = .ok (.istore 4, 2) := by decide +kernel
theorem dX2_holds_108 : decode cX2_holds 108 = .ok (.iinc 5 1, 3) := by decide +kernel
theorem dX2_holds_111 : decode cX2_holds 111 = .ok (.goto (-68), 3) := by decide +kernel
theorem dX2_holds_114 : decode cX2_holds 114 = .ok (.iload_n 3, 1) := by decide +kernel
theorem dX2_holds_115 : decode cX2_holds 115 = .ok (.ireturn, 1) := by decide +kernel
set_option maxRecDepth 20000 in
theorem ggX2_advise_X2_isIn : GoodIn wsX2_advise wsX2_isIn := goodIn_r _ [11] (by decide +kernel) (by decide +kernel)
set_option maxRecDepth 20000 in
theorem gX2_advise_X2_isIn : GoodIn wsX2_advise (va_wsS RX2 47 yX2_isIn wsX2_isIn) := goodIn_app (goodIn_of _ (by decide +kernel)) ggX2_advise_X2_isIn
set_option maxRecDepth 20000 in
theorem ggX2_advise_X2_fail : GoodIn wsX2_advise wsX2_fail := goodIn_r _ [15, 1, 67, 68, 69, 70, 71, 72, 73, 74, 75, 76, 77, 78] (by decide +kernel) (by decide +kernel)
set_option maxRecDepth 20000 in
theorem gX2_advise_X2_fail : GoodIn wsX2_advise (wsV RX2 65 RX2 yX2_fail wsX2_fail) := goodIn_app (goodIn_of _ (by decide +kernel)) ggX2_advise_X2_fail
set_option maxRecDepth 20000 in
theorem ggX2_advise_X2_kept : GoodIn wsX2_advise wsX2_kept := goodIn_r _ [19, 20, 21, 22, 23, 24, 25, 26, 2, 7, 27, 28, 67, 68, 69, 70, 71, 72, 73, 74, 75, 76, 77, 78] (by decide +kernel) (by decide +kernel)
set_option maxRecDepth 20000 in
theorem gX2_advise_X2_kept : GoodIn wsX2_advise (wsV RX2 122 RX2 yX2_kept wsX2_kept) := goodIn_app (goodIn_of _ (by decide +kernel)) ggX2_advise_X2_kept
set_option maxRecDepth 20000 in
theorem ggX2_advise_X2_hoursOn : GoodIn wsX2_advise wsX2_hoursOn := goodIn_r _ [32, 28, 33, 34, 35, 10, 36, 21, 37, 38, 2, 7, 39, 3, 4, 5, 6, 27, 40, 41, 42, 43, 44, 45, 46, 47, 48, 49, 50, 51, 52, 53, 54, 55, 56, 57, 58, 67, 68, 69, 70, 71, 72, 73, 74, 75, 76, 77, 78] (by decide +kernel) (by decide +kernel)
set_option maxRecDepth 20000 in
theorem gX2_advise_X2_hoursOn : GoodIn wsX2_advise (wsV RX2 108 RX2 yX2_hoursOn wsX2_hoursOn) := goodIn_app (goodIn_of _ (by decide +kernel)) ggX2_advise_X2_hoursOn
set_option maxRecDepth 20000 in
theorem ggX2_advise_X2_bringBack : GoodIn wsX2_advise wsX2_bringBack := goodIn_r _ [62, 20, 21, 2, 7, 27, 28, 63, 64, 65, 66, 67, 68, 69, 70, 71, 72, 73, 74, 75, 76, 77, 78] (by decide +kernel) (by decide +kernel)
set_option maxRecDepth 20000 in
theorem gX2_advise_X2_bringBack : GoodIn wsX2_advise (wsV RX2 126 RX2 yX2_bringBack wsX2_bringBack) := goodIn_app (goodIn_of _ (by decide +kernel)) ggX2_advise_X2_bringBack
theorem dX2_advise_0 : decode cX2_advise 0 = .ok (.aload_n 0, 1) := by decide +kernel
theorem dX2_advise_1 : decode cX2_advise 1 = .ok (.iconst 0, 1) := by decide +kernel
theorem dX2_advise_2 : decode cX2_advise 2 = .ok (.putfield 43, 3) := by decide +kernel
theorem dX2_advise_5 : decode cX2_advise 5 = .ok (.iload_n 1, 1) := by decide +kernel
theorem dX2_advise_6 : decode cX2_advise 6 = .ok (.iconst 1, 1) := by decide +kernel
theorem dX2_advise_7 : decode cX2_advise 7 = .ok (.bipush 12, 2) := by decide +kernel
theorem dX2_advise_9 : decode cX2_advise 9 = .ok (.invokestatic 47, 3) := by decide +kernel
theorem dX2_advise_12 : decode cX2_advise 12 = .ok (.ifCond .ne 9, 3) := by decide +kernel
theorem dX2_advise_15 : decode cX2_advise 15 = .ok (.aload_n 0, 1) := by decide +kernel
theorem dX2_advise_16 : decode cX2_advise 16 = .ok (.iconst 1, 1) := by decide +kernel
theorem dX2_advise_17 : decode cX2_advise 17 = .ok (.invokevirtual 65, 3) := by decide +kernel
theorem dX2_advise_20 : decode cX2_advise 20 = .ok (.ireturn, 1) := by decide +kernel
theorem dX2_advise_21 : decode cX2_advise 21 = .ok (.aload_n 0, 1) := by decide +kernel
theorem dX2_advise_22 : decode cX2_advise 22 = .ok (.invokevirtual 122, 3) := by decide +kernel
theorem dX2_advise_25 : decode cX2_advise 25 = .ok (.astore_n 2, 1) := by decide +kernel
theorem dX2_advise_26 : decode cX2_advise 26 = .ok (.iconst (-1), 1) := by decide +kernel
theorem dX2_advise_27 : decode cX2_advise 27 = .ok (.istore_n 3, 1) := by decide +kernel
theorem dX2_advise_28 : decode cX2_advise 28 = .ok (.aload_n 0, 1) := by decide +kernel
theorem dX2_advise_29 : decode cX2_advise 29 = .ok (.iload_n 1, 1) := by decide +kernel
theorem dX2_advise_30 : decode cX2_advise 30 = .ok (.invokevirtual 108, 3) := by decide +kernel
theorem dX2_advise_33 : decode cX2_advise 33 = .ok (.istore 4, 2) := by decide +kernel
theorem dX2_advise_35 : decode cX2_advise 35 = .ok (.aload_n 0, 1) := by decide +kernel
theorem dX2_advise_36 : decode cX2_advise 36 = .ok (.aload_n 2, 1) := by decide +kernel
theorem dX2_advise_37 : decode cX2_advise 37 = .ok (.invokevirtual 126, 3) := by decide +kernel
theorem dX2_advise_40 : decode cX2_advise 40 = .ok (.iconst 0, 1) := by decide +kernel
theorem dX2_advise_41 : decode cX2_advise 41 = .ok (.istore 5, 2) := by decide +kernel
theorem dX2_advise_43 : decode cX2_advise 43 = .ok (.iload 5, 2) := by decide +kernel
theorem dX2_advise_45 : decode cX2_advise 45 = .ok (.bipush 64, 2) := by decide +kernel
theorem dX2_advise_47 : decode cX2_advise 47 = .ok (.if_icmp .ge 67, 3) := by decide +kernel
theorem dX2_advise_50 : decode cX2_advise 50 = .ok (.aload_n 0, 1) := by decide +kernel
theorem dX2_advise_51 : decode cX2_advise 51 = .ok (.getfield 16, 3) := by decide +kernel
theorem dX2_advise_54 : decode cX2_advise 54 = .ok (.iload 5, 2) := by decide +kernel
theorem dX2_advise_56 : decode cX2_advise 56 = .ok (.bipush 20, 2) := by decide +kernel
theorem dX2_advise_58 : decode cX2_advise 58 = .ok (.aload_n 0, 1) := by decide +kernel
theorem dX2_advise_59 : decode cX2_advise 59 = .ok (.getfield 16, 3) := by decide +kernel
theorem dX2_advise_62 : decode cX2_advise 62 = .ok (.iload 5, 2) := by decide +kernel
theorem dX2_advise_64 : decode cX2_advise 64 = .ok (.iaload, 1) := by decide +kernel
theorem dX2_advise_65 : decode cX2_advise 65 = .ok (.iconst 5, 1) := by decide +kernel
theorem dX2_advise_66 : decode cX2_advise 66 = .ok (.iadd, 1) := by decide +kernel
theorem dX2_advise_67 : decode cX2_advise 67 = .ok (.invokestatic 98, 3) := by decide +kernel
theorem dX2_advise_70 : decode cX2_advise 70 = .ok (.iastore, 1) := by decide +kernel
theorem dX2_advise_71 : decode cX2_advise 71 = .ok (.aload_n 0, 1) := by decide +kernel
theorem dX2_advise_72 : decode cX2_advise 72 = .ok (.getfield 19, 3) := by decide +kernel
theorem dX2_advise_75 : decode cX2_advise 75 = .ok (.iload 5, 2) := by decide +kernel
theorem dX2_advise_77 : decode cX2_advise 77 = .ok (.iconst 0, 1) := by decide +kernel
theorem dX2_advise_78 : decode cX2_advise 78 = .ok (.iastore, 1) := by decide +kernel
theorem dX2_advise_79 : decode cX2_advise 79 = .ok (.aload_n 0, 1) := by decide +kernel
theorem dX2_advise_80 : decode cX2_advise 80 = .ok (.iload_n 1, 1) := by decide +kernel
theorem dX2_advise_81 : decode cX2_advise 81 = .ok (.invokevirtual 108, 3) := by decide +kernel
theorem dX2_advise_84 : decode cX2_advise 84 = .ok (.istore 6, 2) := by decide +kernel
theorem dX2_advise_86 : decode cX2_advise 86 = .ok (.aload_n 0, 1) := by decide +kernel
theorem dX2_advise_87 : decode cX2_advise 87 = .ok (.aload_n 2, 1) := by decide +kernel
theorem dX2_advise_88 : decode cX2_advise 88 = .ok (.invokevirtual 126, 3) := by decide +kernel
theorem dX2_advise_91 : decode cX2_advise 91 = .ok (.iload 6, 2) := by decide +kernel
theorem dX2_advise_93 : decode cX2_advise 93 = .ok (.iload 4, 2) := by decide +kernel
theorem dX2_advise_95 : decode cX2_advise 95 = .ok (.if_icmp .lt 6, 3) := by decide +kernel
theorem dX2_advise_98 : decode cX2_advise 98 = .ok (.goto 10, 3) := by decide +kernel
theorem dX2_advise_101 : decode cX2_advise 101 = .ok (.iload 5, 2) := by decide +kernel
theorem dX2_advise_103 : decode cX2_advise 103 = .ok (.istore_n 3, 1) := by decide +kernel
theorem dX2_advise_104 : decode cX2_advise 104 = .ok (.iload 6, 2) := by decide +kernel
theorem dX2_advise_106 : decode cX2_advise 106 = .ok (.istore 4, 2) := by decide +kernel
theorem dX2_advise_108 : decode cX2_advise 108 = .ok (.iinc 5 1, 3) := by decide +kernel
theorem dX2_advise_111 : decode cX2_advise 111 = .ok (.goto (-68), 3) := by decide +kernel
theorem dX2_advise_114 : decode cX2_advise 114 = .ok (.iload_n 3, 1) := by decide +kernel
theorem dX2_advise_115 : decode cX2_advise 115 = .ok (.ireturn, 1) := by decide +kernel
set_option maxRecDepth 20000 in
theorem ggX2_mean_X2_some : GoodIn wsX2_mean wsX2_some := goodIn_r _ [6] (by decide +kernel) (by decide +kernel)
set_option maxRecDepth 20000 in
theorem gX2_mean_X2_some : GoodIn wsX2_mean (va_wsS RX2 88 yX2_some wsX2_some) := goodIn_app (goodIn_of _ (by decide +kernel)) ggX2_mean_X2_some
set_option maxRecDepth 20000 in
theorem ggX2_mean_X2_sum : GoodIn wsX2_mean wsX2_sum := goodIn_r _ [9] (by decide +kernel) (by decide +kernel)
set_option maxRecDepth 20000 in
theorem gX2_mean_X2_sum : GoodIn wsX2_mean (va_wsS RX2 84 yX2_sum wsX2_sum) := goodIn_app (goodIn_of _ (by decide +kernel)) ggX2_mean_X2_sum
theorem dX2_mean_0 : decode cX2_mean 0 = .ok (.aload_n 0, 1) := by decide +kernel
theorem dX2_mean_1 : decode cX2_mean 1 = .ok (.iconst 0, 1) := by decide +kernel
theorem dX2_mean_2 : decode cX2_mean 2 = .ok (.putfield 43, 3) := by decide +kernel
theorem dX2_mean_5 : decode cX2_mean 5 = .ok (.aload_n 0, 1) := by decide +kernel
theorem dX2_mean_6 : decode cX2_mean 6 = .ok (.getfield 13, 3) := by decide +kernel
theorem dX2_mean_9 : decode cX2_mean 9 = .ok (.invokestatic 88, 3) := by decide +kernel
theorem dX2_mean_12 : decode cX2_mean 12 = .ok (.ifCond .ne 7, 3) := by decide +kernel
theorem dX2_mean_15 : decode cX2_mean 15 = .ok (.dconst 0, 1) := by decide +kernel
theorem dX2_mean_16 : decode cX2_mean 16 = .ok (.goto 20, 3) := by decide +kernel
theorem dX2_mean_19 : decode cX2_mean 19 = .ok (.aload_n 0, 1) := by decide +kernel
theorem dX2_mean_20 : decode cX2_mean 20 = .ok (.getfield 13, 3) := by decide +kernel
theorem dX2_mean_23 : decode cX2_mean 23 = .ok (.invokestatic 84, 3) := by decide +kernel
theorem dX2_mean_26 : decode cX2_mean 26 = .ok (.i2d, 1) := by decide +kernel
theorem dX2_mean_27 : decode cX2_mean 27 = .ok (.aload_n 0, 1) := by decide +kernel
theorem dX2_mean_28 : decode cX2_mean 28 = .ok (.getfield 13, 3) := by decide +kernel
theorem dX2_mean_31 : decode cX2_mean 31 = .ok (.invokestatic 88, 3) := by decide +kernel
theorem dX2_mean_34 : decode cX2_mean 34 = .ok (.i2d, 1) := by decide +kernel
theorem dX2_mean_35 : decode cX2_mean 35 = .ok (.ddiv, 1) := by decide +kernel
theorem dX2_mean_36 : decode cX2_mean 36 = .ok (.dreturn, 1) := by decide +kernel
set_option maxRecDepth 20000 in
theorem ggX2_digest_X2_counted : GoodIn wsX2_digest wsX2_counted := goodIn_r _ [9, 10, 11, 12, 13, 14, 15, 8, 16, 17, 18, 19, 20, 21, 22, 23, 24, 25, 26, 27, 28, 29, 30, 31, 32, 52, 53, 54, 55, 56, 57, 58, 59, 60, 61, 62, 63] (by decide +kernel) (by decide +kernel)
set_option maxRecDepth 20000 in
theorem gX2_digest_X2_counted : GoodIn wsX2_digest (wsV RX2 95 RX2 yX2_counted wsX2_counted) := goodIn_app (goodIn_of _ (by decide +kernel)) ggX2_digest_X2_counted
set_option maxRecDepth 20000 in
theorem ggX2_digest_X2_cellTold : GoodIn wsX2_digest wsX2_cellTold := goodIn_r _ [36, 37, 11, 12, 38, 39, 13, 40, 41, 42, 8, 43, 44, 45, 46, 47, 48, 49, 50, 51, 52, 53, 54, 55, 56, 57, 58, 59, 60, 61, 62, 63] (by decide +kernel) (by decide +kernel)
set_option maxRecDepth 20000 in
theorem gX2_digest_X2_cellTold : GoodIn wsX2_digest (wsV RX2 75 RX2 yX2_cellTold wsX2_cellTold) := goodIn_app (goodIn_of _ (by decide +kernel)) ggX2_digest_X2_cellTold
theorem dX2_digest_0 : decode cX2_digest 0 = .ok (.aload_n 0, 1) := by decide +kernel
theorem dX2_digest_1 : decode cX2_digest 1 = .ok (.iconst 0, 1) := by decide +kernel
theorem dX2_digest_2 : decode cX2_digest 2 = .ok (.putfield 43, 3) := by decide +kernel
theorem dX2_digest_5 : decode cX2_digest 5 = .ok (.ldc2_w 130, 3) := by decide +kernel
theorem dX2_digest_8 : decode cX2_digest 8 = .ok (.lstore_n 1, 1) := by decide +kernel
theorem dX2_digest_9 : decode cX2_digest 9 = .ok (.iconst 0, 1) := by decide +kernel
theorem dX2_digest_10 : decode cX2_digest 10 = .ok (.istore_n 3, 1) := by decide +kernel
theorem dX2_digest_11 : decode cX2_digest 11 = .ok (.iload_n 3, 1) := by decide +kernel
theorem dX2_digest_12 : decode cX2_digest 12 = .ok (.bipush 9, 2) := by decide +kernel
theorem dX2_digest_14 : decode cX2_digest 14 = .ok (.if_icmp .ge 22, 3) := by decide +kernel
theorem dX2_digest_17 : decode cX2_digest 17 = .ok (.lload_n 1, 1) := by decide +kernel
theorem dX2_digest_18 : decode cX2_digest 18 = .ok (.ldc2_w 132, 3) := by decide +kernel
theorem dX2_digest_21 : decode cX2_digest 21 = .ok (.lmul, 1) := by decide +kernel
theorem dX2_digest_22 : decode cX2_digest 22 = .ok (.aload_n 0, 1) := by decide +kernel
theorem dX2_digest_23 : decode cX2_digest 23 = .ok (.iload_n 3, 1) := by decide +kernel
theorem dX2_digest_24 : decode cX2_digest 24 = .ok (.invokevirtual 95, 3) := by decide +kernel
theorem dX2_digest_27 : decode cX2_digest 27 = .ok (.i2l, 1) := by decide +kernel
theorem dX2_digest_28 : decode cX2_digest 28 = .ok (.ladd, 1) := by decide +kernel
theorem dX2_digest_29 : decode cX2_digest 29 = .ok (.lstore_n 1, 1) := by decide +kernel
theorem dX2_digest_30 : decode cX2_digest 30 = .ok (.iinc 3 1, 3) := by decide +kernel
theorem dX2_digest_33 : decode cX2_digest 33 = .ok (.goto (-22), 3) := by decide +kernel
theorem dX2_digest_36 : decode cX2_digest 36 = .ok (.iconst 0, 1) := by decide +kernel
theorem dX2_digest_37 : decode cX2_digest 37 = .ok (.istore_n 3, 1) := by decide +kernel
theorem dX2_digest_38 : decode cX2_digest 38 = .ok (.iload_n 3, 1) := by decide +kernel
theorem dX2_digest_39 : decode cX2_digest 39 = .ok (.bipush 64, 2) := by decide +kernel
theorem dX2_digest_41 : decode cX2_digest 41 = .ok (.if_icmp .ge 40, 3) := by decide +kernel
theorem dX2_digest_44 : decode cX2_digest 44 = .ok (.iconst 0, 1) := by decide +kernel
theorem dX2_digest_45 : decode cX2_digest 45 = .ok (.istore 4, 2) := by decide +kernel
theorem dX2_digest_47 : decode cX2_digest 47 = .ok (.iload 4, 2) := by decide +kernel
theorem dX2_digest_49 : decode cX2_digest 49 = .ok (.bipush 8, 2) := by decide +kernel
theorem dX2_digest_51 : decode cX2_digest 51 = .ok (.if_icmp .ge 24, 3) := by decide +kernel
theorem dX2_digest_54 : decode cX2_digest 54 = .ok (.lload_n 1, 1) := by decide +kernel
theorem dX2_digest_55 : decode cX2_digest 55 = .ok (.ldc2_w 132, 3) := by decide +kernel
theorem dX2_digest_58 : decode cX2_digest 58 = .ok (.lmul, 1) := by decide +kernel
theorem dX2_digest_59 : decode cX2_digest 59 = .ok (.aload_n 0, 1) := by decide +kernel
theorem dX2_digest_60 : decode cX2_digest 60 = .ok (.iload_n 3, 1) := by decide +kernel
theorem dX2_digest_61 : decode cX2_digest 61 = .ok (.iload 4, 2) := by decide +kernel
theorem dX2_digest_63 : decode cX2_digest 63 = .ok (.invokevirtual 75, 3) := by decide +kernel
theorem dX2_digest_66 : decode cX2_digest 66 = .ok (.i2l, 1) := by decide +kernel
theorem dX2_digest_67 : decode cX2_digest 67 = .ok (.ladd, 1) := by decide +kernel
theorem dX2_digest_68 : decode cX2_digest 68 = .ok (.lstore_n 1, 1) := by decide +kernel
theorem dX2_digest_69 : decode cX2_digest 69 = .ok (.iinc 4 1, 3) := by decide +kernel
theorem dX2_digest_72 : decode cX2_digest 72 = .ok (.goto (-25), 3) := by decide +kernel
theorem dX2_digest_75 : decode cX2_digest 75 = .ok (.iinc 3 1, 3) := by decide +kernel
theorem dX2_digest_78 : decode cX2_digest 78 = .ok (.goto (-40), 3) := by decide +kernel
theorem dX2_digest_81 : decode cX2_digest 81 = .ok (.aload_n 0, 1) := by decide +kernel
theorem dX2_digest_82 : decode cX2_digest 82 = .ok (.getfield 28, 3) := by decide +kernel
theorem dX2_digest_85 : decode cX2_digest 85 = .ok (.astore_n 3, 1) := by decide +kernel
theorem dX2_digest_86 : decode cX2_digest 86 = .ok (.aload_n 3, 1) := by decide +kernel
theorem dX2_digest_87 : decode cX2_digest 87 = .ok (.arraylength, 1) := by decide +kernel
theorem dX2_digest_88 : decode cX2_digest 88 = .ok (.istore 4, 2) := by decide +kernel
theorem dX2_digest_90 : decode cX2_digest 90 = .ok (.iconst 0, 1) := by decide +kernel
theorem dX2_digest_91 : decode cX2_digest 91 = .ok (.istore 5, 2) := by decide +kernel
theorem dX2_digest_93 : decode cX2_digest 93 = .ok (.iload 5, 2) := by decide +kernel
theorem dX2_digest_95 : decode cX2_digest 95 = .ok (.iload 4, 2) := by decide +kernel
theorem dX2_digest_97 : decode cX2_digest 97 = .ok (.if_icmp .ge 25, 3) := by decide +kernel
theorem dX2_digest_100 : decode cX2_digest 100 = .ok (.aload_n 3, 1) := by decide +kernel
theorem dX2_digest_101 : decode cX2_digest 101 = .ok (.iload 5, 2) := by decide +kernel
theorem dX2_digest_103 : decode cX2_digest 103 = .ok (.iaload, 1) := by decide +kernel
theorem dX2_digest_104 : decode cX2_digest 104 = .ok (.istore 6, 2) := by decide +kernel
theorem dX2_digest_106 : decode cX2_digest 106 = .ok (.lload_n 1, 1) := by decide +kernel
theorem dX2_digest_107 : decode cX2_digest 107 = .ok (.ldc2_w 132, 3) := by decide +kernel
theorem dX2_digest_110 : decode cX2_digest 110 = .ok (.lmul, 1) := by decide +kernel
theorem dX2_digest_111 : decode cX2_digest 111 = .ok (.iload 6, 2) := by decide +kernel
theorem dX2_digest_113 : decode cX2_digest 113 = .ok (.i2l, 1) := by decide +kernel
theorem dX2_digest_114 : decode cX2_digest 114 = .ok (.ladd, 1) := by decide +kernel
theorem dX2_digest_115 : decode cX2_digest 115 = .ok (.lstore_n 1, 1) := by decide +kernel
theorem dX2_digest_116 : decode cX2_digest 116 = .ok (.iinc 5 1, 3) := by decide +kernel
theorem dX2_digest_119 : decode cX2_digest 119 = .ok (.goto (-26), 3) := by decide +kernel
theorem dX2_digest_122 : decode cX2_digest 122 = .ok (.lload_n 1, 1) := by decide +kernel
theorem dX2_digest_123 : decode cX2_digest 123 = .ok (.lreturn, 1) := by decide +kernel
