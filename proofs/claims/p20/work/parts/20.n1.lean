set_option maxRecDepth 20000 in
theorem ggX1_init_X0_init : GoodIn wsX1_init wsX0_init := goodIn_r _ [11, 12, 2, 3, 13, 14, 15, 16, 17, 18, 19, 20, 21, 22, 23, 24, 25, 26, 27, 28, 29, 30, 31, 32, 33, 34, 35, 36, 37, 38, 39, 40, 41, 42, 43] (by decide +kernel) (by decide +kernel)
set_option maxRecDepth 20000 in
theorem gX1_init_X0_init : GoodIn wsX1_init (wsX0_init) := ggX1_init_X0_init
theorem dX1_init_0 : decode cX1_init 0 = .ok (.aload_n 0, 1) := by decide +kernel
theorem dX1_init_1 : decode cX1_init 1 = .ok (.invokespecial 1, 3) := by decide +kernel
theorem dX1_init_4 : decode cX1_init 4 = .ok (.aload_n 0, 1) := by decide +kernel
theorem dX1_init_5 : decode cX1_init 5 = .ok (.new 7, 3) := by decide +kernel
theorem dX1_init_8 : decode cX1_init 8 = .ok (.dup, 1) := by decide +kernel
theorem dX1_init_9 : decode cX1_init 9 = .ok (.invokespecial 9, 3) := by decide +kernel
theorem dX1_init_12 : decode cX1_init 12 = .ok (.putfield 10, 3) := by decide +kernel
theorem dX1_init_15 : decode cX1_init 15 = .ok (.aload_n 0, 1) := by decide +kernel
theorem dX1_init_16 : decode cX1_init 16 = .ok (.new 7, 3) := by decide +kernel
theorem dX1_init_19 : decode cX1_init 19 = .ok (.dup, 1) := by decide +kernel
theorem dX1_init_20 : decode cX1_init 20 = .ok (.invokespecial 9, 3) := by decide +kernel
theorem dX1_init_23 : decode cX1_init 23 = .ok (.putfield 16, 3) := by decide +kernel
theorem dX1_init_26 : decode cX1_init 26 = .ok (.return_, 1) := by decide +kernel
set_option maxRecDepth 20000 in
theorem ggX1_raise_X1_placeOf : GoodIn wsX1_raise wsX1_placeOf := goodIn_ca (goodIn_r _ [6, 7, 8, 5, 9, 10, 11] (by decide +kernel) (by decide +kernel)) (goodIn_sub (fun _ h => List.mem_cons_of_mem _ (List.mem_append_left _ (List.mem_append_right _ h))) (by decide +kernel))
set_option maxRecDepth 20000 in
theorem gX1_raise_X1_placeOf : GoodIn wsX1_raise (va_wsS RX1 19 yX1_placeOf wsX1_placeOf) := goodIn_app (goodIn_of _ (by decide +kernel)) ggX1_raise_X1_placeOf
set_option maxRecDepth 20000 in
theorem ggX1_raise_X1_requireWithin : GoodIn wsX1_raise wsX1_requireWithin := goodIn_ca (goodIn_r _ [14, 15, 16] (by decide +kernel) (by decide +kernel)) (goodIn_sub (fun _ h => List.mem_cons_of_mem _ (List.mem_append_right _ h)) (by decide +kernel))
set_option maxRecDepth 20000 in
theorem gX1_raise_X1_requireWithin : GoodIn wsX1_raise (va_wsS RX1 23 yX1_requireWithin wsX1_requireWithin) := goodIn_app (goodIn_of _ (by decide +kernel)) ggX1_raise_X1_requireWithin
theorem dX1_raise_0 : decode cX1_raise 0 = .ok (.iload_n 1, 1) := by decide +kernel
theorem dX1_raise_1 : decode cX1_raise 1 = .ok (.iload_n 2, 1) := by decide +kernel
theorem dX1_raise_2 : decode cX1_raise 2 = .ok (.invokestatic 19, 3) := by decide +kernel
theorem dX1_raise_5 : decode cX1_raise 5 = .ok (.istore 4, 2) := by decide +kernel
theorem dX1_raise_7 : decode cX1_raise 7 = .ok (.iload_n 3, 1) := by decide +kernel
theorem dX1_raise_8 : decode cX1_raise 8 = .ok (.iconst 0, 1) := by decide +kernel
theorem dX1_raise_9 : decode cX1_raise 9 = .ok (.bipush 50, 2) := by decide +kernel
theorem dX1_raise_11 : decode cX1_raise 11 = .ok (.invokestatic 23, 3) := by decide +kernel
theorem dX1_raise_14 : decode cX1_raise 14 = .ok (.aload_n 0, 1) := by decide +kernel
theorem dX1_raise_15 : decode cX1_raise 15 = .ok (.getfield 10, 3) := by decide +kernel
theorem dX1_raise_18 : decode cX1_raise 18 = .ok (.getfield 27, 3) := by decide +kernel
theorem dX1_raise_21 : decode cX1_raise 21 = .ok (.iload 4, 2) := by decide +kernel
theorem dX1_raise_23 : decode cX1_raise 23 = .ok (.iaload, 1) := by decide +kernel
theorem dX1_raise_24 : decode cX1_raise 24 = .ok (.istore 5, 2) := by decide +kernel
theorem dX1_raise_26 : decode cX1_raise 26 = .ok (.aload_n 0, 1) := by decide +kernel
theorem dX1_raise_27 : decode cX1_raise 27 = .ok (.getfield 10, 3) := by decide +kernel
theorem dX1_raise_30 : decode cX1_raise 30 = .ok (.getfield 27, 3) := by decide +kernel
theorem dX1_raise_33 : decode cX1_raise 33 = .ok (.iload 4, 2) := by decide +kernel
theorem dX1_raise_35 : decode cX1_raise 35 = .ok (.iload_n 3, 1) := by decide +kernel
theorem dX1_raise_36 : decode cX1_raise 36 = .ok (.iastore, 1) := by decide +kernel
theorem dX1_raise_37 : decode cX1_raise 37 = .ok (.iload 5, 2) := by decide +kernel
theorem dX1_raise_39 : decode cX1_raise 39 = .ok (.ireturn, 1) := by decide +kernel
set_option maxRecDepth 20000 in
theorem ggX1_pour_X1_placeOf : GoodIn wsX1_pour wsX1_placeOf := goodIn_ca (goodIn_r _ [10, 11, 12, 9, 13, 14, 15] (by decide +kernel) (by decide +kernel)) (goodIn_sub (fun _ h => List.mem_cons_of_mem _ (List.mem_append_left _ (List.mem_append_right _ h))) (by decide +kernel))
set_option maxRecDepth 20000 in
theorem gX1_pour_X1_placeOf : GoodIn wsX1_pour (va_wsS RX1 19 yX1_placeOf wsX1_placeOf) := goodIn_app (goodIn_of _ (by decide +kernel)) ggX1_pour_X1_placeOf
set_option maxRecDepth 20000 in
theorem ggX1_pour_X1_requireWithin : GoodIn wsX1_pour wsX1_requireWithin := goodIn_ca (goodIn_r _ [18, 19, 20] (by decide +kernel) (by decide +kernel)) (goodIn_sub (fun _ h => List.mem_cons_of_mem _ (List.mem_append_right _ h)) (by decide +kernel))
set_option maxRecDepth 20000 in
theorem gX1_pour_X1_requireWithin : GoodIn wsX1_pour (va_wsS RX1 23 yX1_requireWithin wsX1_requireWithin) := goodIn_app (goodIn_of _ (by decide +kernel)) ggX1_pour_X1_requireWithin
theorem dX1_pour_0 : decode cX1_pour 0 = .ok (.iload_n 1, 1) := by decide +kernel
theorem dX1_pour_1 : decode cX1_pour 1 = .ok (.iload_n 2, 1) := by decide +kernel
theorem dX1_pour_2 : decode cX1_pour 2 = .ok (.invokestatic 19, 3) := by decide +kernel
theorem dX1_pour_5 : decode cX1_pour 5 = .ok (.istore 4, 2) := by decide +kernel
theorem dX1_pour_7 : decode cX1_pour 7 = .ok (.iload_n 3, 1) := by decide +kernel
theorem dX1_pour_8 : decode cX1_pour 8 = .ok (.bipush (-99), 2) := by decide +kernel
theorem dX1_pour_10 : decode cX1_pour 10 = .ok (.bipush 99, 2) := by decide +kernel
theorem dX1_pour_12 : decode cX1_pour 12 = .ok (.invokestatic 23, 3) := by decide +kernel
theorem dX1_pour_15 : decode cX1_pour 15 = .ok (.aload_n 0, 1) := by decide +kernel
theorem dX1_pour_16 : decode cX1_pour 16 = .ok (.getfield 10, 3) := by decide +kernel
theorem dX1_pour_19 : decode cX1_pour 19 = .ok (.getfield 31, 3) := by decide +kernel
theorem dX1_pour_22 : decode cX1_pour 22 = .ok (.iload 4, 2) := by decide +kernel
theorem dX1_pour_24 : decode cX1_pour 24 = .ok (.iconst 0, 1) := by decide +kernel
theorem dX1_pour_25 : decode cX1_pour 25 = .ok (.aload_n 0, 1) := by decide +kernel
theorem dX1_pour_26 : decode cX1_pour 26 = .ok (.getfield 10, 3) := by decide +kernel
theorem dX1_pour_29 : decode cX1_pour 29 = .ok (.getfield 31, 3) := by decide +kernel
theorem dX1_pour_32 : decode cX1_pour 32 = .ok (.iload 4, 2) := by decide +kernel
theorem dX1_pour_34 : decode cX1_pour 34 = .ok (.iaload, 1) := by decide +kernel
theorem dX1_pour_35 : decode cX1_pour 35 = .ok (.iload_n 3, 1) := by decide +kernel
theorem dX1_pour_36 : decode cX1_pour 36 = .ok (.iadd, 1) := by decide +kernel
theorem dX1_pour_37 : decode cX1_pour 37 = .ok (.invokestatic 34, 3) := by decide +kernel
theorem dX1_pour_40 : decode cX1_pour 40 = .ok (.iastore, 1) := by decide +kernel
theorem dX1_pour_41 : decode cX1_pour 41 = .ok (.aload_n 0, 1) := by decide +kernel
theorem dX1_pour_42 : decode cX1_pour 42 = .ok (.getfield 10, 3) := by decide +kernel
theorem dX1_pour_45 : decode cX1_pour 45 = .ok (.getfield 31, 3) := by decide +kernel
theorem dX1_pour_48 : decode cX1_pour 48 = .ok (.iload 4, 2) := by decide +kernel
theorem dX1_pour_50 : decode cX1_pour 50 = .ok (.iaload, 1) := by decide +kernel
theorem dX1_pour_51 : decode cX1_pour 51 = .ok (.ireturn, 1) := by decide +kernel
set_option maxRecDepth 20000 in
theorem ggX1_dam_X1_placeOf : GoodIn wsX1_dam wsX1_placeOf := goodIn_ca (goodIn_r _ [7, 8, 9, 6, 10, 11, 12] (by decide +kernel) (by decide +kernel)) (goodIn_sub (fun _ h => List.mem_cons_of_mem _ (List.mem_append_left _ (List.mem_append_right _ h))) (by decide +kernel))
set_option maxRecDepth 20000 in
theorem gX1_dam_X1_placeOf : GoodIn wsX1_dam (va_wsS RX1 19 yX1_placeOf wsX1_placeOf) := goodIn_app (goodIn_of _ (by decide +kernel)) ggX1_dam_X1_placeOf
set_option maxRecDepth 20000 in
theorem ggX1_dam_X1_requireWithin : GoodIn wsX1_dam wsX1_requireWithin := goodIn_ca (goodIn_r _ [15, 16, 17] (by decide +kernel) (by decide +kernel)) (goodIn_sub (fun _ h => List.mem_cons_of_mem _ (List.mem_append_right _ h)) (by decide +kernel))
set_option maxRecDepth 20000 in
theorem gX1_dam_X1_requireWithin : GoodIn wsX1_dam (va_wsS RX1 23 yX1_requireWithin wsX1_requireWithin) := goodIn_app (goodIn_of _ (by decide +kernel)) ggX1_dam_X1_requireWithin
theorem dX1_dam_0 : decode cX1_dam 0 = .ok (.iload_n 1, 1) := by decide +kernel
theorem dX1_dam_1 : decode cX1_dam 1 = .ok (.iload_n 2, 1) := by decide +kernel
theorem dX1_dam_2 : decode cX1_dam 2 = .ok (.invokestatic 19, 3) := by decide +kernel
theorem dX1_dam_5 : decode cX1_dam 5 = .ok (.istore 4, 2) := by decide +kernel
theorem dX1_dam_7 : decode cX1_dam 7 = .ok (.iload_n 3, 1) := by decide +kernel
theorem dX1_dam_8 : decode cX1_dam 8 = .ok (.iconst 0, 1) := by decide +kernel
theorem dX1_dam_9 : decode cX1_dam 9 = .ok (.bipush 20, 2) := by decide +kernel
theorem dX1_dam_11 : decode cX1_dam 11 = .ok (.invokestatic 23, 3) := by decide +kernel
theorem dX1_dam_14 : decode cX1_dam 14 = .ok (.aload_n 0, 1) := by decide +kernel
theorem dX1_dam_15 : decode cX1_dam 15 = .ok (.getfield 10, 3) := by decide +kernel
theorem dX1_dam_18 : decode cX1_dam 18 = .ok (.getfield 39, 3) := by decide +kernel
theorem dX1_dam_21 : decode cX1_dam 21 = .ok (.iload 4, 2) := by decide +kernel
theorem dX1_dam_23 : decode cX1_dam 23 = .ok (.iaload, 1) := by decide +kernel
theorem dX1_dam_24 : decode cX1_dam 24 = .ok (.istore 5, 2) := by decide +kernel
theorem dX1_dam_26 : decode cX1_dam 26 = .ok (.aload_n 0, 1) := by decide +kernel
theorem dX1_dam_27 : decode cX1_dam 27 = .ok (.getfield 10, 3) := by decide +kernel
theorem dX1_dam_30 : decode cX1_dam 30 = .ok (.getfield 39, 3) := by decide +kernel
theorem dX1_dam_33 : decode cX1_dam 33 = .ok (.iload 4, 2) := by decide +kernel
theorem dX1_dam_35 : decode cX1_dam 35 = .ok (.iload_n 3, 1) := by decide +kernel
theorem dX1_dam_36 : decode cX1_dam 36 = .ok (.iastore, 1) := by decide +kernel
theorem dX1_dam_37 : decode cX1_dam 37 = .ok (.aload_n 0, 1) := by decide +kernel
theorem dX1_dam_38 : decode cX1_dam 38 = .ok (.getfield 10, 3) := by decide +kernel
theorem dX1_dam_41 : decode cX1_dam 41 = .ok (.getfield 42, 3) := by decide +kernel
theorem dX1_dam_44 : decode cX1_dam 44 = .ok (.iload 4, 2) := by decide +kernel
theorem dX1_dam_46 : decode cX1_dam 46 = .ok (.iconst 0, 1) := by decide +kernel
theorem dX1_dam_47 : decode cX1_dam 47 = .ok (.iastore, 1) := by decide +kernel
theorem dX1_dam_48 : decode cX1_dam 48 = .ok (.iload 5, 2) := by decide +kernel
theorem dX1_dam_50 : decode cX1_dam 50 = .ok (.ireturn, 1) := by decide +kernel
set_option maxRecDepth 20000 in
theorem ggX1_drain_X1_placeOf : GoodIn wsX1_drain wsX1_placeOf := goodIn_ca (goodIn_r _ [6, 7, 8, 5, 9, 10, 11] (by decide +kernel) (by decide +kernel)) (goodIn_sub (fun _ h => List.mem_cons_of_mem _ (List.mem_append_left _ (List.mem_append_right _ h))) (by decide +kernel))
set_option maxRecDepth 20000 in
theorem gX1_drain_X1_placeOf : GoodIn wsX1_drain (va_wsS RX1 19 yX1_placeOf wsX1_placeOf) := goodIn_app (goodIn_of _ (by decide +kernel)) ggX1_drain_X1_placeOf
set_option maxRecDepth 20000 in
theorem ggX1_drain_X1_requireWithin : GoodIn wsX1_drain wsX1_requireWithin := goodIn_ca (goodIn_r _ [14, 15, 16] (by decide +kernel) (by decide +kernel)) (goodIn_sub (fun _ h => List.mem_cons_of_mem _ (List.mem_append_right _ h)) (by decide +kernel))
set_option maxRecDepth 20000 in
theorem gX1_drain_X1_requireWithin : GoodIn wsX1_drain (va_wsS RX1 23 yX1_requireWithin wsX1_requireWithin) := goodIn_app (goodIn_of _ (by decide +kernel)) ggX1_drain_X1_requireWithin
theorem dX1_drain_0 : decode cX1_drain 0 = .ok (.iload_n 1, 1) := by decide +kernel
theorem dX1_drain_1 : decode cX1_drain 1 = .ok (.iload_n 2, 1) := by decide +kernel
theorem dX1_drain_2 : decode cX1_drain 2 = .ok (.invokestatic 19, 3) := by decide +kernel
theorem dX1_drain_5 : decode cX1_drain 5 = .ok (.istore 4, 2) := by decide +kernel
theorem dX1_drain_7 : decode cX1_drain 7 = .ok (.iload_n 3, 1) := by decide +kernel
theorem dX1_drain_8 : decode cX1_drain 8 = .ok (.iconst 0, 1) := by decide +kernel
theorem dX1_drain_9 : decode cX1_drain 9 = .ok (.bipush 9, 2) := by decide +kernel
theorem dX1_drain_11 : decode cX1_drain 11 = .ok (.invokestatic 23, 3) := by decide +kernel
theorem dX1_drain_14 : decode cX1_drain 14 = .ok (.aload_n 0, 1) := by decide +kernel
theorem dX1_drain_15 : decode cX1_drain 15 = .ok (.getfield 10, 3) := by decide +kernel
theorem dX1_drain_18 : decode cX1_drain 18 = .ok (.getfield 45, 3) := by decide +kernel
theorem dX1_drain_21 : decode cX1_drain 21 = .ok (.iload 4, 2) := by decide +kernel
theorem dX1_drain_23 : decode cX1_drain 23 = .ok (.iaload, 1) := by decide +kernel
theorem dX1_drain_24 : decode cX1_drain 24 = .ok (.istore 5, 2) := by decide +kernel
theorem dX1_drain_26 : decode cX1_drain 26 = .ok (.aload_n 0, 1) := by decide +kernel
theorem dX1_drain_27 : decode cX1_drain 27 = .ok (.getfield 10, 3) := by decide +kernel
theorem dX1_drain_30 : decode cX1_drain 30 = .ok (.getfield 45, 3) := by decide +kernel
theorem dX1_drain_33 : decode cX1_drain 33 = .ok (.iload 4, 2) := by decide +kernel
theorem dX1_drain_35 : decode cX1_drain 35 = .ok (.iload_n 3, 1) := by decide +kernel
theorem dX1_drain_36 : decode cX1_drain 36 = .ok (.iastore, 1) := by decide +kernel
theorem dX1_drain_37 : decode cX1_drain 37 = .ok (.iload 5, 2) := by decide +kernel
theorem dX1_drain_39 : decode cX1_drain 39 = .ok (.ireturn, 1) := by decide +kernel
set_option maxRecDepth 20000 in
theorem ggX1_settle_X1_placeOf : GoodIn wsX1_settle wsX1_placeOf := goodIn_ca (goodIn_r _ [6, 7, 8, 5, 9, 10, 11] (by decide +kernel) (by decide +kernel)) (goodIn_sub (fun _ h => List.mem_cons_of_mem _ (List.mem_append_left _ (List.mem_append_right _ h))) (by decide +kernel))
set_option maxRecDepth 20000 in
theorem gX1_settle_X1_placeOf : GoodIn wsX1_settle (va_wsS RX1 19 yX1_placeOf wsX1_placeOf) := goodIn_app (goodIn_of _ (by decide +kernel)) ggX1_settle_X1_placeOf
set_option maxRecDepth 20000 in
theorem ggX1_settle_X1_requireWithin : GoodIn wsX1_settle wsX1_requireWithin := goodIn_ca (goodIn_r _ [14, 15, 16] (by decide +kernel) (by decide +kernel)) (goodIn_sub (fun _ h => List.mem_cons_of_mem _ (List.mem_append_right _ h)) (by decide +kernel))
set_option maxRecDepth 20000 in
theorem gX1_settle_X1_requireWithin : GoodIn wsX1_settle (va_wsS RX1 23 yX1_requireWithin wsX1_requireWithin) := goodIn_app (goodIn_of _ (by decide +kernel)) ggX1_settle_X1_requireWithin
theorem dX1_settle_0 : decode cX1_settle 0 = .ok (.iload_n 1, 1) := by decide +kernel
theorem dX1_settle_1 : decode cX1_settle 1 = .ok (.iload_n 2, 1) := by decide +kernel
theorem dX1_settle_2 : decode cX1_settle 2 = .ok (.invokestatic 19, 3) := by decide +kernel
theorem dX1_settle_5 : decode cX1_settle 5 = .ok (.istore 4, 2) := by decide +kernel
theorem dX1_settle_7 : decode cX1_settle 7 = .ok (.iload_n 3, 1) := by decide +kernel
theorem dX1_settle_8 : decode cX1_settle 8 = .ok (.iconst 0, 1) := by decide +kernel
theorem dX1_settle_9 : decode cX1_settle 9 = .ok (.bipush 90, 2) := by decide +kernel
theorem dX1_settle_11 : decode cX1_settle 11 = .ok (.invokestatic 23, 3) := by decide +kernel
theorem dX1_settle_14 : decode cX1_settle 14 = .ok (.aload_n 0, 1) := by decide +kernel
theorem dX1_settle_15 : decode cX1_settle 15 = .ok (.getfield 10, 3) := by decide +kernel
theorem dX1_settle_18 : decode cX1_settle 18 = .ok (.getfield 48, 3) := by decide +kernel
theorem dX1_settle_21 : decode cX1_settle 21 = .ok (.iload 4, 2) := by decide +kernel
theorem dX1_settle_23 : decode cX1_settle 23 = .ok (.iaload, 1) := by decide +kernel
theorem dX1_settle_24 : decode cX1_settle 24 = .ok (.istore 5, 2) := by decide +kernel
theorem dX1_settle_26 : decode cX1_settle 26 = .ok (.aload_n 0, 1) := by decide +kernel
theorem dX1_settle_27 : decode cX1_settle 27 = .ok (.getfield 10, 3) := by decide +kernel
theorem dX1_settle_30 : decode cX1_settle 30 = .ok (.getfield 48, 3) := by decide +kernel
theorem dX1_settle_33 : decode cX1_settle 33 = .ok (.iload 4, 2) := by decide +kernel
theorem dX1_settle_35 : decode cX1_settle 35 = .ok (.iload_n 3, 1) := by decide +kernel
theorem dX1_settle_36 : decode cX1_settle 36 = .ok (.iastore, 1) := by decide +kernel
theorem dX1_settle_37 : decode cX1_settle 37 = .ok (.iload 5, 2) := by decide +kernel
theorem dX1_settle_39 : decode cX1_settle 39 = .ok (.ireturn, 1) := by decide +kernel
set_option maxRecDepth 20000 in
theorem ggX1_setRain_X1_requireIndex : GoodIn wsX1_setRain wsX1_requireIndex := goodIn_ca (goodIn_r _ [6, 7, 8] (by decide +kernel) (by decide +kernel)) (goodIn_sub (fun _ h => List.mem_cons_of_mem _ (List.mem_append_left _ (List.mem_append_right _ h))) (by decide +kernel))
set_option maxRecDepth 20000 in
theorem gX1_setRain_X1_requireIndex : GoodIn wsX1_setRain (va_wsS RX1 51 yX1_requireIndex wsX1_requireIndex) := goodIn_app (goodIn_of _ (by decide +kernel)) ggX1_setRain_X1_requireIndex
set_option maxRecDepth 20000 in
theorem ggX1_setRain_X1_requireWithin : GoodIn wsX1_setRain wsX1_requireWithin := goodIn_ca (goodIn_r _ [11, 12, 13] (by decide +kernel) (by decide +kernel)) (goodIn_sub (fun _ h => List.mem_cons_of_mem _ (List.mem_append_right _ h)) (by decide +kernel))
set_option maxRecDepth 20000 in
theorem gX1_setRain_X1_requireWithin : GoodIn wsX1_setRain (va_wsS RX1 23 yX1_requireWithin wsX1_requireWithin) := goodIn_app (goodIn_of _ (by decide +kernel)) ggX1_setRain_X1_requireWithin
theorem dX1_setRain_0 : decode cX1_setRain 0 = .ok (.iload_n 1, 1) := by decide +kernel
theorem dX1_setRain_1 : decode cX1_setRain 1 = .ok (.iconst 0, 1) := by decide +kernel
theorem dX1_setRain_2 : decode cX1_setRain 2 = .ok (.bipush 11, 2) := by decide +kernel
theorem dX1_setRain_4 : decode cX1_setRain 4 = .ok (.invokestatic 51, 3) := by decide +kernel
theorem dX1_setRain_7 : decode cX1_setRain 7 = .ok (.iload_n 2, 1) := by decide +kernel
theorem dX1_setRain_8 : decode cX1_setRain 8 = .ok (.iconst 0, 1) := by decide +kernel
theorem dX1_setRain_9 : decode cX1_setRain 9 = .ok (.bipush 9, 2) := by decide +kernel
theorem dX1_setRain_11 : decode cX1_setRain 11 = .ok (.invokestatic 23, 3) := by decide +kernel
theorem dX1_setRain_14 : decode cX1_setRain 14 = .ok (.aload_n 0, 1) := by decide +kernel
theorem dX1_setRain_15 : decode cX1_setRain 15 = .ok (.getfield 10, 3) := by decide +kernel
theorem dX1_setRain_18 : decode cX1_setRain 18 = .ok (.getfield 54, 3) := by decide +kernel
theorem dX1_setRain_21 : decode cX1_setRain 21 = .ok (.iload_n 1, 1) := by decide +kernel
theorem dX1_setRain_22 : decode cX1_setRain 22 = .ok (.iaload, 1) := by decide +kernel
theorem dX1_setRain_23 : decode cX1_setRain 23 = .ok (.istore_n 3, 1) := by decide +kernel
theorem dX1_setRain_24 : decode cX1_setRain 24 = .ok (.aload_n 0, 1) := by decide +kernel
theorem dX1_setRain_25 : decode cX1_setRain 25 = .ok (.getfield 10, 3) := by decide +kernel
theorem dX1_setRain_28 : decode cX1_setRain 28 = .ok (.getfield 54, 3) := by decide +kernel
theorem dX1_setRain_31 : decode cX1_setRain 31 = .ok (.iload_n 1, 1) := by decide +kernel
theorem dX1_setRain_32 : decode cX1_setRain 32 = .ok (.iload_n 2, 1) := by decide +kernel
theorem dX1_setRain_33 : decode cX1_setRain 33 = .ok (.iastore, 1) := by decide +kernel
theorem dX1_setRain_34 : decode cX1_setRain 34 = .ok (.iload_n 3, 1) := by decide +kernel
theorem dX1_setRain_35 : decode cX1_setRain 35 = .ok (.ireturn, 1) := by decide +kernel
set_option maxRecDepth 20000 in
theorem ggX1_cell_X1_placeOf : GoodIn wsX1_cell wsX1_placeOf := goodIn_ca (goodIn_r _ [5, 6, 7, 4, 8, 9, 10] (by decide +kernel) (by decide +kernel)) (goodIn_sub (fun _ h => List.mem_cons_of_mem _ (List.mem_append_right _ h)) (by decide +kernel))
set_option maxRecDepth 20000 in
theorem gX1_cell_X1_placeOf : GoodIn wsX1_cell (va_wsS RX1 19 yX1_placeOf wsX1_placeOf) := goodIn_app (goodIn_of _ (by decide +kernel)) ggX1_cell_X1_placeOf
set_option maxRecDepth 20000 in
theorem ggX1_cell_X1_requireIndex : GoodIn wsX1_cell wsX1_requireIndex := goodIn_ca (goodIn_r _ [8, 9, 10] (by decide +kernel) (by decide +kernel)) (goodIn_sub (fun _ h => List.mem_cons_of_mem _ (List.mem_append_right _ h)) (by decide +kernel))
set_option maxRecDepth 20000 in
theorem gX1_cell_X1_requireIndex : GoodIn wsX1_cell (va_wsS RX1 51 yX1_requireIndex wsX1_requireIndex) := goodIn_app (goodIn_of _ (by decide +kernel)) ggX1_cell_X1_requireIndex
set_option maxRecDepth 20000 in
theorem ggX1_cell_X0_cellNumber : GoodIn wsX1_cell wsX0_cellNumber := goodIn_r _ [15, 16, 17, 18, 19, 20, 21, 22, 23, 24, 14, 25, 26, 27, 28, 29, 30, 31, 32, 33, 36, 37, 38, 39, 40, 41, 42, 43, 44, 45, 46, 47, 48, 49, 50] (by decide +kernel) (by decide +kernel)
set_option maxRecDepth 20000 in
theorem gX1_cell_X0_cellNumber : GoodIn wsX1_cell (wsV RX1 57 RX0 yX0_cellNumber wsX0_cellNumber) := goodIn_app (goodIn_of _ (by decide +kernel)) ggX1_cell_X0_cellNumber
theorem dX1_cell_0 : decode cX1_cell 0 = .ok (.iload_n 1, 1) := by decide +kernel
theorem dX1_cell_1 : decode cX1_cell 1 = .ok (.iload_n 2, 1) := by decide +kernel
theorem dX1_cell_2 : decode cX1_cell 2 = .ok (.invokestatic 19, 3) := by decide +kernel
theorem dX1_cell_5 : decode cX1_cell 5 = .ok (.istore 4, 2) := by decide +kernel
theorem dX1_cell_7 : decode cX1_cell 7 = .ok (.iload_n 3, 1) := by decide +kernel
theorem dX1_cell_8 : decode cX1_cell 8 = .ok (.iconst 0, 1) := by decide +kernel
theorem dX1_cell_9 : decode cX1_cell 9 = .ok (.bipush 7, 2) := by decide +kernel
theorem dX1_cell_11 : decode cX1_cell 11 = .ok (.invokestatic 51, 3) := by decide +kernel
theorem dX1_cell_14 : decode cX1_cell 14 = .ok (.aload_n 0, 1) := by decide +kernel
theorem dX1_cell_15 : decode cX1_cell 15 = .ok (.getfield 10, 3) := by decide +kernel
theorem dX1_cell_18 : decode cX1_cell 18 = .ok (.iload 4, 2) := by decide +kernel
theorem dX1_cell_20 : decode cX1_cell 20 = .ok (.iload_n 3, 1) := by decide +kernel
theorem dX1_cell_21 : decode cX1_cell 21 = .ok (.invokevirtual 57, 3) := by decide +kernel
theorem dX1_cell_24 : decode cX1_cell 24 = .ok (.ireturn, 1) := by decide +kernel
set_option maxRecDepth 20000 in
theorem ggX1_lake_X1_placeOf : GoodIn wsX1_lake wsX1_placeOf := goodIn_ca (goodIn_r _ [5, 6, 7, 4, 8, 9, 10] (by decide +kernel) (by decide +kernel)) (goodIn_sub (fun _ h => List.mem_cons_of_mem _ (List.mem_append_right _ h)) (by decide +kernel))
set_option maxRecDepth 20000 in
theorem gX1_lake_X1_placeOf : GoodIn wsX1_lake (va_wsS RX1 19 yX1_placeOf wsX1_placeOf) := goodIn_app (goodIn_of _ (by decide +kernel)) ggX1_lake_X1_placeOf
set_option maxRecDepth 20000 in
theorem ggX1_lake_X0_lakeSize : GoodIn wsX1_lake wsX0_lakeSize := goodIn_r _ [15, 16, 17, 18, 19, 20, 21, 22, 23, 14, 24, 25, 26, 27, 28, 29, 30, 31, 32, 33, 36, 37, 38, 39, 40, 41, 42, 43, 44, 45, 46, 47, 48, 49, 50] (by decide +kernel) (by decide +kernel)
set_option maxRecDepth 20000 in
theorem gX1_lake_X0_lakeSize : GoodIn wsX1_lake (wsV RX1 60 RX0 yX0_lakeSize wsX0_lakeSize) := goodIn_app (goodIn_of _ (by decide +kernel)) ggX1_lake_X0_lakeSize
theorem dX1_lake_0 : decode cX1_lake 0 = .ok (.aload_n 0, 1) := by decide +kernel
theorem dX1_lake_1 : decode cX1_lake 1 = .ok (.getfield 10, 3) := by decide +kernel
theorem dX1_lake_4 : decode cX1_lake 4 = .ok (.iload_n 1, 1) := by decide +kernel
theorem dX1_lake_5 : decode cX1_lake 5 = .ok (.iload_n 2, 1) := by decide +kernel
theorem dX1_lake_6 : decode cX1_lake 6 = .ok (.invokestatic 19, 3) := by decide +kernel
theorem dX1_lake_9 : decode cX1_lake 9 = .ok (.invokevirtual 60, 3) := by decide +kernel
theorem dX1_lake_12 : decode cX1_lake 12 = .ok (.ireturn, 1) := by decide +kernel
set_option maxRecDepth 20000 in
theorem ggX1_count_X1_requireIndex : GoodIn wsX1_count wsX1_requireIndex := goodIn_ca (goodIn_r _ [5, 6, 7] (by decide +kernel) (by decide +kernel)) (goodIn_sub (fun _ h => List.mem_cons_of_mem _ (List.mem_append_right _ h)) (by decide +kernel))
set_option maxRecDepth 20000 in
theorem gX1_count_X1_requireIndex : GoodIn wsX1_count (va_wsS RX1 51 yX1_requireIndex wsX1_requireIndex) := goodIn_app (goodIn_of _ (by decide +kernel)) ggX1_count_X1_requireIndex
set_option maxRecDepth 20000 in
theorem ggX1_count_X0_tally : GoodIn wsX1_count wsX0_tally := goodIn_r _ [12, 13, 14, 15, 16, 17, 18, 19, 20, 21, 22, 11, 23, 24, 25, 26, 27, 28, 29, 30, 31, 32, 33, 34, 35, 36, 37, 38, 39, 40, 41, 42, 43, 44, 45, 46, 47, 48, 49, 50, 51, 52, 55, 56, 57, 58, 59, 60, 61, 62, 63, 64, 65, 66, 67, 68, 69] (by decide +kernel) (by decide +kernel)
set_option maxRecDepth 20000 in
theorem gX1_count_X0_tally : GoodIn wsX1_count (wsV RX1 64 RX0 yX0_tally wsX0_tally) := goodIn_app (goodIn_of _ (by decide +kernel)) ggX1_count_X0_tally
theorem dX1_count_0 : decode cX1_count 0 = .ok (.iload_n 1, 1) := by decide +kernel
theorem dX1_count_1 : decode cX1_count 1 = .ok (.iconst 0, 1) := by decide +kernel
theorem dX1_count_2 : decode cX1_count 2 = .ok (.bipush 8, 2) := by decide +kernel
theorem dX1_count_4 : decode cX1_count 4 = .ok (.invokestatic 51, 3) := by decide +kernel
theorem dX1_count_7 : decode cX1_count 7 = .ok (.aload_n 0, 1) := by decide +kernel
theorem dX1_count_8 : decode cX1_count 8 = .ok (.getfield 10, 3) := by decide +kernel
theorem dX1_count_11 : decode cX1_count 11 = .ok (.iload_n 1, 1) := by decide +kernel
theorem dX1_count_12 : decode cX1_count 12 = .ok (.invokevirtual 64, 3) := by decide +kernel
theorem dX1_count_15 : decode cX1_count 15 = .ok (.ireturn, 1) := by decide +kernel
set_option maxRecDepth 20000 in
theorem ggX1_pass_X1_requireWithin : GoodIn wsX1_pass wsX1_requireWithin := goodIn_ca (goodIn_r _ [5, 6, 7] (by decide +kernel) (by decide +kernel)) (goodIn_sub (fun _ h => List.mem_cons_of_mem _ (List.mem_append_right _ h)) (by decide +kernel))
set_option maxRecDepth 20000 in
theorem gX1_pass_X1_requireWithin : GoodIn wsX1_pass (va_wsS RX1 23 yX1_requireWithin wsX1_requireWithin) := goodIn_app (goodIn_of _ (by decide +kernel)) ggX1_pass_X1_requireWithin
set_option maxRecDepth 20000 in
theorem ggX1_pass_X0_goHours : GoodIn wsX1_pass wsX0_goHours := goodIn_r _ [12, 13, 14, 15, 16, 11, 17, 18, 19, 20, 21, 22, 23, 24, 25, 26, 27, 28, 29, 30, 31, 32, 33, 34, 35, 36, 37, 38, 39, 40, 41, 42, 43, 44, 45, 46, 47, 48, 49, 50, 51, 52, 53, 54, 55, 56, 57, 58, 59, 60, 61, 62, 63, 64, 65, 66, 67, 68, 69, 70, 71, 72, 73, 74, 75, 76, 77, 78, 79, 80, 81, 82, 83, 86, 87, 88, 89, 90, 91, 92, 93, 94, 95, 96, 97, 98, 99, 100] (by decide +kernel) (by decide +kernel)
set_option maxRecDepth 20000 in
theorem gX1_pass_X0_goHours : GoodIn wsX1_pass (wsV RX1 67 RX0 yX0_goHours wsX0_goHours) := goodIn_app (goodIn_of _ (by decide +kernel)) ggX1_pass_X0_goHours
theorem dX1_pass_0 : decode cX1_pass 0 = .ok (.iload_n 1, 1) := by decide +kernel
theorem dX1_pass_1 : decode cX1_pass 1 = .ok (.iconst 1, 1) := by decide +kernel
theorem dX1_pass_2 : decode cX1_pass 2 = .ok (.bipush 48, 2) := by decide +kernel
theorem dX1_pass_4 : decode cX1_pass 4 = .ok (.invokestatic 23, 3) := by decide +kernel
theorem dX1_pass_7 : decode cX1_pass 7 = .ok (.aload_n 0, 1) := by decide +kernel
theorem dX1_pass_8 : decode cX1_pass 8 = .ok (.getfield 10, 3) := by decide +kernel
theorem dX1_pass_11 : decode cX1_pass 11 = .ok (.iload_n 1, 1) := by decide +kernel
theorem dX1_pass_12 : decode cX1_pass 12 = .ok (.invokevirtual 67, 3) := by decide +kernel
theorem dX1_pass_15 : decode cX1_pass 15 = .ok (.ireturn, 1) := by decide +kernel
set_option maxRecDepth 20000 in
theorem ggX1_floods_X1_placeOf : GoodIn wsX1_floods wsX1_placeOf := goodIn_ca (goodIn_r _ [7, 8, 9, 6, 10, 11, 12] (by decide +kernel) (by decide +kernel)) (goodIn_sub (fun _ h => List.mem_cons_of_mem _ (List.mem_append_right _ h)) (by decide +kernel))
set_option maxRecDepth 20000 in
theorem gX1_floods_X1_placeOf : GoodIn wsX1_floods (va_wsS RX1 19 yX1_placeOf wsX1_placeOf) := goodIn_app (goodIn_of _ (by decide +kernel)) ggX1_floods_X1_placeOf
set_option maxRecDepth 20000 in
theorem ggX1_floods_X0_becomeLike : GoodIn wsX1_floods wsX0_becomeLike := goodIn_r _ [17, 18, 19, 20, 21, 22, 23, 24, 25, 26, 27, 28, 29, 30, 31, 32, 95, 96, 97, 98, 99, 100, 101, 102, 103, 104, 105, 106, 107, 108, 109] (by decide +kernel) (by decide +kernel)
set_option maxRecDepth 20000 in
theorem gX1_floods_X0_becomeLike : GoodIn wsX1_floods (wsV RX1 70 RX0 yX0_becomeLike wsX0_becomeLike) := goodIn_app (goodIn_of _ (by decide +kernel)) ggX1_floods_X0_becomeLike
set_option maxRecDepth 20000 in
theorem ggX1_floods_X0_goOneHour : GoodIn wsX1_floods wsX0_goOneHour := goodIn_r _ [36, 29, 37, 38, 39, 16, 40, 28, 23, 41, 42, 43, 44, 45, 46, 47, 48, 49, 50, 24, 51, 52, 53, 54, 18, 55, 56, 57, 58, 59, 60, 61, 62, 63, 64, 65, 66, 67, 68, 69, 70, 71, 72, 73, 74, 75, 76, 77, 78, 79, 80, 81, 82, 83, 84, 25, 30, 85, 86, 87, 88, 26, 31, 89, 90, 91, 92, 27, 32, 95, 96, 97, 98, 99, 100, 101, 102, 103, 104, 105, 106, 107, 108, 109] (by decide +kernel) (by decide +kernel)
set_option maxRecDepth 20000 in
theorem gX1_floods_X0_goOneHour : GoodIn wsX1_floods (wsV RX1 74 RX0 yX0_goOneHour wsX0_goOneHour) := goodIn_app (goodIn_of _ (by decide +kernel)) ggX1_floods_X0_goOneHour
theorem dX1_floods_0 : decode cX1_floods 0 = .ok (.iload_n 1, 1) := by decide +kernel
theorem dX1_floods_1 : decode cX1_floods 1 = .ok (.iload_n 2, 1) := by decide +kernel
theorem dX1_floods_2 : decode cX1_floods 2 = .ok (.invokestatic 19, 3) := by decide +kernel
theorem dX1_floods_5 : decode cX1_floods 5 = .ok (.istore_n 3, 1) := by decide +kernel
theorem dX1_floods_6 : decode cX1_floods 6 = .ok (.aload_n 0, 1) := by decide +kernel
theorem dX1_floods_7 : decode cX1_floods 7 = .ok (.getfield 16, 3) := by decide +kernel
theorem dX1_floods_10 : decode cX1_floods 10 = .ok (.aload_n 0, 1) := by decide +kernel
theorem dX1_floods_11 : decode cX1_floods 11 = .ok (.getfield 10, 3) := by decide +kernel
theorem dX1_floods_14 : decode cX1_floods 14 = .ok (.invokevirtual 70, 3) := by decide +kernel
theorem dX1_floods_17 : decode cX1_floods 17 = .ok (.aload_n 0, 1) := by decide +kernel
theorem dX1_floods_18 : decode cX1_floods 18 = .ok (.getfield 16, 3) := by decide +kernel
theorem dX1_floods_21 : decode cX1_floods 21 = .ok (.getfield 31, 3) := by decide +kernel
theorem dX1_floods_24 : decode cX1_floods 24 = .ok (.iload_n 3, 1) := by decide +kernel
theorem dX1_floods_25 : decode cX1_floods 25 = .ok (.iaload, 1) := by decide +kernel
theorem dX1_floods_26 : decode cX1_floods 26 = .ok (.iconst 3, 1) := by decide +kernel
theorem dX1_floods_27 : decode cX1_floods 27 = .ok (.if_icmp .lt 5, 3) := by decide +kernel
theorem dX1_floods_30 : decode cX1_floods 30 = .ok (.iconst 0, 1) := by decide +kernel
theorem dX1_floods_31 : decode cX1_floods 31 = .ok (.ireturn, 1) := by decide +kernel
theorem dX1_floods_32 : decode cX1_floods 32 = .ok (.iconst 1, 1) := by decide +kernel
theorem dX1_floods_33 : decode cX1_floods 33 = .ok (.istore 4, 2) := by decide +kernel
theorem dX1_floods_35 : decode cX1_floods 35 = .ok (.iload 4, 2) := by decide +kernel
theorem dX1_floods_37 : decode cX1_floods 37 = .ok (.bipush 48, 2) := by decide +kernel
theorem dX1_floods_39 : decode cX1_floods 39 = .ok (.if_icmp .gt 32, 3) := by decide +kernel
theorem dX1_floods_42 : decode cX1_floods 42 = .ok (.aload_n 0, 1) := by decide +kernel
theorem dX1_floods_43 : decode cX1_floods 43 = .ok (.getfield 16, 3) := by decide +kernel
theorem dX1_floods_46 : decode cX1_floods 46 = .ok (.invokevirtual 74, 3) := by decide +kernel
theorem dX1_floods_49 : decode cX1_floods 49 = .ok (.aload_n 0, 1) := by decide +kernel
theorem dX1_floods_50 : decode cX1_floods 50 = .ok (.getfield 16, 3) := by decide +kernel
theorem dX1_floods_53 : decode cX1_floods 53 = .ok (.getfield 31, 3) := by decide +kernel
theorem dX1_floods_56 : decode cX1_floods 56 = .ok (.iload_n 3, 1) := by decide +kernel
theorem dX1_floods_57 : decode cX1_floods 57 = .ok (.iaload, 1) := by decide +kernel
theorem dX1_floods_58 : decode cX1_floods 58 = .ok (.iconst 3, 1) := by decide +kernel
theorem dX1_floods_59 : decode cX1_floods 59 = .ok (.if_icmp .lt 6, 3) := by decide +kernel
theorem dX1_floods_62 : decode cX1_floods 62 = .ok (.iload 4, 2) := by decide +kernel
theorem dX1_floods_64 : decode cX1_floods 64 = .ok (.ireturn, 1) := by decide +kernel
theorem dX1_floods_65 : decode cX1_floods 65 = .ok (.iinc 4 1, 3) := by decide +kernel
theorem dX1_floods_68 : decode cX1_floods 68 = .ok (.goto (-33), 3) := by decide +kernel
theorem dX1_floods_71 : decode cX1_floods 71 = .ok (.iconst (-1), 1) := by decide +kernel
theorem dX1_floods_72 : decode cX1_floods 72 = .ok (.ireturn, 1) := by decide +kernel
set_option maxRecDepth 20000 in
theorem ggX1_breaks_X1_placeOf : GoodIn wsX1_breaks wsX1_placeOf := goodIn_ca (goodIn_r _ [7, 8, 9, 6, 10, 11, 12] (by decide +kernel) (by decide +kernel)) (goodIn_sub (fun _ h => List.mem_cons_of_mem _ (List.mem_append_right _ h)) (by decide +kernel))
set_option maxRecDepth 20000 in
theorem gX1_breaks_X1_placeOf : GoodIn wsX1_breaks (va_wsS RX1 19 yX1_placeOf wsX1_placeOf) := goodIn_app (goodIn_of _ (by decide +kernel)) ggX1_breaks_X1_placeOf
set_option maxRecDepth 20000 in
theorem ggX1_breaks_X0_becomeLike : GoodIn wsX1_breaks wsX0_becomeLike := goodIn_r _ [17, 18, 19, 20, 21, 22, 23, 24, 25, 26, 27, 28, 29, 30, 31, 32, 95, 96, 97, 98, 99, 100, 101, 102, 103, 104, 105, 106, 107, 108, 109] (by decide +kernel) (by decide +kernel)
set_option maxRecDepth 20000 in
theorem gX1_breaks_X0_becomeLike : GoodIn wsX1_breaks (wsV RX1 70 RX0 yX0_becomeLike wsX0_becomeLike) := goodIn_app (goodIn_of _ (by decide +kernel)) ggX1_breaks_X0_becomeLike
set_option maxRecDepth 20000 in
theorem ggX1_breaks_X0_goOneHour : GoodIn wsX1_breaks wsX0_goOneHour := goodIn_r _ [36, 29, 37, 38, 39, 16, 40, 28, 23, 41, 42, 43, 44, 45, 46, 47, 48, 49, 50, 24, 51, 52, 53, 54, 18, 55, 56, 57, 58, 59, 60, 61, 62, 63, 64, 65, 66, 67, 68, 69, 70, 71, 72, 73, 74, 75, 76, 77, 78, 79, 80, 81, 82, 83, 84, 25, 30, 85, 86, 87, 88, 26, 31, 89, 90, 91, 92, 27, 32, 95, 96, 97, 98, 99, 100, 101, 102, 103, 104, 105, 106, 107, 108, 109] (by decide +kernel) (by decide +kernel)
set_option maxRecDepth 20000 in
theorem gX1_breaks_X0_goOneHour : GoodIn wsX1_breaks (wsV RX1 74 RX0 yX0_goOneHour wsX0_goOneHour) := goodIn_app (goodIn_of _ (by decide +kernel)) ggX1_breaks_X0_goOneHour
theorem dX1_breaks_0 : decode cX1_breaks 0 = .ok (.iload_n 1, 1) := by decide +kernel
theorem dX1_breaks_1 : decode cX1_breaks 1 = .ok (.iload_n 2, 1) := by decide +kernel
theorem dX1_breaks_2 : decode cX1_breaks 2 = .ok (.invokestatic 19, 3) := by decide +kernel
theorem dX1_breaks_5 : decode cX1_breaks 5 = .ok (.istore_n 3, 1) := by decide +kernel
theorem dX1_breaks_6 : decode cX1_breaks 6 = .ok (.aload_n 0, 1) := by decide +kernel
theorem dX1_breaks_7 : decode cX1_breaks 7 = .ok (.getfield 10, 3) := by decide +kernel
theorem dX1_breaks_10 : decode cX1_breaks 10 = .ok (.getfield 39, 3) := by decide +kernel
theorem dX1_breaks_13 : decode cX1_breaks 13 = .ok (.iload_n 3, 1) := by decide +kernel
theorem dX1_breaks_14 : decode cX1_breaks 14 = .ok (.iaload, 1) := by decide +kernel
theorem dX1_breaks_15 : decode cX1_breaks 15 = .ok (.ifCond .ne 5, 3) := by decide +kernel
theorem dX1_breaks_18 : decode cX1_breaks 18 = .ok (.iconst (-1), 1) := by decide +kernel
theorem dX1_breaks_19 : decode cX1_breaks 19 = .ok (.ireturn, 1) := by decide +kernel
theorem dX1_breaks_20 : decode cX1_breaks 20 = .ok (.aload_n 0, 1) := by decide +kernel
theorem dX1_breaks_21 : decode cX1_breaks 21 = .ok (.getfield 16, 3) := by decide +kernel
theorem dX1_breaks_24 : decode cX1_breaks 24 = .ok (.aload_n 0, 1) := by decide +kernel
theorem dX1_breaks_25 : decode cX1_breaks 25 = .ok (.getfield 10, 3) := by decide +kernel
theorem dX1_breaks_28 : decode cX1_breaks 28 = .ok (.invokevirtual 70, 3) := by decide +kernel
theorem dX1_breaks_31 : decode cX1_breaks 31 = .ok (.iconst 1, 1) := by decide +kernel
theorem dX1_breaks_32 : decode cX1_breaks 32 = .ok (.istore 4, 2) := by decide +kernel
theorem dX1_breaks_34 : decode cX1_breaks 34 = .ok (.iload 4, 2) := by decide +kernel
theorem dX1_breaks_36 : decode cX1_breaks 36 = .ok (.bipush 48, 2) := by decide +kernel
theorem dX1_breaks_38 : decode cX1_breaks 38 = .ok (.if_icmp .gt 31, 3) := by decide +kernel
theorem dX1_breaks_41 : decode cX1_breaks 41 = .ok (.aload_n 0, 1) := by decide +kernel
theorem dX1_breaks_42 : decode cX1_breaks 42 = .ok (.getfield 16, 3) := by decide +kernel
theorem dX1_breaks_45 : decode cX1_breaks 45 = .ok (.invokevirtual 74, 3) := by decide +kernel
theorem dX1_breaks_48 : decode cX1_breaks 48 = .ok (.aload_n 0, 1) := by decide +kernel
theorem dX1_breaks_49 : decode cX1_breaks 49 = .ok (.getfield 16, 3) := by decide +kernel
theorem dX1_breaks_52 : decode cX1_breaks 52 = .ok (.getfield 39, 3) := by decide +kernel
theorem dX1_breaks_55 : decode cX1_breaks 55 = .ok (.iload_n 3, 1) := by decide +kernel
theorem dX1_breaks_56 : decode cX1_breaks 56 = .ok (.iaload, 1) := by decide +kernel
theorem dX1_breaks_57 : decode cX1_breaks 57 = .ok (.ifCond .ne 6, 3) := by decide +kernel
theorem dX1_breaks_60 : decode cX1_breaks 60 = .ok (.iload 4, 2) := by decide +kernel
theorem dX1_breaks_62 : decode cX1_breaks 62 = .ok (.ireturn, 1) := by decide +kernel
theorem dX1_breaks_63 : decode cX1_breaks 63 = .ok (.iinc 4 1, 3) := by decide +kernel
theorem dX1_breaks_66 : decode cX1_breaks 66 = .ok (.goto (-32), 3) := by decide +kernel
theorem dX1_breaks_69 : decode cX1_breaks 69 = .ok (.iconst (-1), 1) := by decide +kernel
theorem dX1_breaks_70 : decode cX1_breaks 70 = .ok (.ireturn, 1) := by decide +kernel
set_option maxRecDepth 20000 in
theorem ggX1_foresee_X1_requireWithin : GoodIn wsX1_foresee wsX1_requireWithin := goodIn_ca (goodIn_r _ [6, 7, 8] (by decide +kernel) (by decide +kernel)) (goodIn_sub (fun _ h => List.mem_cons_of_mem _ (List.mem_append_left _ (List.mem_append_right _ h))) (by decide +kernel))
set_option maxRecDepth 20000 in
theorem gX1_foresee_X1_requireWithin : GoodIn wsX1_foresee (va_wsS RX1 23 yX1_requireWithin wsX1_requireWithin) := goodIn_app (goodIn_of _ (by decide +kernel)) ggX1_foresee_X1_requireWithin
set_option maxRecDepth 20000 in
theorem ggX1_foresee_X1_requireIndex : GoodIn wsX1_foresee wsX1_requireIndex := goodIn_ca (goodIn_r _ [11, 12, 13] (by decide +kernel) (by decide +kernel)) (goodIn_sub (fun _ h => List.mem_cons_of_mem _ (List.mem_append_right _ h)) (by decide +kernel))
set_option maxRecDepth 20000 in
theorem gX1_foresee_X1_requireIndex : GoodIn wsX1_foresee (va_wsS RX1 51 yX1_requireIndex wsX1_requireIndex) := goodIn_app (goodIn_of _ (by decide +kernel)) ggX1_foresee_X1_requireIndex
set_option maxRecDepth 20000 in
theorem ggX1_foresee_X0_becomeLike : GoodIn wsX1_foresee wsX0_becomeLike := goodIn_r _ [18, 19, 20, 21, 22, 23, 24, 25, 26, 27, 28, 29, 30, 31, 32, 33, 130, 131, 132, 133, 134, 135, 136, 137, 138, 139, 140, 141, 142, 143, 144] (by decide +kernel) (by decide +kernel)
set_option maxRecDepth 20000 in
theorem gX1_foresee_X0_becomeLike : GoodIn wsX1_foresee (wsV RX1 70 RX0 yX0_becomeLike wsX0_becomeLike) := goodIn_app (goodIn_of _ (by decide +kernel)) ggX1_foresee_X0_becomeLike
set_option maxRecDepth 20000 in
theorem ggX1_foresee_X0_goHours : GoodIn wsX1_foresee wsX0_goHours := goodIn_r _ [37, 33, 38, 39, 40, 17, 41, 30, 42, 43, 44, 45, 29, 24, 46, 47, 48, 49, 50, 51, 52, 53, 54, 55, 25, 56, 57, 58, 59, 19, 60, 61, 62, 63, 64, 65, 66, 67, 68, 69, 70, 71, 72, 73, 74, 75, 76, 77, 78, 79, 80, 81, 82, 83, 84, 85, 86, 87, 88, 89, 26, 31, 90, 91, 92, 93, 27, 32, 94, 95, 96, 97, 28, 130, 131, 132, 133, 134, 135, 136, 137, 138, 139, 140, 141, 142, 143, 144] (by decide +kernel) (by decide +kernel)
set_option maxRecDepth 20000 in
theorem gX1_foresee_X0_goHours : GoodIn wsX1_foresee (wsV RX1 67 RX0 yX0_goHours wsX0_goHours) := goodIn_app (goodIn_of _ (by decide +kernel)) ggX1_foresee_X0_goHours
set_option maxRecDepth 20000 in
theorem ggX1_foresee_X0_tally : GoodIn wsX1_foresee wsX0_tally := goodIn_r _ [101, 30, 24, 25, 31, 32, 28, 33, 102, 103, 104, 17, 105, 106, 107, 108, 109, 110, 111, 112, 113, 114, 115, 116, 117, 118, 64, 65, 66, 67, 119, 120, 121, 122, 123, 124, 125, 126, 127, 72, 73, 74, 130, 131, 132, 133, 134, 135, 136, 137, 138, 139, 140, 141, 142, 143, 144] (by decide +kernel) (by decide +kernel)
set_option maxRecDepth 20000 in
theorem gX1_foresee_X0_tally : GoodIn wsX1_foresee (wsV RX1 64 RX0 yX0_tally wsX0_tally) := goodIn_app (goodIn_of _ (by decide +kernel)) ggX1_foresee_X0_tally
theorem dX1_foresee_0 : decode cX1_foresee 0 = .ok (.iload_n 1, 1) := by decide +kernel
theorem dX1_foresee_1 : decode cX1_foresee 1 = .ok (.iconst 1, 1) := by decide +kernel
theorem dX1_foresee_2 : decode cX1_foresee 2 = .ok (.bipush 48, 2) := by decide +kernel
theorem dX1_foresee_4 : decode cX1_foresee 4 = .ok (.invokestatic 23, 3) := by decide +kernel
theorem dX1_foresee_7 : decode cX1_foresee 7 = .ok (.iload_n 2, 1) := by decide +kernel
theorem dX1_foresee_8 : decode cX1_foresee 8 = .ok (.iconst 1, 1) := by decide +kernel
theorem dX1_foresee_9 : decode cX1_foresee 9 = .ok (.bipush 8, 2) := by decide +kernel
theorem dX1_foresee_11 : decode cX1_foresee 11 = .ok (.invokestatic 51, 3) := by decide +kernel
theorem dX1_foresee_14 : decode cX1_foresee 14 = .ok (.aload_n 0, 1) := by decide +kernel
theorem dX1_foresee_15 : decode cX1_foresee 15 = .ok (.getfield 16, 3) := by decide +kernel
theorem dX1_foresee_18 : decode cX1_foresee 18 = .ok (.aload_n 0, 1) := by decide +kernel
theorem dX1_foresee_19 : decode cX1_foresee 19 = .ok (.getfield 10, 3) := by decide +kernel
theorem dX1_foresee_22 : decode cX1_foresee 22 = .ok (.invokevirtual 70, 3) := by decide +kernel
theorem dX1_foresee_25 : decode cX1_foresee 25 = .ok (.aload_n 0, 1) := by decide +kernel
theorem dX1_foresee_26 : decode cX1_foresee 26 = .ok (.getfield 16, 3) := by decide +kernel
theorem dX1_foresee_29 : decode cX1_foresee 29 = .ok (.iload_n 1, 1) := by decide +kernel
theorem dX1_foresee_30 : decode cX1_foresee 30 = .ok (.invokevirtual 67, 3) := by decide +kernel
theorem dX1_foresee_33 : decode cX1_foresee 33 = .ok (.pop, 1) := by decide +kernel
theorem dX1_foresee_34 : decode cX1_foresee 34 = .ok (.aload_n 0, 1) := by decide +kernel
theorem dX1_foresee_35 : decode cX1_foresee 35 = .ok (.getfield 16, 3) := by decide +kernel
theorem dX1_foresee_38 : decode cX1_foresee 38 = .ok (.iload_n 2, 1) := by decide +kernel
theorem dX1_foresee_39 : decode cX1_foresee 39 = .ok (.invokevirtual 64, 3) := by decide +kernel
theorem dX1_foresee_42 : decode cX1_foresee 42 = .ok (.ireturn, 1) := by decide +kernel
set_option maxRecDepth 20000 in
theorem ggX1_mean_X0_wetCells : GoodIn wsX1_mean wsX0_wetCells := goodIn_r _ [7, 8, 9, 10, 11, 6, 12, 19, 20, 21, 22, 23, 24, 25, 26, 27, 28, 29, 30, 31, 32, 33] (by decide +kernel) (by decide +kernel)
set_option maxRecDepth 20000 in
theorem gX1_mean_X0_wetCells : GoodIn wsX1_mean (wsV RX1 87 RX0 yX0_wetCells wsX0_wetCells) := goodIn_app (goodIn_of _ (by decide +kernel)) ggX1_mean_X0_wetCells
set_option maxRecDepth 20000 in
theorem ggX1_mean_X0_sum : GoodIn wsX1_mean wsX0_sum := goodIn_r _ [16] (by decide +kernel) (by decide +kernel)
set_option maxRecDepth 20000 in
theorem gX1_mean_X0_sum : GoodIn wsX1_mean (wsV RX1 91 RX0 yX0_sum wsX0_sum) := goodIn_app (goodIn_of _ (by decide +kernel)) ggX1_mean_X0_sum
theorem dX1_mean_0 : decode cX1_mean 0 = .ok (.aload_n 0, 1) := by decide +kernel
theorem dX1_mean_1 : decode cX1_mean 1 = .ok (.getfield 10, 3) := by decide +kernel
theorem dX1_mean_4 : decode cX1_mean 4 = .ok (.invokevirtual 87, 3) := by decide +kernel
theorem dX1_mean_7 : decode cX1_mean 7 = .ok (.istore_n 1, 1) := by decide +kernel
theorem dX1_mean_8 : decode cX1_mean 8 = .ok (.iload_n 1, 1) := by decide +kernel
theorem dX1_mean_9 : decode cX1_mean 9 = .ok (.ifCond .ne 5, 3) := by decide +kernel
theorem dX1_mean_12 : decode cX1_mean 12 = .ok (.dconst 0, 1) := by decide +kernel
theorem dX1_mean_13 : decode cX1_mean 13 = .ok (.dreturn, 1) := by decide +kernel
theorem dX1_mean_14 : decode cX1_mean 14 = .ok (.aload_n 0, 1) := by decide +kernel
theorem dX1_mean_15 : decode cX1_mean 15 = .ok (.getfield 10, 3) := by decide +kernel
theorem dX1_mean_18 : decode cX1_mean 18 = .ok (.aload_n 0, 1) := by decide +kernel
theorem dX1_mean_19 : decode cX1_mean 19 = .ok (.getfield 10, 3) := by decide +kernel
theorem dX1_mean_22 : decode cX1_mean 22 = .ok (.getfield 31, 3) := by decide +kernel
theorem dX1_mean_25 : decode cX1_mean 25 = .ok (.invokevirtual 91, 3) := by decide +kernel
theorem dX1_mean_28 : decode cX1_mean 28 = .ok (.i2d, 1) := by decide +kernel
theorem dX1_mean_29 : decode cX1_mean 29 = .ok (.iload_n 1, 1) := by decide +kernel
theorem dX1_mean_30 : decode cX1_mean 30 = .ok (.i2d, 1) := by decide +kernel
theorem dX1_mean_31 : decode cX1_mean 31 = .ok (.ddiv, 1) := by decide +kernel
theorem dX1_mean_32 : decode cX1_mean 32 = .ok (.dreturn, 1) := by decide +kernel
set_option maxRecDepth 20000 in
theorem ggX1_placeOf_X1_requireIndex : GoodIn wsX1_placeOf wsX1_requireIndex := goodIn_ca (goodIn_r _ [4, 5, 6] (by decide +kernel) (by decide +kernel)) (goodIn_sub (fun _ h => List.mem_cons_of_mem _ (List.mem_append_right _ h)) (by decide +kernel))
set_option maxRecDepth 20000 in
theorem gX1_placeOf_X1_requireIndex : GoodIn wsX1_placeOf (va_wsS RX1 51 yX1_requireIndex wsX1_requireIndex) := goodIn_app (goodIn_of _ (by decide +kernel)) ggX1_placeOf_X1_requireIndex
theorem dX1_placeOf_0 : decode cX1_placeOf 0 = .ok (.iload_n 0, 1) := by decide +kernel
theorem dX1_placeOf_1 : decode cX1_placeOf 1 = .ok (.iconst 0, 1) := by decide +kernel
theorem dX1_placeOf_2 : decode cX1_placeOf 2 = .ok (.bipush 7, 2) := by decide +kernel
theorem dX1_placeOf_4 : decode cX1_placeOf 4 = .ok (.invokestatic 51, 3) := by decide +kernel
theorem dX1_placeOf_7 : decode cX1_placeOf 7 = .ok (.iload_n 1, 1) := by decide +kernel
theorem dX1_placeOf_8 : decode cX1_placeOf 8 = .ok (.iconst 0, 1) := by decide +kernel
theorem dX1_placeOf_9 : decode cX1_placeOf 9 = .ok (.bipush 7, 2) := by decide +kernel
theorem dX1_placeOf_11 : decode cX1_placeOf 11 = .ok (.invokestatic 51, 3) := by decide +kernel
theorem dX1_placeOf_14 : decode cX1_placeOf 14 = .ok (.bipush 8, 2) := by decide +kernel
theorem dX1_placeOf_16 : decode cX1_placeOf 16 = .ok (.iload_n 1, 1) := by decide +kernel
theorem dX1_placeOf_17 : decode cX1_placeOf 17 = .ok (.imul, 1) := by decide +kernel
theorem dX1_placeOf_18 : decode cX1_placeOf 18 = .ok (.iload_n 0, 1) := by decide +kernel
theorem dX1_placeOf_19 : decode cX1_placeOf 19 = .ok (.iadd, 1) := by decide +kernel
theorem dX1_placeOf_20 : decode cX1_placeOf 20 = .ok (.ireturn, 1) := by decide +kernel
theorem dX1_requireIndex_0 : decode cX1_requireIndex 0 = .ok (.iload_n 0, 1) := by decide +kernel
theorem dX1_requireIndex_1 : decode cX1_requireIndex 1 = .ok (.iload_n 1, 1) := by decide +kernel
theorem dX1_requireIndex_2 : decode cX1_requireIndex 2 = .ok (.if_icmp .lt 8, 3) := by decide +kernel
theorem dX1_requireIndex_5 : decode cX1_requireIndex 5 = .ok (.iload_n 0, 1) := by decide +kernel
theorem dX1_requireIndex_6 : decode cX1_requireIndex 6 = .ok (.iload_n 2, 1) := by decide +kernel
theorem dX1_requireIndex_7 : decode cX1_requireIndex 7 = .ok (.if_icmp .le 13, 3) := by decide +kernel
theorem dX1_requireIndex_10 : decode cX1_requireIndex 10 = .ok (.new 99, 3) := by decide +kernel
theorem dX1_requireIndex_13 : decode cX1_requireIndex 13 = .ok (.dup, 1) := by decide +kernel
theorem dX1_requireIndex_14 : decode cX1_requireIndex 14 = .ok (.ldc 101, 2) := by decide +kernel
theorem dX1_requireIndex_16 : decode cX1_requireIndex 16 = .ok (.invokespecial 103, 3) := by decide +kernel
theorem dX1_requireIndex_19 : decode cX1_requireIndex 19 = .ok (.athrow, 1) := by decide +kernel
theorem dX1_requireIndex_20 : decode cX1_requireIndex 20 = .ok (.return_, 1) := by decide +kernel
theorem dX1_requireWithin_0 : decode cX1_requireWithin 0 = .ok (.iload_n 0, 1) := by decide +kernel
theorem dX1_requireWithin_1 : decode cX1_requireWithin 1 = .ok (.iload_n 1, 1) := by decide +kernel
theorem dX1_requireWithin_2 : decode cX1_requireWithin 2 = .ok (.if_icmp .lt 8, 3) := by decide +kernel
theorem dX1_requireWithin_5 : decode cX1_requireWithin 5 = .ok (.iload_n 0, 1) := by decide +kernel
theorem dX1_requireWithin_6 : decode cX1_requireWithin 6 = .ok (.iload_n 2, 1) := by decide +kernel
theorem dX1_requireWithin_7 : decode cX1_requireWithin 7 = .ok (.if_icmp .le 13, 3) := by decide +kernel
theorem dX1_requireWithin_10 : decode cX1_requireWithin 10 = .ok (.new 106, 3) := by decide +kernel
theorem dX1_requireWithin_13 : decode cX1_requireWithin 13 = .ok (.dup, 1) := by decide +kernel
theorem dX1_requireWithin_14 : decode cX1_requireWithin 14 = .ok (.ldc 108, 2) := by decide +kernel
theorem dX1_requireWithin_16 : decode cX1_requireWithin 16 = .ok (.invokespecial 110, 3) := by decide +kernel
theorem dX1_requireWithin_19 : decode cX1_requireWithin 19 = .ok (.athrow, 1) := by decide +kernel
theorem dX1_requireWithin_20 : decode cX1_requireWithin 20 = .ok (.return_, 1) := by decide +kernel
