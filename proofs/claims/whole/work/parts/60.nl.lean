set_option maxRecDepth 20000 in
theorem ggL_raise_X1_raise : GoodIn wsL_raise wsX1_raise := goodIn_ca (goodIn_ca (goodIn_r _ [7, 8, 9, 10, 11, 6, 12, 13, 14, 15, 16, 17, 18, 19, 20, 21, 22, 23, 24, 25, 26, 27, 28, 29, 30, 31, 32, 33, 34, 35, 36, 37, 38, 39] (by decide +kernel) (by decide +kernel)) (goodIn_sub (fun _ h => List.mem_cons_of_mem _ (List.mem_append_left _ (List.mem_append_right _ h))) (by decide +kernel))) (goodIn_sub (fun _ h => List.mem_cons_of_mem _ (List.mem_append_right _ h)) (by decide +kernel))
set_option maxRecDepth 20000 in
theorem gL_raise_X1_raise : GoodIn wsL_raise (wsV RL 7 RX1 yX1_raise wsX1_raise) := goodIn_app (goodIn_of _ (by decide +kernel)) ggL_raise_X1_raise
theorem dL_raise_0 : decode cL_raise 0 = .ok (.aload 4, 2) := by decide +kernel
theorem dL_raise_2 : decode cL_raise 2 = .ok (.iconst 0, 1) := by decide +kernel
theorem dL_raise_3 : decode cL_raise 3 = .ok (.aload_n 0, 1) := by decide +kernel
theorem dL_raise_4 : decode cL_raise 4 = .ok (.iload_n 1, 1) := by decide +kernel
theorem dL_raise_5 : decode cL_raise 5 = .ok (.iload_n 2, 1) := by decide +kernel
theorem dL_raise_6 : decode cL_raise 6 = .ok (.iload_n 3, 1) := by decide +kernel
theorem dL_raise_7 : decode cL_raise 7 = .ok (.invokevirtual 7, 3) := by decide +kernel
theorem dL_raise_10 : decode cL_raise 10 = .ok (.i2l, 1) := by decide +kernel
theorem dL_raise_11 : decode cL_raise 11 = .ok (.lastore, 1) := by decide +kernel
theorem dL_raise_12 : decode cL_raise 12 = .ok (.goto 11, 3) := by decide +kernel
theorem dL_raise_15 : decode cL_raise 15 = .ok (.astore 5, 2) := by decide +kernel
theorem dL_raise_17 : decode cL_raise 17 = .ok (.iconst 1, 1) := by decide +kernel
theorem dL_raise_18 : decode cL_raise 18 = .ok (.ireturn, 1) := by decide +kernel
theorem dL_raise_19 : decode cL_raise 19 = .ok (.astore 5, 2) := by decide +kernel
theorem dL_raise_21 : decode cL_raise 21 = .ok (.iconst 2, 1) := by decide +kernel
theorem dL_raise_22 : decode cL_raise 22 = .ok (.ireturn, 1) := by decide +kernel
theorem dL_raise_23 : decode cL_raise 23 = .ok (.iconst 0, 1) := by decide +kernel
theorem dL_raise_24 : decode cL_raise 24 = .ok (.ireturn, 1) := by decide +kernel
set_option maxRecDepth 20000 in
theorem ggL_pour_X1_pour : GoodIn wsL_pour wsX1_pour := goodIn_ca (goodIn_ca (goodIn_r _ [7, 8, 9, 10, 11, 12, 13, 14, 15, 6, 16, 17, 18, 19, 20, 21, 22, 23, 24, 25, 26, 27, 28, 29, 30, 31, 32, 33, 34, 35, 36, 37, 38, 39, 40, 41, 42, 43] (by decide +kernel) (by decide +kernel)) (goodIn_sub (fun _ h => List.mem_cons_of_mem _ (List.mem_append_left _ (List.mem_append_right _ h))) (by decide +kernel))) (goodIn_sub (fun _ h => List.mem_cons_of_mem _ (List.mem_append_right _ h)) (by decide +kernel))
set_option maxRecDepth 20000 in
theorem gL_pour_X1_pour : GoodIn wsL_pour (wsV RL 17 RX1 yX1_pour wsX1_pour) := goodIn_app (goodIn_of _ (by decide +kernel)) ggL_pour_X1_pour
theorem dL_pour_0 : decode cL_pour 0 = .ok (.aload 4, 2) := by decide +kernel
theorem dL_pour_2 : decode cL_pour 2 = .ok (.iconst 0, 1) := by decide +kernel
theorem dL_pour_3 : decode cL_pour 3 = .ok (.aload_n 0, 1) := by decide +kernel
theorem dL_pour_4 : decode cL_pour 4 = .ok (.iload_n 1, 1) := by decide +kernel
theorem dL_pour_5 : decode cL_pour 5 = .ok (.iload_n 2, 1) := by decide +kernel
theorem dL_pour_6 : decode cL_pour 6 = .ok (.iload_n 3, 1) := by decide +kernel
theorem dL_pour_7 : decode cL_pour 7 = .ok (.invokevirtual 17, 3) := by decide +kernel
theorem dL_pour_10 : decode cL_pour 10 = .ok (.i2l, 1) := by decide +kernel
theorem dL_pour_11 : decode cL_pour 11 = .ok (.lastore, 1) := by decide +kernel
theorem dL_pour_12 : decode cL_pour 12 = .ok (.goto 11, 3) := by decide +kernel
theorem dL_pour_15 : decode cL_pour 15 = .ok (.astore 5, 2) := by decide +kernel
theorem dL_pour_17 : decode cL_pour 17 = .ok (.iconst 1, 1) := by decide +kernel
theorem dL_pour_18 : decode cL_pour 18 = .ok (.ireturn, 1) := by decide +kernel
theorem dL_pour_19 : decode cL_pour 19 = .ok (.astore 5, 2) := by decide +kernel
theorem dL_pour_21 : decode cL_pour 21 = .ok (.iconst 2, 1) := by decide +kernel
theorem dL_pour_22 : decode cL_pour 22 = .ok (.ireturn, 1) := by decide +kernel
theorem dL_pour_23 : decode cL_pour 23 = .ok (.iconst 0, 1) := by decide +kernel
theorem dL_pour_24 : decode cL_pour 24 = .ok (.ireturn, 1) := by decide +kernel
set_option maxRecDepth 20000 in
theorem ggL_dam_X1_dam : GoodIn wsL_dam wsX1_dam := goodIn_ca (goodIn_ca (goodIn_r _ [7, 8, 9, 10, 11, 12, 6, 13, 14, 15, 16, 17, 18, 19, 20, 21, 22, 23, 24, 25, 26, 27, 28, 29, 30, 31, 32, 33, 34, 35, 36, 37, 38, 39, 40] (by decide +kernel) (by decide +kernel)) (goodIn_sub (fun _ h => List.mem_cons_of_mem _ (List.mem_append_left _ (List.mem_append_right _ h))) (by decide +kernel))) (goodIn_sub (fun _ h => List.mem_cons_of_mem _ (List.mem_append_right _ h)) (by decide +kernel))
set_option maxRecDepth 20000 in
theorem gL_dam_X1_dam : GoodIn wsL_dam (wsV RL 20 RX1 yX1_dam wsX1_dam) := goodIn_app (goodIn_of _ (by decide +kernel)) ggL_dam_X1_dam
theorem dL_dam_0 : decode cL_dam 0 = .ok (.aload 4, 2) := by decide +kernel
theorem dL_dam_2 : decode cL_dam 2 = .ok (.iconst 0, 1) := by decide +kernel
theorem dL_dam_3 : decode cL_dam 3 = .ok (.aload_n 0, 1) := by decide +kernel
theorem dL_dam_4 : decode cL_dam 4 = .ok (.iload_n 1, 1) := by decide +kernel
theorem dL_dam_5 : decode cL_dam 5 = .ok (.iload_n 2, 1) := by decide +kernel
theorem dL_dam_6 : decode cL_dam 6 = .ok (.iload_n 3, 1) := by decide +kernel
theorem dL_dam_7 : decode cL_dam 7 = .ok (.invokevirtual 20, 3) := by decide +kernel
theorem dL_dam_10 : decode cL_dam 10 = .ok (.i2l, 1) := by decide +kernel
theorem dL_dam_11 : decode cL_dam 11 = .ok (.lastore, 1) := by decide +kernel
theorem dL_dam_12 : decode cL_dam 12 = .ok (.goto 11, 3) := by decide +kernel
theorem dL_dam_15 : decode cL_dam 15 = .ok (.astore 5, 2) := by decide +kernel
theorem dL_dam_17 : decode cL_dam 17 = .ok (.iconst 1, 1) := by decide +kernel
theorem dL_dam_18 : decode cL_dam 18 = .ok (.ireturn, 1) := by decide +kernel
theorem dL_dam_19 : decode cL_dam 19 = .ok (.astore 5, 2) := by decide +kernel
theorem dL_dam_21 : decode cL_dam 21 = .ok (.iconst 2, 1) := by decide +kernel
theorem dL_dam_22 : decode cL_dam 22 = .ok (.ireturn, 1) := by decide +kernel
theorem dL_dam_23 : decode cL_dam 23 = .ok (.iconst 0, 1) := by decide +kernel
theorem dL_dam_24 : decode cL_dam 24 = .ok (.ireturn, 1) := by decide +kernel
set_option maxRecDepth 20000 in
theorem ggL_drain_X1_drain : GoodIn wsL_drain wsX1_drain := goodIn_ca (goodIn_ca (goodIn_r _ [7, 8, 9, 10, 11, 6, 12, 13, 14, 15, 16, 17, 18, 19, 20, 21, 22, 23, 24, 25, 26, 27, 28, 29, 30, 31, 32, 33, 34, 35, 36, 37, 38, 39] (by decide +kernel) (by decide +kernel)) (goodIn_sub (fun _ h => List.mem_cons_of_mem _ (List.mem_append_left _ (List.mem_append_right _ h))) (by decide +kernel))) (goodIn_sub (fun _ h => List.mem_cons_of_mem _ (List.mem_append_right _ h)) (by decide +kernel))
set_option maxRecDepth 20000 in
theorem gL_drain_X1_drain : GoodIn wsL_drain (wsV RL 23 RX1 yX1_drain wsX1_drain) := goodIn_app (goodIn_of _ (by decide +kernel)) ggL_drain_X1_drain
theorem dL_drain_0 : decode cL_drain 0 = .ok (.aload 4, 2) := by decide +kernel
theorem dL_drain_2 : decode cL_drain 2 = .ok (.iconst 0, 1) := by decide +kernel
theorem dL_drain_3 : decode cL_drain 3 = .ok (.aload_n 0, 1) := by decide +kernel
theorem dL_drain_4 : decode cL_drain 4 = .ok (.iload_n 1, 1) := by decide +kernel
theorem dL_drain_5 : decode cL_drain 5 = .ok (.iload_n 2, 1) := by decide +kernel
theorem dL_drain_6 : decode cL_drain 6 = .ok (.iload_n 3, 1) := by decide +kernel
theorem dL_drain_7 : decode cL_drain 7 = .ok (.invokevirtual 23, 3) := by decide +kernel
theorem dL_drain_10 : decode cL_drain 10 = .ok (.i2l, 1) := by decide +kernel
theorem dL_drain_11 : decode cL_drain 11 = .ok (.lastore, 1) := by decide +kernel
theorem dL_drain_12 : decode cL_drain 12 = .ok (.goto 11, 3) := by decide +kernel
theorem dL_drain_15 : decode cL_drain 15 = .ok (.astore 5, 2) := by decide +kernel
theorem dL_drain_17 : decode cL_drain 17 = .ok (.iconst 1, 1) := by decide +kernel
theorem dL_drain_18 : decode cL_drain 18 = .ok (.ireturn, 1) := by decide +kernel
theorem dL_drain_19 : decode cL_drain 19 = .ok (.astore 5, 2) := by decide +kernel
theorem dL_drain_21 : decode cL_drain 21 = .ok (.iconst 2, 1) := by decide +kernel
theorem dL_drain_22 : decode cL_drain 22 = .ok (.ireturn, 1) := by decide +kernel
theorem dL_drain_23 : decode cL_drain 23 = .ok (.iconst 0, 1) := by decide +kernel
theorem dL_drain_24 : decode cL_drain 24 = .ok (.ireturn, 1) := by decide +kernel
set_option maxRecDepth 20000 in
theorem ggL_settle_X1_settle : GoodIn wsL_settle wsX1_settle := goodIn_ca (goodIn_ca (goodIn_r _ [7, 8, 9, 10, 11, 6, 12, 13, 14, 15, 16, 17, 18, 19, 20, 21, 22, 23, 24, 25, 26, 27, 28, 29, 30, 31, 32, 33, 34, 35, 36, 37, 38, 39] (by decide +kernel) (by decide +kernel)) (goodIn_sub (fun _ h => List.mem_cons_of_mem _ (List.mem_append_left _ (List.mem_append_right _ h))) (by decide +kernel))) (goodIn_sub (fun _ h => List.mem_cons_of_mem _ (List.mem_append_right _ h)) (by decide +kernel))
set_option maxRecDepth 20000 in
theorem gL_settle_X1_settle : GoodIn wsL_settle (wsV RL 26 RX1 yX1_settle wsX1_settle) := goodIn_app (goodIn_of _ (by decide +kernel)) ggL_settle_X1_settle
theorem dL_settle_0 : decode cL_settle 0 = .ok (.aload 4, 2) := by decide +kernel
theorem dL_settle_2 : decode cL_settle 2 = .ok (.iconst 0, 1) := by decide +kernel
theorem dL_settle_3 : decode cL_settle 3 = .ok (.aload_n 0, 1) := by decide +kernel
theorem dL_settle_4 : decode cL_settle 4 = .ok (.iload_n 1, 1) := by decide +kernel
theorem dL_settle_5 : decode cL_settle 5 = .ok (.iload_n 2, 1) := by decide +kernel
theorem dL_settle_6 : decode cL_settle 6 = .ok (.iload_n 3, 1) := by decide +kernel
theorem dL_settle_7 : decode cL_settle 7 = .ok (.invokevirtual 26, 3) := by decide +kernel
theorem dL_settle_10 : decode cL_settle 10 = .ok (.i2l, 1) := by decide +kernel
theorem dL_settle_11 : decode cL_settle 11 = .ok (.lastore, 1) := by decide +kernel
theorem dL_settle_12 : decode cL_settle 12 = .ok (.goto 11, 3) := by decide +kernel
theorem dL_settle_15 : decode cL_settle 15 = .ok (.astore 5, 2) := by decide +kernel
theorem dL_settle_17 : decode cL_settle 17 = .ok (.iconst 1, 1) := by decide +kernel
theorem dL_settle_18 : decode cL_settle 18 = .ok (.ireturn, 1) := by decide +kernel
theorem dL_settle_19 : decode cL_settle 19 = .ok (.astore 5, 2) := by decide +kernel
theorem dL_settle_21 : decode cL_settle 21 = .ok (.iconst 2, 1) := by decide +kernel
theorem dL_settle_22 : decode cL_settle 22 = .ok (.ireturn, 1) := by decide +kernel
theorem dL_settle_23 : decode cL_settle 23 = .ok (.iconst 0, 1) := by decide +kernel
theorem dL_settle_24 : decode cL_settle 24 = .ok (.ireturn, 1) := by decide +kernel
set_option maxRecDepth 20000 in
theorem ggL_setRain_X1_setRain : GoodIn wsL_setRain wsX1_setRain := goodIn_ca (goodIn_ca (goodIn_r _ [7, 8, 9, 10, 11, 6, 12, 13, 14, 15, 16, 17, 18, 19, 20, 21, 22, 23, 24, 25, 26, 27, 28, 29, 30, 31, 32, 33, 34, 35, 36] (by decide +kernel) (by decide +kernel)) (goodIn_sub (fun _ h => List.mem_cons_of_mem _ (List.mem_append_left _ (List.mem_append_right _ h))) (by decide +kernel))) (goodIn_sub (fun _ h => List.mem_cons_of_mem _ (List.mem_append_right _ h)) (by decide +kernel))
set_option maxRecDepth 20000 in
theorem gL_setRain_X1_setRain : GoodIn wsL_setRain (wsV RL 29 RX1 yX1_setRain wsX1_setRain) := goodIn_app (goodIn_of _ (by decide +kernel)) ggL_setRain_X1_setRain
theorem dL_setRain_0 : decode cL_setRain 0 = .ok (.aload_n 3, 1) := by decide +kernel
theorem dL_setRain_1 : decode cL_setRain 1 = .ok (.iconst 0, 1) := by decide +kernel
theorem dL_setRain_2 : decode cL_setRain 2 = .ok (.aload_n 0, 1) := by decide +kernel
theorem dL_setRain_3 : decode cL_setRain 3 = .ok (.iload_n 1, 1) := by decide +kernel
theorem dL_setRain_4 : decode cL_setRain 4 = .ok (.iload_n 2, 1) := by decide +kernel
theorem dL_setRain_5 : decode cL_setRain 5 = .ok (.invokevirtual 29, 3) := by decide +kernel
theorem dL_setRain_8 : decode cL_setRain 8 = .ok (.i2l, 1) := by decide +kernel
theorem dL_setRain_9 : decode cL_setRain 9 = .ok (.lastore, 1) := by decide +kernel
theorem dL_setRain_10 : decode cL_setRain 10 = .ok (.goto 11, 3) := by decide +kernel
theorem dL_setRain_13 : decode cL_setRain 13 = .ok (.astore 4, 2) := by decide +kernel
theorem dL_setRain_15 : decode cL_setRain 15 = .ok (.iconst 1, 1) := by decide +kernel
theorem dL_setRain_16 : decode cL_setRain 16 = .ok (.ireturn, 1) := by decide +kernel
theorem dL_setRain_17 : decode cL_setRain 17 = .ok (.astore 4, 2) := by decide +kernel
theorem dL_setRain_19 : decode cL_setRain 19 = .ok (.iconst 2, 1) := by decide +kernel
theorem dL_setRain_20 : decode cL_setRain 20 = .ok (.ireturn, 1) := by decide +kernel
theorem dL_setRain_21 : decode cL_setRain 21 = .ok (.iconst 0, 1) := by decide +kernel
theorem dL_setRain_22 : decode cL_setRain 22 = .ok (.ireturn, 1) := by decide +kernel
set_option maxRecDepth 20000 in
theorem ggL_cell_X1_cell : GoodIn wsL_cell wsX1_cell := goodIn_ca (goodIn_r _ [6, 7, 8, 9, 5, 10, 11, 12, 13, 14, 15, 16, 17, 18, 19, 20, 21, 22, 23, 24, 25, 26, 27, 28, 29, 30, 31, 32, 33, 34, 35, 36, 37, 38, 39, 40, 41, 42, 43, 44, 45, 46, 47, 48, 49, 50, 51, 52, 53, 54, 55] (by decide +kernel) (by decide +kernel)) (goodIn_sub (fun _ h => List.mem_cons_of_mem _ (List.mem_append_right _ h)) (by decide +kernel))
set_option maxRecDepth 20000 in
theorem gL_cell_X1_cell : GoodIn wsL_cell (wsV RL 33 RX1 yX1_cell wsX1_cell) := goodIn_app (goodIn_of _ (by decide +kernel)) ggL_cell_X1_cell
theorem dL_cell_0 : decode cL_cell 0 = .ok (.aload 4, 2) := by decide +kernel
theorem dL_cell_2 : decode cL_cell 2 = .ok (.iconst 0, 1) := by decide +kernel
theorem dL_cell_3 : decode cL_cell 3 = .ok (.aload_n 0, 1) := by decide +kernel
theorem dL_cell_4 : decode cL_cell 4 = .ok (.iload_n 1, 1) := by decide +kernel
theorem dL_cell_5 : decode cL_cell 5 = .ok (.iload_n 2, 1) := by decide +kernel
theorem dL_cell_6 : decode cL_cell 6 = .ok (.iload_n 3, 1) := by decide +kernel
theorem dL_cell_7 : decode cL_cell 7 = .ok (.invokevirtual 33, 3) := by decide +kernel
theorem dL_cell_10 : decode cL_cell 10 = .ok (.i2l, 1) := by decide +kernel
theorem dL_cell_11 : decode cL_cell 11 = .ok (.lastore, 1) := by decide +kernel
theorem dL_cell_12 : decode cL_cell 12 = .ok (.goto 7, 3) := by decide +kernel
theorem dL_cell_15 : decode cL_cell 15 = .ok (.astore 5, 2) := by decide +kernel
theorem dL_cell_17 : decode cL_cell 17 = .ok (.iconst 1, 1) := by decide +kernel
theorem dL_cell_18 : decode cL_cell 18 = .ok (.ireturn, 1) := by decide +kernel
theorem dL_cell_19 : decode cL_cell 19 = .ok (.iconst 0, 1) := by decide +kernel
theorem dL_cell_20 : decode cL_cell 20 = .ok (.ireturn, 1) := by decide +kernel
set_option maxRecDepth 20000 in
theorem ggL_lake_X1_lake : GoodIn wsL_lake wsX1_lake := goodIn_ca (goodIn_r _ [6, 7, 8, 9, 5, 10, 11, 12, 13, 14, 15, 16, 17, 18, 19, 20, 21, 22, 23, 24, 25, 26, 27, 28, 29, 30, 31, 32, 33, 34, 35, 36, 37, 38, 39, 40, 41, 42, 43, 44, 45, 46, 47, 48, 49, 50, 51, 52, 53, 54, 55] (by decide +kernel) (by decide +kernel)) (goodIn_sub (fun _ h => List.mem_cons_of_mem _ (List.mem_append_right _ h)) (by decide +kernel))
set_option maxRecDepth 20000 in
theorem gL_lake_X1_lake : GoodIn wsL_lake (wsV RL 36 RX1 yX1_lake wsX1_lake) := goodIn_app (goodIn_of _ (by decide +kernel)) ggL_lake_X1_lake
theorem dL_lake_0 : decode cL_lake 0 = .ok (.aload_n 3, 1) := by decide +kernel
theorem dL_lake_1 : decode cL_lake 1 = .ok (.iconst 0, 1) := by decide +kernel
theorem dL_lake_2 : decode cL_lake 2 = .ok (.aload_n 0, 1) := by decide +kernel
theorem dL_lake_3 : decode cL_lake 3 = .ok (.iload_n 1, 1) := by decide +kernel
theorem dL_lake_4 : decode cL_lake 4 = .ok (.iload_n 2, 1) := by decide +kernel
theorem dL_lake_5 : decode cL_lake 5 = .ok (.invokevirtual 36, 3) := by decide +kernel
theorem dL_lake_8 : decode cL_lake 8 = .ok (.i2l, 1) := by decide +kernel
theorem dL_lake_9 : decode cL_lake 9 = .ok (.lastore, 1) := by decide +kernel
theorem dL_lake_10 : decode cL_lake 10 = .ok (.goto 7, 3) := by decide +kernel
theorem dL_lake_13 : decode cL_lake 13 = .ok (.astore 4, 2) := by decide +kernel
theorem dL_lake_15 : decode cL_lake 15 = .ok (.iconst 1, 1) := by decide +kernel
theorem dL_lake_16 : decode cL_lake 16 = .ok (.ireturn, 1) := by decide +kernel
theorem dL_lake_17 : decode cL_lake 17 = .ok (.iconst 0, 1) := by decide +kernel
theorem dL_lake_18 : decode cL_lake 18 = .ok (.ireturn, 1) := by decide +kernel
set_option maxRecDepth 20000 in
theorem ggL_count_X1_count : GoodIn wsL_count wsX1_count := goodIn_ca (goodIn_r _ [6, 7, 8, 9, 5, 10, 11, 12, 13, 14, 15, 16, 17, 18, 19, 20, 21, 22, 23, 24, 25, 26, 27, 28, 29, 30, 31, 32, 33, 34, 35, 36, 37, 38, 39, 40, 41, 42, 43, 44, 45, 46, 47, 48, 49, 50, 51, 52, 53, 54, 55, 56, 57, 58, 59, 60, 61, 62, 63, 64, 65, 66, 67, 68, 69, 70, 71, 72, 73, 74] (by decide +kernel) (by decide +kernel)) (goodIn_sub (fun _ h => List.mem_cons_of_mem _ (List.mem_append_right _ h)) (by decide +kernel))
set_option maxRecDepth 20000 in
theorem gL_count_X1_count : GoodIn wsL_count (wsV RL 39 RX1 yX1_count wsX1_count) := goodIn_app (goodIn_of _ (by decide +kernel)) ggL_count_X1_count
theorem dL_count_0 : decode cL_count 0 = .ok (.aload_n 2, 1) := by decide +kernel
theorem dL_count_1 : decode cL_count 1 = .ok (.iconst 0, 1) := by decide +kernel
theorem dL_count_2 : decode cL_count 2 = .ok (.aload_n 0, 1) := by decide +kernel
theorem dL_count_3 : decode cL_count 3 = .ok (.iload_n 1, 1) := by decide +kernel
theorem dL_count_4 : decode cL_count 4 = .ok (.invokevirtual 39, 3) := by decide +kernel
theorem dL_count_7 : decode cL_count 7 = .ok (.i2l, 1) := by decide +kernel
theorem dL_count_8 : decode cL_count 8 = .ok (.lastore, 1) := by decide +kernel
theorem dL_count_9 : decode cL_count 9 = .ok (.goto 6, 3) := by decide +kernel
theorem dL_count_12 : decode cL_count 12 = .ok (.astore_n 3, 1) := by decide +kernel
theorem dL_count_13 : decode cL_count 13 = .ok (.iconst 1, 1) := by decide +kernel
theorem dL_count_14 : decode cL_count 14 = .ok (.ireturn, 1) := by decide +kernel
theorem dL_count_15 : decode cL_count 15 = .ok (.iconst 0, 1) := by decide +kernel
theorem dL_count_16 : decode cL_count 16 = .ok (.ireturn, 1) := by decide +kernel
set_option maxRecDepth 20000 in
theorem ggL_pass_X1_pass : GoodIn wsL_pass wsX1_pass := goodIn_ca (goodIn_r _ [6, 7, 8, 9, 5, 10, 11, 12, 13, 14, 15, 16, 17, 18, 19, 20, 21, 22, 23, 24, 25, 26, 27, 28, 29, 30, 31, 32, 33, 34, 35, 36, 37, 38, 39, 40, 41, 42, 43, 44, 45, 46, 47, 48, 49, 50, 51, 52, 53, 54, 55, 56, 57, 58, 59, 60, 61, 62, 63, 64, 65, 66, 67, 68, 69, 70, 71, 72, 73, 74, 75, 76, 77, 78, 79, 80, 81, 82, 83, 84, 85, 86, 87, 88, 89, 90, 91, 92, 93, 94, 95, 96, 97, 98, 99, 100, 101, 102, 103, 104, 105] (by decide +kernel) (by decide +kernel)) (goodIn_sub (fun _ h => List.mem_cons_of_mem _ (List.mem_append_right _ h)) (by decide +kernel))
set_option maxRecDepth 20000 in
theorem gL_pass_X1_pass : GoodIn wsL_pass (wsV RL 43 RX1 yX1_pass wsX1_pass) := goodIn_app (goodIn_of _ (by decide +kernel)) ggL_pass_X1_pass
theorem dL_pass_0 : decode cL_pass 0 = .ok (.aload_n 2, 1) := by decide +kernel
theorem dL_pass_1 : decode cL_pass 1 = .ok (.iconst 0, 1) := by decide +kernel
theorem dL_pass_2 : decode cL_pass 2 = .ok (.aload_n 0, 1) := by decide +kernel
theorem dL_pass_3 : decode cL_pass 3 = .ok (.iload_n 1, 1) := by decide +kernel
theorem dL_pass_4 : decode cL_pass 4 = .ok (.invokevirtual 43, 3) := by decide +kernel
theorem dL_pass_7 : decode cL_pass 7 = .ok (.i2l, 1) := by decide +kernel
theorem dL_pass_8 : decode cL_pass 8 = .ok (.lastore, 1) := by decide +kernel
theorem dL_pass_9 : decode cL_pass 9 = .ok (.goto 6, 3) := by decide +kernel
theorem dL_pass_12 : decode cL_pass 12 = .ok (.astore_n 3, 1) := by decide +kernel
theorem dL_pass_13 : decode cL_pass 13 = .ok (.iconst 1, 1) := by decide +kernel
theorem dL_pass_14 : decode cL_pass 14 = .ok (.ireturn, 1) := by decide +kernel
theorem dL_pass_15 : decode cL_pass 15 = .ok (.iconst 0, 1) := by decide +kernel
theorem dL_pass_16 : decode cL_pass 16 = .ok (.ireturn, 1) := by decide +kernel
set_option maxRecDepth 20000 in
theorem ggL_floods_X1_floods : GoodIn wsL_floods wsX1_floods := goodIn_ca (goodIn_r _ [6, 7, 8, 9, 10, 11, 5, 12, 13, 14, 15, 16, 17, 18, 19, 20, 21, 22, 23, 24, 25, 26, 27, 28, 29, 30, 31, 32, 33, 34, 35, 36, 37, 38, 39, 40, 41, 42, 43, 44, 45, 46, 47, 48, 49, 50, 51, 52, 53, 54, 55, 56, 57, 58, 59, 60, 61, 62, 63, 64, 65, 66, 67, 68, 69, 70, 71, 72, 73, 74, 75, 76, 77, 78, 79, 80, 81, 82, 83, 84, 85, 86, 87, 88, 89, 90, 91, 92, 93, 94, 95, 96, 97, 98, 99, 100, 101, 102, 103, 104, 105, 106, 107, 108, 109, 110, 111, 112, 113, 114] (by decide +kernel) (by decide +kernel)) (goodIn_sub (fun _ h => List.mem_cons_of_mem _ (List.mem_append_right _ h)) (by decide +kernel))
set_option maxRecDepth 20000 in
theorem gL_floods_X1_floods : GoodIn wsL_floods (wsV RL 46 RX1 yX1_floods wsX1_floods) := goodIn_app (goodIn_of _ (by decide +kernel)) ggL_floods_X1_floods
theorem dL_floods_0 : decode cL_floods 0 = .ok (.aload_n 3, 1) := by decide +kernel
theorem dL_floods_1 : decode cL_floods 1 = .ok (.iconst 0, 1) := by decide +kernel
theorem dL_floods_2 : decode cL_floods 2 = .ok (.aload_n 0, 1) := by decide +kernel
theorem dL_floods_3 : decode cL_floods 3 = .ok (.iload_n 1, 1) := by decide +kernel
theorem dL_floods_4 : decode cL_floods 4 = .ok (.iload_n 2, 1) := by decide +kernel
theorem dL_floods_5 : decode cL_floods 5 = .ok (.invokevirtual 46, 3) := by decide +kernel
theorem dL_floods_8 : decode cL_floods 8 = .ok (.i2l, 1) := by decide +kernel
theorem dL_floods_9 : decode cL_floods 9 = .ok (.lastore, 1) := by decide +kernel
theorem dL_floods_10 : decode cL_floods 10 = .ok (.goto 7, 3) := by decide +kernel
theorem dL_floods_13 : decode cL_floods 13 = .ok (.astore 4, 2) := by decide +kernel
theorem dL_floods_15 : decode cL_floods 15 = .ok (.iconst 1, 1) := by decide +kernel
theorem dL_floods_16 : decode cL_floods 16 = .ok (.ireturn, 1) := by decide +kernel
theorem dL_floods_17 : decode cL_floods 17 = .ok (.iconst 0, 1) := by decide +kernel
theorem dL_floods_18 : decode cL_floods 18 = .ok (.ireturn, 1) := by decide +kernel
set_option maxRecDepth 20000 in
theorem ggL_breaks_X1_breaks : GoodIn wsL_breaks wsX1_breaks := goodIn_ca (goodIn_r _ [6, 7, 8, 9, 10, 11, 5, 12, 13, 14, 15, 16, 17, 18, 19, 20, 21, 22, 23, 24, 25, 26, 27, 28, 29, 30, 31, 32, 33, 34, 35, 36, 37, 38, 39, 40, 41, 42, 43, 44, 45, 46, 47, 48, 49, 50, 51, 52, 53, 54, 55, 56, 57, 58, 59, 60, 61, 62, 63, 64, 65, 66, 67, 68, 69, 70, 71, 72, 73, 74, 75, 76, 77, 78, 79, 80, 81, 82, 83, 84, 85, 86, 87, 88, 89, 90, 91, 92, 93, 94, 95, 96, 97, 98, 99, 100, 101, 102, 103, 104, 105, 106, 107, 108, 109, 110, 111, 112, 113, 114] (by decide +kernel) (by decide +kernel)) (goodIn_sub (fun _ h => List.mem_cons_of_mem _ (List.mem_append_right _ h)) (by decide +kernel))
set_option maxRecDepth 20000 in
theorem gL_breaks_X1_breaks : GoodIn wsL_breaks (wsV RL 49 RX1 yX1_breaks wsX1_breaks) := goodIn_app (goodIn_of _ (by decide +kernel)) ggL_breaks_X1_breaks
theorem dL_breaks_0 : decode cL_breaks 0 = .ok (.aload_n 3, 1) := by decide +kernel
theorem dL_breaks_1 : decode cL_breaks 1 = .ok (.iconst 0, 1) := by decide +kernel
theorem dL_breaks_2 : decode cL_breaks 2 = .ok (.aload_n 0, 1) := by decide +kernel
theorem dL_breaks_3 : decode cL_breaks 3 = .ok (.iload_n 1, 1) := by decide +kernel
theorem dL_breaks_4 : decode cL_breaks 4 = .ok (.iload_n 2, 1) := by decide +kernel
theorem dL_breaks_5 : decode cL_breaks 5 = .ok (.invokevirtual 49, 3) := by decide +kernel
theorem dL_breaks_8 : decode cL_breaks 8 = .ok (.i2l, 1) := by decide +kernel
theorem dL_breaks_9 : decode cL_breaks 9 = .ok (.lastore, 1) := by decide +kernel
theorem dL_breaks_10 : decode cL_breaks 10 = .ok (.goto 7, 3) := by decide +kernel
theorem dL_breaks_13 : decode cL_breaks 13 = .ok (.astore 4, 2) := by decide +kernel
theorem dL_breaks_15 : decode cL_breaks 15 = .ok (.iconst 1, 1) := by decide +kernel
theorem dL_breaks_16 : decode cL_breaks 16 = .ok (.ireturn, 1) := by decide +kernel
theorem dL_breaks_17 : decode cL_breaks 17 = .ok (.iconst 0, 1) := by decide +kernel
theorem dL_breaks_18 : decode cL_breaks 18 = .ok (.ireturn, 1) := by decide +kernel
set_option maxRecDepth 20000 in
theorem ggL_foresee_X1_foresee : GoodIn wsL_foresee wsX1_foresee := goodIn_ca (goodIn_ca (goodIn_r _ [7, 8, 9, 10, 11, 6, 12, 13, 14, 15, 16, 17, 18, 19, 20, 21, 22, 23, 24, 25, 26, 27, 28, 29, 30, 31, 32, 33, 34, 35, 36, 37, 38, 39, 40, 41, 42, 43, 44, 45, 46, 47, 48, 49, 50, 51, 52, 53, 54, 55, 56, 57, 58, 59, 60, 61, 62, 63, 64, 65, 66, 67, 68, 69, 70, 71, 72, 73, 74, 75, 76, 77, 78, 79, 80, 81, 82, 83, 84, 85, 86, 87, 88, 89, 90, 91, 92, 93, 94, 95, 96, 97, 98, 99, 100, 101, 102, 103, 104, 105, 106, 107, 108, 109, 110, 111, 112, 113, 114, 115, 116, 117, 118, 119, 120, 121, 122, 123, 124, 125, 126, 127, 128, 129, 130, 131, 132, 133, 134, 135, 136, 137, 138, 139, 140, 141, 142, 143, 144, 145, 146, 147, 148, 149, 150] (by decide +kernel) (by decide +kernel)) (goodIn_sub (fun _ h => List.mem_cons_of_mem _ (List.mem_append_left _ (List.mem_append_right _ h))) (by decide +kernel))) (goodIn_sub (fun _ h => List.mem_cons_of_mem _ (List.mem_append_right _ h)) (by decide +kernel))
set_option maxRecDepth 20000 in
theorem gL_foresee_X1_foresee : GoodIn wsL_foresee (wsV RL 52 RX1 yX1_foresee wsX1_foresee) := goodIn_app (goodIn_of _ (by decide +kernel)) ggL_foresee_X1_foresee
theorem dL_foresee_0 : decode cL_foresee 0 = .ok (.aload_n 3, 1) := by decide +kernel
theorem dL_foresee_1 : decode cL_foresee 1 = .ok (.iconst 0, 1) := by decide +kernel
theorem dL_foresee_2 : decode cL_foresee 2 = .ok (.aload_n 0, 1) := by decide +kernel
theorem dL_foresee_3 : decode cL_foresee 3 = .ok (.iload_n 1, 1) := by decide +kernel
theorem dL_foresee_4 : decode cL_foresee 4 = .ok (.iload_n 2, 1) := by decide +kernel
theorem dL_foresee_5 : decode cL_foresee 5 = .ok (.invokevirtual 52, 3) := by decide +kernel
theorem dL_foresee_8 : decode cL_foresee 8 = .ok (.i2l, 1) := by decide +kernel
theorem dL_foresee_9 : decode cL_foresee 9 = .ok (.lastore, 1) := by decide +kernel
theorem dL_foresee_10 : decode cL_foresee 10 = .ok (.goto 11, 3) := by decide +kernel
theorem dL_foresee_13 : decode cL_foresee 13 = .ok (.astore 4, 2) := by decide +kernel
theorem dL_foresee_15 : decode cL_foresee 15 = .ok (.iconst 1, 1) := by decide +kernel
theorem dL_foresee_16 : decode cL_foresee 16 = .ok (.ireturn, 1) := by decide +kernel
theorem dL_foresee_17 : decode cL_foresee 17 = .ok (.astore 4, 2) := by decide +kernel
theorem dL_foresee_19 : decode cL_foresee 19 = .ok (.iconst 2, 1) := by decide +kernel
theorem dL_foresee_20 : decode cL_foresee 20 = .ok (.ireturn, 1) := by decide +kernel
theorem dL_foresee_21 : decode cL_foresee 21 = .ok (.iconst 0, 1) := by decide +kernel
theorem dL_foresee_22 : decode cL_foresee 22 = .ok (.ireturn, 1) := by decide +kernel
set_option maxRecDepth 20000 in
theorem ggL_holds_X1_holds : GoodIn wsL_holds wsX1_holds := goodIn_ca (goodIn_r _ [6, 7, 8, 9, 10, 5, 11, 12, 13, 14, 15, 16, 17, 18, 19, 20, 21, 22, 23, 24, 25, 26, 27, 28, 29, 30, 31, 32, 33, 34, 35, 36, 37, 38, 39, 40, 41, 42, 43, 44, 45, 46, 47, 48, 49, 50, 51, 52, 53, 54, 55, 56, 57, 58, 59, 60, 61, 62, 63, 64, 65, 66, 67, 68, 69, 70, 71, 72, 73, 74, 75, 76, 77, 78, 79, 80, 81, 82, 83, 84, 85, 86, 87, 88, 89, 90, 91, 92, 93, 94, 95, 96, 97, 98, 99, 100, 101, 102, 103, 104, 105, 106, 107, 108, 109, 110, 111, 112, 113, 114, 115, 116, 117, 118, 119, 120, 121, 122, 123, 124] (by decide +kernel) (by decide +kernel)) (goodIn_sub (fun _ h => List.mem_cons_of_mem _ (List.mem_append_right _ h)) (by decide +kernel))
set_option maxRecDepth 20000 in
theorem gL_holds_X1_holds : GoodIn wsL_holds (wsV RL 55 RX1 yX1_holds wsX1_holds) := goodIn_app (goodIn_of _ (by decide +kernel)) ggL_holds_X1_holds
theorem dL_holds_0 : decode cL_holds 0 = .ok (.aload_n 2, 1) := by decide +kernel
theorem dL_holds_1 : decode cL_holds 1 = .ok (.iconst 0, 1) := by decide +kernel
theorem dL_holds_2 : decode cL_holds 2 = .ok (.aload_n 0, 1) := by decide +kernel
theorem dL_holds_3 : decode cL_holds 3 = .ok (.iload_n 1, 1) := by decide +kernel
theorem dL_holds_4 : decode cL_holds 4 = .ok (.invokevirtual 55, 3) := by decide +kernel
theorem dL_holds_7 : decode cL_holds 7 = .ok (.i2l, 1) := by decide +kernel
theorem dL_holds_8 : decode cL_holds 8 = .ok (.lastore, 1) := by decide +kernel
theorem dL_holds_9 : decode cL_holds 9 = .ok (.goto 6, 3) := by decide +kernel
theorem dL_holds_12 : decode cL_holds 12 = .ok (.astore_n 3, 1) := by decide +kernel
theorem dL_holds_13 : decode cL_holds 13 = .ok (.iconst 1, 1) := by decide +kernel
theorem dL_holds_14 : decode cL_holds 14 = .ok (.ireturn, 1) := by decide +kernel
theorem dL_holds_15 : decode cL_holds 15 = .ok (.iconst 0, 1) := by decide +kernel
theorem dL_holds_16 : decode cL_holds 16 = .ok (.ireturn, 1) := by decide +kernel
set_option maxRecDepth 20000 in
theorem ggL_advise_X1_advise : GoodIn wsL_advise wsX1_advise := goodIn_ca (goodIn_r _ [6, 7, 8, 9, 10, 11, 12, 13, 14, 5, 15, 16, 17, 18, 19, 20, 21, 22, 23, 24, 25, 26, 27, 28, 29, 30, 31, 32, 33, 34, 35, 36, 37, 38, 39, 40, 41, 42, 43, 44, 45, 46, 47, 48, 49, 50, 51, 52, 53, 54, 55, 56, 57, 58, 59, 60, 61, 62, 63, 64, 65, 66, 67, 68, 69, 70, 71, 72, 73, 74, 75, 76, 77, 78, 79, 80, 81, 82, 83, 84, 85, 86, 87, 88, 89, 90, 91, 92, 93, 94, 95, 96, 97, 98, 99, 100, 101, 102, 103, 104, 105, 106, 107, 108, 109, 110, 111, 112, 113, 114, 115, 116, 117, 118, 119, 120, 121, 122, 123, 124, 125] (by decide +kernel) (by decide +kernel)) (goodIn_sub (fun _ h => List.mem_cons_of_mem _ (List.mem_append_right _ h)) (by decide +kernel))
set_option maxRecDepth 20000 in
theorem gL_advise_X1_advise : GoodIn wsL_advise (wsV RL 58 RX1 yX1_advise wsX1_advise) := goodIn_app (goodIn_of _ (by decide +kernel)) ggL_advise_X1_advise
theorem dL_advise_0 : decode cL_advise 0 = .ok (.aload_n 2, 1) := by decide +kernel
theorem dL_advise_1 : decode cL_advise 1 = .ok (.iconst 0, 1) := by decide +kernel
theorem dL_advise_2 : decode cL_advise 2 = .ok (.aload_n 0, 1) := by decide +kernel
theorem dL_advise_3 : decode cL_advise 3 = .ok (.iload_n 1, 1) := by decide +kernel
theorem dL_advise_4 : decode cL_advise 4 = .ok (.invokevirtual 58, 3) := by decide +kernel
theorem dL_advise_7 : decode cL_advise 7 = .ok (.i2l, 1) := by decide +kernel
theorem dL_advise_8 : decode cL_advise 8 = .ok (.lastore, 1) := by decide +kernel
theorem dL_advise_9 : decode cL_advise 9 = .ok (.goto 6, 3) := by decide +kernel
theorem dL_advise_12 : decode cL_advise 12 = .ok (.astore_n 3, 1) := by decide +kernel
theorem dL_advise_13 : decode cL_advise 13 = .ok (.iconst 1, 1) := by decide +kernel
theorem dL_advise_14 : decode cL_advise 14 = .ok (.ireturn, 1) := by decide +kernel
theorem dL_advise_15 : decode cL_advise 15 = .ok (.iconst 0, 1) := by decide +kernel
theorem dL_advise_16 : decode cL_advise 16 = .ok (.ireturn, 1) := by decide +kernel
