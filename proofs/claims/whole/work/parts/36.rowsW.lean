theorem dL_setLeaps_0 : decode cL_setLeaps 0 = .ok (.aload_n 3, 1) := by decide +kernel
theorem dL_setLeaps_1 : decode cL_setLeaps 1 = .ok (.iconst 0, 1) := by decide +kernel
theorem dL_setLeaps_2 : decode cL_setLeaps 2 = .ok (.aload_n 0, 1) := by decide +kernel
theorem dL_setLeaps_3 : decode cL_setLeaps 3 = .ok (.iload_n 1, 1) := by decide +kernel
theorem dL_setLeaps_4 : decode cL_setLeaps 4 = .ok (.iload_n 2, 1) := by decide +kernel
theorem dL_setLeaps_5 : decode cL_setLeaps 5 = .ok (.invokevirtual 7, 3) := by decide +kernel
theorem dL_setLeaps_8 : decode cL_setLeaps 8 = .ok (.i2l, 1) := by decide +kernel
theorem dL_setLeaps_9 : decode cL_setLeaps 9 = .ok (.lastore, 1) := by decide +kernel
theorem dL_setLeaps_10 : decode cL_setLeaps 10 = .ok (.goto 7, 3) := by decide +kernel
theorem dL_setLeaps_13 : decode cL_setLeaps 13 = .ok (.astore 4, 2) := by decide +kernel
theorem dL_setLeaps_15 : decode cL_setLeaps 15 = .ok (.iconst 1, 1) := by decide +kernel
theorem dL_setLeaps_16 : decode cL_setLeaps 16 = .ok (.ireturn, 1) := by decide +kernel
theorem dL_setLeaps_17 : decode cL_setLeaps 17 = .ok (.iconst 0, 1) := by decide +kernel
theorem dL_setLeaps_18 : decode cL_setLeaps 18 = .ok (.ireturn, 1) := by decide +kernel
set_option maxRecDepth 20000 in
theorem ggL_setMoon_X5_setMoon : GoodIn wsL_setMoon wsX5_setMoon := goodIn_ca (goodIn_r _ [6, 7, 8, 9, 10, 11, 12, 13, 14, 15, 16, 17, 18, 19, 20, 21, 22] (by decide +kernel) (by decide +kernel)) (goodIn_sub (fun _ h => List.mem_cons_of_mem _ (List.mem_append_right _ h)) (by decide +kernel))
set_option maxRecDepth 20000 in
theorem gL_setMoon_X5_setMoon : GoodIn wsL_setMoon (wsV RL 15 RX5 yX5_setMoon wsX5_setMoon) := goodIn_app (goodIn_of _ (by decide +kernel)) ggL_setMoon_X5_setMoon
theorem dL_setMoon_0 : decode cL_setMoon 0 = .ok (.aload_n 3, 1) := by decide +kernel
theorem dL_setMoon_1 : decode cL_setMoon 1 = .ok (.iconst 0, 1) := by decide +kernel
theorem dL_setMoon_2 : decode cL_setMoon 2 = .ok (.aload_n 0, 1) := by decide +kernel
theorem dL_setMoon_3 : decode cL_setMoon 3 = .ok (.iload_n 1, 1) := by decide +kernel
theorem dL_setMoon_4 : decode cL_setMoon 4 = .ok (.iload_n 2, 1) := by decide +kernel
theorem dL_setMoon_5 : decode cL_setMoon 5 = .ok (.invokevirtual 15, 3) := by decide +kernel
theorem dL_setMoon_8 : decode cL_setMoon 8 = .ok (.i2l, 1) := by decide +kernel
theorem dL_setMoon_9 : decode cL_setMoon 9 = .ok (.lastore, 1) := by decide +kernel
theorem dL_setMoon_10 : decode cL_setMoon 10 = .ok (.goto 7, 3) := by decide +kernel
theorem dL_setMoon_13 : decode cL_setMoon 13 = .ok (.astore 4, 2) := by decide +kernel
theorem dL_setMoon_15 : decode cL_setMoon 15 = .ok (.iconst 1, 1) := by decide +kernel
theorem dL_setMoon_16 : decode cL_setMoon 16 = .ok (.ireturn, 1) := by decide +kernel
theorem dL_setMoon_17 : decode cL_setMoon 17 = .ok (.iconst 0, 1) := by decide +kernel
theorem dL_setMoon_18 : decode cL_setMoon 18 = .ok (.ireturn, 1) := by decide +kernel
set_option maxRecDepth 20000 in
theorem ggL_setNodes_X5_setNodes : GoodIn wsL_setNodes wsX5_setNodes := goodIn_ca (goodIn_r _ [6, 7, 8, 9, 10, 11, 12, 13, 14, 15, 16, 17, 18, 19, 20, 21, 22, 23] (by decide +kernel) (by decide +kernel)) (goodIn_sub (fun _ h => List.mem_cons_of_mem _ (List.mem_append_right _ h)) (by decide +kernel))
set_option maxRecDepth 20000 in
theorem gL_setNodes_X5_setNodes : GoodIn wsL_setNodes (wsV RL 18 RX5 yX5_setNodes wsX5_setNodes) := goodIn_app (goodIn_of _ (by decide +kernel)) ggL_setNodes_X5_setNodes
theorem dL_setNodes_0 : decode cL_setNodes 0 = .ok (.aload_n 3, 1) := by decide +kernel
theorem dL_setNodes_1 : decode cL_setNodes 1 = .ok (.iconst 0, 1) := by decide +kernel
theorem dL_setNodes_2 : decode cL_setNodes 2 = .ok (.aload_n 0, 1) := by decide +kernel
theorem dL_setNodes_3 : decode cL_setNodes 3 = .ok (.iload_n 1, 1) := by decide +kernel
theorem dL_setNodes_4 : decode cL_setNodes 4 = .ok (.iload_n 2, 1) := by decide +kernel
theorem dL_setNodes_5 : decode cL_setNodes 5 = .ok (.invokevirtual 18, 3) := by decide +kernel
theorem dL_setNodes_8 : decode cL_setNodes 8 = .ok (.i2l, 1) := by decide +kernel
theorem dL_setNodes_9 : decode cL_setNodes 9 = .ok (.lastore, 1) := by decide +kernel
theorem dL_setNodes_10 : decode cL_setNodes 10 = .ok (.goto 7, 3) := by decide +kernel
theorem dL_setNodes_13 : decode cL_setNodes 13 = .ok (.astore 4, 2) := by decide +kernel
theorem dL_setNodes_15 : decode cL_setNodes 15 = .ok (.iconst 1, 1) := by decide +kernel
theorem dL_setNodes_16 : decode cL_setNodes 16 = .ok (.ireturn, 1) := by decide +kernel
theorem dL_setNodes_17 : decode cL_setNodes 17 = .ok (.iconst 0, 1) := by decide +kernel
theorem dL_setNodes_18 : decode cL_setNodes 18 = .ok (.ireturn, 1) := by decide +kernel
set_option maxRecDepth 20000 in
theorem ggL_leap_X5_leap : GoodIn wsL_leap wsX5_leap := goodIn_ca (goodIn_r _ [6, 7, 8, 9, 10, 11, 5, 12, 13, 14, 15, 16, 17, 18, 19, 20, 21, 22, 23, 24, 25, 26, 27, 28] (by decide +kernel) (by decide +kernel)) (goodIn_sub (fun _ h => List.mem_cons_of_mem _ (List.mem_append_right _ h)) (by decide +kernel))
set_option maxRecDepth 20000 in
theorem gL_leap_X5_leap : GoodIn wsL_leap (wsV RL 21 RX5 yX5_leap wsX5_leap) := goodIn_app (goodIn_of _ (by decide +kernel)) ggL_leap_X5_leap
theorem dL_leap_0 : decode cL_leap 0 = .ok (.aload_n 2, 1) := by decide +kernel
theorem dL_leap_1 : decode cL_leap 1 = .ok (.iconst 0, 1) := by decide +kernel
theorem dL_leap_2 : decode cL_leap 2 = .ok (.aload_n 0, 1) := by decide +kernel
theorem dL_leap_3 : decode cL_leap 3 = .ok (.iload_n 1, 1) := by decide +kernel
theorem dL_leap_4 : decode cL_leap 4 = .ok (.invokevirtual 21, 3) := by decide +kernel
theorem dL_leap_7 : decode cL_leap 7 = .ok (.ifCond .eq 7, 3) := by decide +kernel
theorem dL_leap_10 : decode cL_leap 10 = .ok (.lconst 1, 1) := by decide +kernel
theorem dL_leap_11 : decode cL_leap 11 = .ok (.goto 4, 3) := by decide +kernel
theorem dL_leap_14 : decode cL_leap 14 = .ok (.lconst 0, 1) := by decide +kernel
theorem dL_leap_15 : decode cL_leap 15 = .ok (.lastore, 1) := by decide +kernel
theorem dL_leap_16 : decode cL_leap 16 = .ok (.goto 6, 3) := by decide +kernel
theorem dL_leap_19 : decode cL_leap 19 = .ok (.astore_n 3, 1) := by decide +kernel
theorem dL_leap_20 : decode cL_leap 20 = .ok (.iconst 1, 1) := by decide +kernel
theorem dL_leap_21 : decode cL_leap 21 = .ok (.ireturn, 1) := by decide +kernel
theorem dL_leap_22 : decode cL_leap 22 = .ok (.iconst 0, 1) := by decide +kernel
theorem dL_leap_23 : decode cL_leap 23 = .ok (.ireturn, 1) := by decide +kernel
set_option maxRecDepth 20000 in
theorem ggL_day_X5_day : GoodIn wsL_day wsX5_day := goodIn_ca (goodIn_r _ [6, 7, 8, 9, 10, 11, 5, 12, 13, 14, 15, 16, 17, 18, 19, 20, 21, 22, 23, 24, 25, 26, 27, 28, 29, 30, 31, 32, 33, 34, 35, 36, 37, 38, 39] (by decide +kernel) (by decide +kernel)) (goodIn_sub (fun _ h => List.mem_cons_of_mem _ (List.mem_append_right _ h)) (by decide +kernel))
set_option maxRecDepth 20000 in
theorem gL_day_X5_day : GoodIn wsL_day (wsV RL 25 RX5 yX5_day wsX5_day) := goodIn_app (goodIn_of _ (by decide +kernel)) ggL_day_X5_day
theorem dL_day_0 : decode cL_day 0 = .ok (.aload 4, 2) := by decide +kernel
theorem dL_day_2 : decode cL_day 2 = .ok (.iconst 0, 1) := by decide +kernel
theorem dL_day_3 : decode cL_day 3 = .ok (.aload_n 0, 1) := by decide +kernel
theorem dL_day_4 : decode cL_day 4 = .ok (.iload_n 1, 1) := by decide +kernel
theorem dL_day_5 : decode cL_day 5 = .ok (.iload_n 2, 1) := by decide +kernel
theorem dL_day_6 : decode cL_day 6 = .ok (.iload_n 3, 1) := by decide +kernel
theorem dL_day_7 : decode cL_day 7 = .ok (.invokevirtual 25, 3) := by decide +kernel
theorem dL_day_10 : decode cL_day 10 = .ok (.i2l, 1) := by decide +kernel
theorem dL_day_11 : decode cL_day 11 = .ok (.lastore, 1) := by decide +kernel
theorem dL_day_12 : decode cL_day 12 = .ok (.goto 7, 3) := by decide +kernel
theorem dL_day_15 : decode cL_day 15 = .ok (.astore 5, 2) := by decide +kernel
theorem dL_day_17 : decode cL_day 17 = .ok (.iconst 1, 1) := by decide +kernel
theorem dL_day_18 : decode cL_day 18 = .ok (.ireturn, 1) := by decide +kernel
theorem dL_day_19 : decode cL_day 19 = .ok (.iconst 0, 1) := by decide +kernel
theorem dL_day_20 : decode cL_day 20 = .ok (.ireturn, 1) := by decide +kernel
set_option maxRecDepth 20000 in
theorem ggL_date_X5_date : GoodIn wsL_date wsX5_date := goodIn_ca (goodIn_ca (goodIn_r _ [7, 8, 9, 10, 11, 12, 13, 14, 15, 6, 16, 17, 18, 19, 20, 21, 22, 23, 24, 25, 26, 27, 28, 29, 30, 31, 32, 33, 34, 35, 36, 37, 38, 39, 40, 41, 42, 43, 44, 45, 46, 47, 48, 49, 50, 51, 52, 53, 54, 55, 56, 57, 58, 59, 60, 61, 62, 63, 64] (by decide +kernel) (by decide +kernel)) (goodIn_sub (fun _ h => List.mem_cons_of_mem _ (List.mem_append_left _ (List.mem_append_right _ h))) (by decide +kernel))) (goodIn_sub (fun _ h => List.mem_cons_of_mem _ (List.mem_append_right _ h)) (by decide +kernel))
set_option maxRecDepth 20000 in
theorem gL_date_X5_date : GoodIn wsL_date (wsV RL 29 RX5 yX5_date wsX5_date) := goodIn_app (goodIn_of _ (by decide +kernel)) ggL_date_X5_date
theorem dL_date_0 : decode cL_date 0 = .ok (.aload_n 3, 1) := by decide +kernel
theorem dL_date_1 : decode cL_date 1 = .ok (.iconst 0, 1) := by decide +kernel
theorem dL_date_2 : decode cL_date 2 = .ok (.aload_n 0, 1) := by decide +kernel
theorem dL_date_3 : decode cL_date 3 = .ok (.iload_n 1, 1) := by decide +kernel
theorem dL_date_4 : decode cL_date 4 = .ok (.iload_n 2, 1) := by decide +kernel
theorem dL_date_5 : decode cL_date 5 = .ok (.invokevirtual 29, 3) := by decide +kernel
theorem dL_date_8 : decode cL_date 8 = .ok (.i2l, 1) := by decide +kernel
theorem dL_date_9 : decode cL_date 9 = .ok (.lastore, 1) := by decide +kernel
theorem dL_date_10 : decode cL_date 10 = .ok (.goto 11, 3) := by decide +kernel
theorem dL_date_13 : decode cL_date 13 = .ok (.astore 4, 2) := by decide +kernel
theorem dL_date_15 : decode cL_date 15 = .ok (.iconst 1, 1) := by decide +kernel
theorem dL_date_16 : decode cL_date 16 = .ok (.ireturn, 1) := by decide +kernel
theorem dL_date_17 : decode cL_date 17 = .ok (.astore 4, 2) := by decide +kernel
theorem dL_date_19 : decode cL_date 19 = .ok (.iconst 2, 1) := by decide +kernel
theorem dL_date_20 : decode cL_date 20 = .ok (.ireturn, 1) := by decide +kernel
theorem dL_date_21 : decode cL_date 21 = .ok (.iconst 0, 1) := by decide +kernel
theorem dL_date_22 : decode cL_date 22 = .ok (.ireturn, 1) := by decide +kernel
set_option maxRecDepth 20000 in
theorem ggL_line_X5_line : GoodIn wsL_line wsX5_line := goodIn_ca (goodIn_r _ [6, 7, 8, 9, 10, 11, 12, 5, 13, 14, 15, 16, 17, 18, 19, 20, 21, 22, 23, 24, 25, 26, 27, 28, 29, 30, 31, 32, 33, 34, 35, 36, 37, 38, 39, 40, 41, 42, 43, 44, 45, 46, 47, 48, 49] (by decide +kernel) (by decide +kernel)) (goodIn_sub (fun _ h => List.mem_cons_of_mem _ (List.mem_append_right _ h)) (by decide +kernel))
set_option maxRecDepth 20000 in
theorem gL_line_X5_line : GoodIn wsL_line (wsV RL 34 RX5 yX5_line wsX5_line) := goodIn_app (goodIn_of _ (by decide +kernel)) ggL_line_X5_line
theorem dL_line_0 : decode cL_line 0 = .ok (.aload_n 2, 1) := by decide +kernel
theorem dL_line_1 : decode cL_line 1 = .ok (.iconst 0, 1) := by decide +kernel
theorem dL_line_2 : decode cL_line 2 = .ok (.aload_n 0, 1) := by decide +kernel
theorem dL_line_3 : decode cL_line 3 = .ok (.iload_n 1, 1) := by decide +kernel
theorem dL_line_4 : decode cL_line 4 = .ok (.invokevirtual 34, 3) := by decide +kernel
theorem dL_line_7 : decode cL_line 7 = .ok (.i2l, 1) := by decide +kernel
theorem dL_line_8 : decode cL_line 8 = .ok (.lastore, 1) := by decide +kernel
theorem dL_line_9 : decode cL_line 9 = .ok (.goto 6, 3) := by decide +kernel
theorem dL_line_12 : decode cL_line 12 = .ok (.astore_n 3, 1) := by decide +kernel
theorem dL_line_13 : decode cL_line 13 = .ok (.iconst 1, 1) := by decide +kernel
theorem dL_line_14 : decode cL_line 14 = .ok (.ireturn, 1) := by decide +kernel
theorem dL_line_15 : decode cL_line 15 = .ok (.iconst 0, 1) := by decide +kernel
theorem dL_line_16 : decode cL_line 16 = .ok (.ireturn, 1) := by decide +kernel
set_option maxRecDepth 20000 in
theorem ggL_moon_X5_moon : GoodIn wsL_moon wsX5_moon := goodIn_ca (goodIn_r _ [6, 7, 8, 9, 10, 11, 12, 13, 14, 15, 16, 17, 18, 19, 20, 21, 22, 23, 24, 25] (by decide +kernel) (by decide +kernel)) (goodIn_sub (fun _ h => List.mem_cons_of_mem _ (List.mem_append_right _ h)) (by decide +kernel))
set_option maxRecDepth 20000 in
theorem gL_moon_X5_moon : GoodIn wsL_moon (wsV RL 38 RX5 yX5_moon wsX5_moon) := goodIn_app (goodIn_of _ (by decide +kernel)) ggL_moon_X5_moon
theorem dL_moon_0 : decode cL_moon 0 = .ok (.aload_n 3, 1) := by decide +kernel
theorem dL_moon_1 : decode cL_moon 1 = .ok (.iconst 0, 1) := by decide +kernel
theorem dL_moon_2 : decode cL_moon 2 = .ok (.aload_n 0, 1) := by decide +kernel
theorem dL_moon_3 : decode cL_moon 3 = .ok (.iload_n 1, 1) := by decide +kernel
theorem dL_moon_4 : decode cL_moon 4 = .ok (.iload_n 2, 1) := by decide +kernel
theorem dL_moon_5 : decode cL_moon 5 = .ok (.invokevirtual 38, 3) := by decide +kernel
theorem dL_moon_8 : decode cL_moon 8 = .ok (.i2l, 1) := by decide +kernel
theorem dL_moon_9 : decode cL_moon 9 = .ok (.lastore, 1) := by decide +kernel
theorem dL_moon_10 : decode cL_moon 10 = .ok (.goto 7, 3) := by decide +kernel
theorem dL_moon_13 : decode cL_moon 13 = .ok (.astore 4, 2) := by decide +kernel
theorem dL_moon_15 : decode cL_moon 15 = .ok (.iconst 1, 1) := by decide +kernel
theorem dL_moon_16 : decode cL_moon 16 = .ok (.ireturn, 1) := by decide +kernel
theorem dL_moon_17 : decode cL_moon 17 = .ok (.iconst 0, 1) := by decide +kernel
theorem dL_moon_18 : decode cL_moon 18 = .ok (.ireturn, 1) := by decide +kernel
set_option maxRecDepth 20000 in
theorem ggL_eclipses_X5_eclipses : GoodIn wsL_eclipses wsX5_eclipses := goodIn_ca (goodIn_r _ [6, 7, 8, 9, 10, 5, 11, 12, 13, 14, 15, 16, 17, 18, 19, 20, 21, 22, 23, 24, 25, 26, 27, 28, 29, 30, 31, 32, 33, 34, 35, 36, 37, 38, 39, 40, 41, 42, 43, 44, 45, 46, 47, 48, 49, 50, 51, 52, 53, 54, 55, 56, 57, 58, 59] (by decide +kernel) (by decide +kernel)) (goodIn_sub (fun _ h => List.mem_cons_of_mem _ (List.mem_append_right _ h)) (by decide +kernel))
set_option maxRecDepth 20000 in
theorem gL_eclipses_X5_eclipses : GoodIn wsL_eclipses (wsV RL 42 RX5 yX5_eclipses wsX5_eclipses) := goodIn_app (goodIn_of _ (by decide +kernel)) ggL_eclipses_X5_eclipses
theorem dL_eclipses_0 : decode cL_eclipses 0 = .ok (.aload_n 3, 1) := by decide +kernel
theorem dL_eclipses_1 : decode cL_eclipses 1 = .ok (.iconst 0, 1) := by decide +kernel
theorem dL_eclipses_2 : decode cL_eclipses 2 = .ok (.aload_n 0, 1) := by decide +kernel
theorem dL_eclipses_3 : decode cL_eclipses 3 = .ok (.iload_n 1, 1) := by decide +kernel
theorem dL_eclipses_4 : decode cL_eclipses 4 = .ok (.iload_n 2, 1) := by decide +kernel
theorem dL_eclipses_5 : decode cL_eclipses 5 = .ok (.invokevirtual 42, 3) := by decide +kernel
theorem dL_eclipses_8 : decode cL_eclipses 8 = .ok (.i2l, 1) := by decide +kernel
theorem dL_eclipses_9 : decode cL_eclipses 9 = .ok (.lastore, 1) := by decide +kernel
theorem dL_eclipses_10 : decode cL_eclipses 10 = .ok (.goto 7, 3) := by decide +kernel
theorem dL_eclipses_13 : decode cL_eclipses 13 = .ok (.astore 4, 2) := by decide +kernel
theorem dL_eclipses_15 : decode cL_eclipses 15 = .ok (.iconst 1, 1) := by decide +kernel
theorem dL_eclipses_16 : decode cL_eclipses 16 = .ok (.ireturn, 1) := by decide +kernel
theorem dL_eclipses_17 : decode cL_eclipses 17 = .ok (.iconst 0, 1) := by decide +kernel
theorem dL_eclipses_18 : decode cL_eclipses 18 = .ok (.ireturn, 1) := by decide +kernel
set_option maxRecDepth 20000 in
theorem ggL_next_X5_next : GoodIn wsL_next wsX5_next := goodIn_ca (goodIn_r _ [6, 7, 8, 9, 10, 11, 12, 13, 14, 15, 16, 17, 18, 5, 19, 20, 21, 22, 23, 24, 25, 26, 27, 28, 29, 30, 31, 32, 33, 34, 35, 36, 37, 38, 39, 40, 41, 42, 43, 44, 45, 46, 47, 48, 49, 50, 51, 52, 53, 54, 55, 56, 57, 58, 59, 60, 61, 62, 63, 64, 65, 66, 67] (by decide +kernel) (by decide +kernel)) (goodIn_sub (fun _ h => List.mem_cons_of_mem _ (List.mem_append_right _ h)) (by decide +kernel))
set_option maxRecDepth 20000 in
theorem gL_next_X5_next : GoodIn wsL_next (wsV RL 45 RX5 yX5_next wsX5_next) := goodIn_app (goodIn_of _ (by decide +kernel)) ggL_next_X5_next
theorem dL_next_0 : decode cL_next 0 = .ok (.aload_n 2, 1) := by decide +kernel
theorem dL_next_1 : decode cL_next 1 = .ok (.iconst 0, 1) := by decide +kernel
theorem dL_next_2 : decode cL_next 2 = .ok (.aload_n 0, 1) := by decide +kernel
theorem dL_next_3 : decode cL_next 3 = .ok (.iload_n 1, 1) := by decide +kernel
theorem dL_next_4 : decode cL_next 4 = .ok (.invokevirtual 45, 3) := by decide +kernel
theorem dL_next_7 : decode cL_next 7 = .ok (.i2l, 1) := by decide +kernel
theorem dL_next_8 : decode cL_next 8 = .ok (.lastore, 1) := by decide +kernel
theorem dL_next_9 : decode cL_next 9 = .ok (.goto 6, 3) := by decide +kernel
theorem dL_next_12 : decode cL_next 12 = .ok (.astore_n 3, 1) := by decide +kernel
theorem dL_next_13 : decode cL_next 13 = .ok (.iconst 1, 1) := by decide +kernel
theorem dL_next_14 : decode cL_next 14 = .ok (.ireturn, 1) := by decide +kernel
theorem dL_next_15 : decode cL_next 15 = .ok (.iconst 0, 1) := by decide +kernel
theorem dL_next_16 : decode cL_next 16 = .ok (.ireturn, 1) := by decide +kernel
set_option maxRecDepth 20000 in
theorem ggL_observe_X5_observe : GoodIn wsL_observe wsX5_observe := goodIn_ca (goodIn_r _ [6, 7, 8, 9, 10, 11, 12, 13, 14, 15, 16, 17, 18, 19, 20, 21, 22, 23, 24, 25, 26, 27, 28, 29, 30, 31, 32, 33, 34, 35, 36, 37, 38, 39, 40, 41, 42, 43, 44, 45, 46, 47, 48, 49] (by decide +kernel) (by decide +kernel)) (goodIn_sub (fun _ h => List.mem_cons_of_mem _ (List.mem_append_right _ h)) (by decide +kernel))
set_option maxRecDepth 20000 in
theorem gL_observe_X5_observe : GoodIn wsL_observe (wsV RL 48 RX5 yX5_observe wsX5_observe) := goodIn_app (goodIn_of _ (by decide +kernel)) ggL_observe_X5_observe
theorem dL_observe_0 : decode cL_observe 0 = .ok (.aload_n 3, 1) := by decide +kernel
theorem dL_observe_1 : decode cL_observe 1 = .ok (.iconst 0, 1) := by decide +kernel
theorem dL_observe_2 : decode cL_observe 2 = .ok (.aload_n 0, 1) := by decide +kernel
theorem dL_observe_3 : decode cL_observe 3 = .ok (.iload_n 1, 1) := by decide +kernel
theorem dL_observe_4 : decode cL_observe 4 = .ok (.iload_n 2, 1) := by decide +kernel
theorem dL_observe_5 : decode cL_observe 5 = .ok (.invokevirtual 48, 3) := by decide +kernel
theorem dL_observe_8 : decode cL_observe 8 = .ok (.i2l, 1) := by decide +kernel
theorem dL_observe_9 : decode cL_observe 9 = .ok (.lastore, 1) := by decide +kernel
theorem dL_observe_10 : decode cL_observe 10 = .ok (.goto 7, 3) := by decide +kernel
theorem dL_observe_13 : decode cL_observe 13 = .ok (.astore 4, 2) := by decide +kernel
theorem dL_observe_15 : decode cL_observe 15 = .ok (.iconst 1, 1) := by decide +kernel
theorem dL_observe_16 : decode cL_observe 16 = .ok (.ireturn, 1) := by decide +kernel
theorem dL_observe_17 : decode cL_observe 17 = .ok (.iconst 0, 1) := by decide +kernel
theorem dL_observe_18 : decode cL_observe 18 = .ok (.ireturn, 1) := by decide +kernel
set_option maxRecDepth 20000 in
theorem ggL_addFeast_X5_addFeast : GoodIn wsL_addFeast wsX5_addFeast := goodIn_ca (goodIn_ca (goodIn_r _ [7, 8, 9, 10, 11, 12, 13, 14, 15, 16, 17, 18, 19, 20, 21, 22, 23, 24, 25, 26, 27, 28, 29, 30, 31, 32, 33, 34, 35, 36, 37, 38, 39, 40, 41, 42, 43, 44, 45, 46, 47, 48, 49, 50, 51, 52, 53, 54, 55, 56, 57, 58, 59, 60, 61, 62, 63, 64, 65, 66, 67, 68, 69, 70, 71, 72, 73, 74, 75, 76, 77, 78, 79, 80, 81, 82, 83, 84, 85, 86, 87, 88, 89, 90, 91, 92, 93, 94, 95, 96, 97, 98, 99, 100, 101] (by decide +kernel) (by decide +kernel)) (goodIn_sub (fun _ h => List.mem_cons_of_mem _ (List.mem_append_left _ (List.mem_append_right _ h))) (by decide +kernel))) (goodIn_sub (fun _ h => List.mem_cons_of_mem _ (List.mem_append_right _ h)) (by decide +kernel))
set_option maxRecDepth 20000 in
theorem gL_addFeast_X5_addFeast : GoodIn wsL_addFeast (wsV RL 51 RX5 yX5_addFeast wsX5_addFeast) := goodIn_app (goodIn_of _ (by decide +kernel)) ggL_addFeast_X5_addFeast
theorem dL_addFeast_0 : decode cL_addFeast 0 = .ok (.aload 6, 2) := by decide +kernel
theorem dL_addFeast_2 : decode cL_addFeast 2 = .ok (.iconst 0, 1) := by decide +kernel
theorem dL_addFeast_3 : decode cL_addFeast 3 = .ok (.aload_n 0, 1) := by decide +kernel
theorem dL_addFeast_4 : decode cL_addFeast 4 = .ok (.iload_n 1, 1) := by decide +kernel
theorem dL_addFeast_5 : decode cL_addFeast 5 = .ok (.iload_n 2, 1) := by decide +kernel
theorem dL_addFeast_6 : decode cL_addFeast 6 = .ok (.iload_n 3, 1) := by decide +kernel
theorem dL_addFeast_7 : decode cL_addFeast 7 = .ok (.iload 4, 2) := by decide +kernel
theorem dL_addFeast_9 : decode cL_addFeast 9 = .ok (.iload 5, 2) := by decide +kernel
theorem dL_addFeast_11 : decode cL_addFeast 11 = .ok (.invokevirtual 51, 3) := by decide +kernel
theorem dL_addFeast_14 : decode cL_addFeast 14 = .ok (.i2l, 1) := by decide +kernel
theorem dL_addFeast_15 : decode cL_addFeast 15 = .ok (.lastore, 1) := by decide +kernel
theorem dL_addFeast_16 : decode cL_addFeast 16 = .ok (.goto 11, 3) := by decide +kernel
theorem dL_addFeast_19 : decode cL_addFeast 19 = .ok (.astore 7, 2) := by decide +kernel
theorem dL_addFeast_21 : decode cL_addFeast 21 = .ok (.iconst 1, 1) := by decide +kernel
theorem dL_addFeast_22 : decode cL_addFeast 22 = .ok (.ireturn, 1) := by decide +kernel
theorem dL_addFeast_23 : decode cL_addFeast 23 = .ok (.astore 7, 2) := by decide +kernel
theorem dL_addFeast_25 : decode cL_addFeast 25 = .ok (.iconst 2, 1) := by decide +kernel
theorem dL_addFeast_26 : decode cL_addFeast 26 = .ok (.ireturn, 1) := by decide +kernel
theorem dL_addFeast_27 : decode cL_addFeast 27 = .ok (.iconst 0, 1) := by decide +kernel
theorem dL_addFeast_28 : decode cL_addFeast 28 = .ok (.ireturn, 1) := by decide +kernel
set_option maxRecDepth 20000 in
theorem ggL_feast_X5_feast : GoodIn wsL_feast wsX5_feast := goodIn_ca (goodIn_ca (goodIn_r _ [7, 8, 9, 10, 11, 12, 13, 14, 15, 16, 17, 18, 19, 20, 21, 6, 22, 23, 24, 25, 26, 27, 28, 29, 30, 31, 32, 33, 34, 35, 36, 37, 38, 39, 40, 41, 42, 43, 44, 45, 46, 47, 48, 49, 50, 51, 52, 53, 54, 55, 56, 57, 58, 59, 60, 61, 62, 63, 64, 65, 66, 67, 68, 69, 70, 71, 72, 73, 74, 75, 76, 77, 78, 79, 80, 81, 82, 83, 84, 85, 86, 87, 88, 89, 90] (by decide +kernel) (by decide +kernel)) (goodIn_sub (fun _ h => List.mem_cons_of_mem _ (List.mem_append_left _ (List.mem_append_right _ h))) (by decide +kernel))) (goodIn_sub (fun _ h => List.mem_cons_of_mem _ (List.mem_append_right _ h)) (by decide +kernel))
set_option maxRecDepth 20000 in
theorem gL_feast_X5_feast : GoodIn wsL_feast (wsV RL 57 RX5 yX5_feast wsX5_feast) := goodIn_app (goodIn_of _ (by decide +kernel)) ggL_feast_X5_feast
theorem dL_feast_0 : decode cL_feast 0 = .ok (.aload_n 3, 1) := by decide +kernel
theorem dL_feast_1 : decode cL_feast 1 = .ok (.iconst 0, 1) := by decide +kernel
theorem dL_feast_2 : decode cL_feast 2 = .ok (.aload_n 0, 1) := by decide +kernel
theorem dL_feast_3 : decode cL_feast 3 = .ok (.iload_n 1, 1) := by decide +kernel
theorem dL_feast_4 : decode cL_feast 4 = .ok (.iload_n 2, 1) := by decide +kernel
theorem dL_feast_5 : decode cL_feast 5 = .ok (.invokevirtual 57, 3) := by decide +kernel
theorem dL_feast_8 : decode cL_feast 8 = .ok (.i2l, 1) := by decide +kernel
theorem dL_feast_9 : decode cL_feast 9 = .ok (.lastore, 1) := by decide +kernel
theorem dL_feast_10 : decode cL_feast 10 = .ok (.goto 11, 3) := by decide +kernel
theorem dL_feast_13 : decode cL_feast 13 = .ok (.astore 4, 2) := by decide +kernel
theorem dL_feast_15 : decode cL_feast 15 = .ok (.iconst 1, 1) := by decide +kernel
theorem dL_feast_16 : decode cL_feast 16 = .ok (.ireturn, 1) := by decide +kernel
theorem dL_feast_17 : decode cL_feast 17 = .ok (.astore 4, 2) := by decide +kernel
theorem dL_feast_19 : decode cL_feast 19 = .ok (.iconst 2, 1) := by decide +kernel
theorem dL_feast_20 : decode cL_feast 20 = .ok (.ireturn, 1) := by decide +kernel
theorem dL_feast_21 : decode cL_feast 21 = .ok (.iconst 0, 1) := by decide +kernel
theorem dL_feast_22 : decode cL_feast 22 = .ok (.ireturn, 1) := by decide +kernel
set_option maxRecDepth 20000 in
theorem ggL_clashes_X5_clashes : GoodIn wsL_clashes wsX5_clashes := goodIn_ca (goodIn_r _ [6, 7, 8, 9, 10, 11, 12, 5, 13, 14, 15, 16, 17, 18, 19, 20, 21, 22, 23, 24, 25, 26, 27, 28, 29, 30, 31, 32, 33, 34, 35, 36, 37, 38, 39, 40, 41, 42, 43, 44, 45, 46, 47, 48, 49, 50, 51, 52, 53, 54, 55, 56, 57, 58, 59, 60, 61, 62, 63, 64, 65, 66, 67, 68, 69, 70, 71, 72, 73, 74, 75, 76, 77, 78, 79, 80, 81, 82, 83, 84, 85, 86, 87, 88, 89, 90, 91] (by decide +kernel) (by decide +kernel)) (goodIn_sub (fun _ h => List.mem_cons_of_mem _ (List.mem_append_right _ h)) (by decide +kernel))
set_option maxRecDepth 20000 in
theorem gL_clashes_X5_clashes : GoodIn wsL_clashes (wsV RL 60 RX5 yX5_clashes wsX5_clashes) := goodIn_app (goodIn_of _ (by decide +kernel)) ggL_clashes_X5_clashes
theorem dL_clashes_0 : decode cL_clashes 0 = .ok (.aload_n 2, 1) := by decide +kernel
theorem dL_clashes_1 : decode cL_clashes 1 = .ok (.iconst 0, 1) := by decide +kernel
theorem dL_clashes_2 : decode cL_clashes 2 = .ok (.aload_n 0, 1) := by decide +kernel
theorem dL_clashes_3 : decode cL_clashes 3 = .ok (.iload_n 1, 1) := by decide +kernel
theorem dL_clashes_4 : decode cL_clashes 4 = .ok (.invokevirtual 60, 3) := by decide +kernel
theorem dL_clashes_7 : decode cL_clashes 7 = .ok (.i2l, 1) := by decide +kernel
theorem dL_clashes_8 : decode cL_clashes 8 = .ok (.lastore, 1) := by decide +kernel
theorem dL_clashes_9 : decode cL_clashes 9 = .ok (.goto 6, 3) := by decide +kernel
theorem dL_clashes_12 : decode cL_clashes 12 = .ok (.astore_n 3, 1) := by decide +kernel
theorem dL_clashes_13 : decode cL_clashes 13 = .ok (.iconst 1, 1) := by decide +kernel
theorem dL_clashes_14 : decode cL_clashes 14 = .ok (.ireturn, 1) := by decide +kernel
theorem dL_clashes_15 : decode cL_clashes 15 = .ok (.iconst 0, 1) := by decide +kernel
theorem dL_clashes_16 : decode cL_clashes 16 = .ok (.ireturn, 1) := by decide +kernel
set_option maxRecDepth 20000 in
theorem ggL_again_X5_again : GoodIn wsL_again wsX5_again := goodIn_ca (goodIn_ca (goodIn_r _ [7, 8, 9, 10, 11, 12, 13, 14, 15, 16, 17, 18, 19, 20, 21, 22, 6, 23, 24, 25, 26, 27, 28, 29, 30, 31, 32, 33, 34, 35, 36, 37, 38, 39, 40, 41, 42, 43, 44, 45, 46, 47, 48, 49, 50, 51, 52, 53, 54, 55, 56, 57, 58, 59, 60, 61, 62, 63, 64, 65, 66, 67, 68, 69, 70, 71, 72, 73, 74, 75, 76, 77, 78, 79, 80, 81, 82, 83, 84, 85, 86, 87, 88, 89, 90] (by decide +kernel) (by decide +kernel)) (goodIn_sub (fun _ h => List.mem_cons_of_mem _ (List.mem_append_left _ (List.mem_append_right _ h))) (by decide +kernel))) (goodIn_sub (fun _ h => List.mem_cons_of_mem _ (List.mem_append_right _ h)) (by decide +kernel))
set_option maxRecDepth 20000 in
theorem gL_again_X5_again : GoodIn wsL_again (wsV RL 63 RX5 yX5_again wsX5_again) := goodIn_app (goodIn_of _ (by decide +kernel)) ggL_again_X5_again
theorem dL_again_0 : decode cL_again 0 = .ok (.aload_n 3, 1) := by decide +kernel
theorem dL_again_1 : decode cL_again 1 = .ok (.iconst 0, 1) := by decide +kernel
theorem dL_again_2 : decode cL_again 2 = .ok (.aload_n 0, 1) := by decide +kernel
theorem dL_again_3 : decode cL_again 3 = .ok (.iload_n 1, 1) := by decide +kernel
theorem dL_again_4 : decode cL_again 4 = .ok (.iload_n 2, 1) := by decide +kernel
theorem dL_again_5 : decode cL_again 5 = .ok (.invokevirtual 63, 3) := by decide +kernel
theorem dL_again_8 : decode cL_again 8 = .ok (.i2l, 1) := by decide +kernel
theorem dL_again_9 : decode cL_again 9 = .ok (.lastore, 1) := by decide +kernel
theorem dL_again_10 : decode cL_again 10 = .ok (.goto 11, 3) := by decide +kernel
theorem dL_again_13 : decode cL_again 13 = .ok (.astore 4, 2) := by decide +kernel
theorem dL_again_15 : decode cL_again 15 = .ok (.iconst 1, 1) := by decide +kernel
theorem dL_again_16 : decode cL_again 16 = .ok (.ireturn, 1) := by decide +kernel
theorem dL_again_17 : decode cL_again 17 = .ok (.astore 4, 2) := by decide +kernel
theorem dL_again_19 : decode cL_again 19 = .ok (.iconst 2, 1) := by decide +kernel
theorem dL_again_20 : decode cL_again 20 = .ok (.ireturn, 1) := by decide +kernel
theorem dL_again_21 : decode cL_again 21 = .ok (.iconst 0, 1) := by decide +kernel
theorem dL_again_22 : decode cL_again 22 = .ok (.ireturn, 1) := by decide +kernel
set_option maxRecDepth 20000 in
theorem ggL_print_X5_print : GoodIn wsL_print wsX5_print := goodIn_ca (goodIn_ca (goodIn_r _ [7, 8, 9, 10, 11, 12, 13, 14, 15, 16, 17, 6, 18, 19, 20, 21, 22, 23, 24, 25, 26, 27, 28, 29, 30, 31, 32, 33, 34, 35, 36, 37, 38, 39, 40, 41, 42, 43, 44, 45, 46, 47, 48, 49, 50, 51, 52, 53, 54, 55, 56, 57, 58, 59, 60, 61, 62, 63, 64, 65, 66, 67, 68, 69, 70, 71, 72, 73, 74, 75, 76, 77, 78, 79, 80, 81, 82, 83, 84, 85, 86, 87, 88, 89, 90, 91, 92, 93, 94, 95, 96, 97, 98, 99, 100, 101, 102, 103, 104, 105, 106, 107, 108, 109, 110, 111, 112, 113, 114, 115, 116, 117, 118, 119, 120, 121, 122, 123, 124, 125, 126, 127, 128, 129, 130, 131, 132, 133, 134, 135, 136, 137, 138, 139, 140, 141, 142, 143, 144, 145, 146, 147, 148, 149, 150, 151, 152, 153, 154, 155, 156, 157, 158, 159, 160, 161, 162, 163, 164, 165, 166, 167, 168, 169, 170, 171, 172, 173, 174, 175, 176, 177, 178, 179, 180, 181, 182, 183, 184, 185, 186, 187, 188, 189] (by decide +kernel) (by decide +kernel)) (goodIn_sub (fun _ h => List.mem_cons_of_mem _ (List.mem_append_left _ (List.mem_append_right _ h))) (by decide +kernel))) (goodIn_sub (fun _ h => List.mem_cons_of_mem _ (List.mem_append_right _ h)) (by decide +kernel))
set_option maxRecDepth 20000 in
theorem gL_print_X5_print : GoodIn wsL_print (wsV RL 66 RX5 yX5_print wsX5_print) := goodIn_app (goodIn_of _ (by decide +kernel)) ggL_print_X5_print
theorem dL_print_0 : decode cL_print 0 = .ok (.aload_n 2, 1) := by decide +kernel
theorem dL_print_1 : decode cL_print 1 = .ok (.iconst 0, 1) := by decide +kernel
theorem dL_print_2 : decode cL_print 2 = .ok (.aload_n 0, 1) := by decide +kernel
theorem dL_print_3 : decode cL_print 3 = .ok (.iload_n 1, 1) := by decide +kernel
theorem dL_print_4 : decode cL_print 4 = .ok (.invokevirtual 66, 3) := by decide +kernel
theorem dL_print_7 : decode cL_print 7 = .ok (.i2l, 1) := by decide +kernel
theorem dL_print_8 : decode cL_print 8 = .ok (.lastore, 1) := by decide +kernel
theorem dL_print_9 : decode cL_print 9 = .ok (.goto 9, 3) := by decide +kernel
theorem dL_print_12 : decode cL_print 12 = .ok (.astore_n 3, 1) := by decide +kernel
theorem dL_print_13 : decode cL_print 13 = .ok (.iconst 1, 1) := by decide +kernel
theorem dL_print_14 : decode cL_print 14 = .ok (.ireturn, 1) := by decide +kernel
theorem dL_print_15 : decode cL_print 15 = .ok (.astore_n 3, 1) := by decide +kernel
theorem dL_print_16 : decode cL_print 16 = .ok (.iconst 2, 1) := by decide +kernel
theorem dL_print_17 : decode cL_print 17 = .ok (.ireturn, 1) := by decide +kernel
theorem dL_print_18 : decode cL_print 18 = .ok (.iconst 0, 1) := by decide +kernel
theorem dL_print_19 : decode cL_print 19 = .ok (.ireturn, 1) := by decide +kernel
set_option maxRecDepth 20000 in
theorem ggL_reprint_X5_reprint : GoodIn wsL_reprint wsX5_reprint := goodIn_ca (goodIn_r _ [6, 7, 8, 9, 10, 11, 12, 13, 5, 14, 15, 16, 17, 18, 19, 20, 21, 22, 23, 24, 25, 26, 27, 28, 29, 30, 31, 32, 33, 34, 35, 36, 37, 38, 39, 40, 41, 42, 43, 44, 45, 46, 47, 48, 49, 50, 51, 52, 53, 54, 55, 56, 57, 58, 59, 60, 61, 62, 63, 64, 65, 66, 67, 68, 69, 70, 71, 72, 73, 74, 75, 76, 77, 78, 79, 80, 81, 82, 83, 84, 85, 86, 87, 88, 89, 90, 91, 92, 93, 94, 95, 96, 97, 98, 99, 100, 101, 102, 103, 104, 105, 106, 107, 108, 109, 110, 111, 112, 113, 114, 115, 116, 117, 118, 119, 120, 121, 122, 123, 124, 125, 126, 127, 128, 129, 130, 131, 132, 133] (by decide +kernel) (by decide +kernel)) (goodIn_sub (fun _ h => List.mem_cons_of_mem _ (List.mem_append_right _ h)) (by decide +kernel))
set_option maxRecDepth 20000 in
theorem gL_reprint_X5_reprint : GoodIn wsL_reprint (wsV RL 69 RX5 yX5_reprint wsX5_reprint) := goodIn_app (goodIn_of _ (by decide +kernel)) ggL_reprint_X5_reprint
theorem dL_reprint_0 : decode cL_reprint 0 = .ok (.aload_n 2, 1) := by decide +kernel
theorem dL_reprint_1 : decode cL_reprint 1 = .ok (.iconst 0, 1) := by decide +kernel
theorem dL_reprint_2 : decode cL_reprint 2 = .ok (.aload_n 0, 1) := by decide +kernel
theorem dL_reprint_3 : decode cL_reprint 3 = .ok (.iload_n 1, 1) := by decide +kernel
theorem dL_reprint_4 : decode cL_reprint 4 = .ok (.invokevirtual 69, 3) := by decide +kernel
theorem dL_reprint_7 : decode cL_reprint 7 = .ok (.i2l, 1) := by decide +kernel
theorem dL_reprint_8 : decode cL_reprint 8 = .ok (.lastore, 1) := by decide +kernel
theorem dL_reprint_9 : decode cL_reprint 9 = .ok (.goto 6, 3) := by decide +kernel
theorem dL_reprint_12 : decode cL_reprint 12 = .ok (.astore_n 3, 1) := by decide +kernel
theorem dL_reprint_13 : decode cL_reprint 13 = .ok (.iconst 1, 1) := by decide +kernel
theorem dL_reprint_14 : decode cL_reprint 14 = .ok (.ireturn, 1) := by decide +kernel
theorem dL_reprint_15 : decode cL_reprint 15 = .ok (.iconst 0, 1) := by decide +kernel
theorem dL_reprint_16 : decode cL_reprint 16 = .ok (.ireturn, 1) := by decide +kernel
set_option maxRecDepth 20000 in
theorem ggL_sheet_X5_sheet : GoodIn wsL_sheet wsX5_sheet := goodIn_ca (goodIn_r _ [6, 7, 8, 9, 10, 11, 12, 13, 14, 15, 16, 5, 17, 18, 19, 20, 21, 22, 23, 24, 25, 26, 27, 28, 29, 30, 31, 32, 33, 34, 35, 36, 37, 38, 39, 40, 41, 42, 43, 44, 45, 46, 47, 48, 49, 50, 51, 52, 53, 54, 55, 56, 57, 58, 59, 60, 61, 62, 63, 64, 65, 66, 67, 68, 69, 70, 71, 72, 73, 74, 75, 76, 77, 78, 79, 80, 81, 82, 83, 84, 85, 86, 87, 88, 89, 90, 91, 92, 93, 94, 95, 96, 97, 98, 99, 100, 101, 102, 103, 104, 105, 106, 107, 108, 109, 110, 111, 112, 113, 114, 115, 116, 117, 118, 119, 120, 121, 122, 123, 124, 125, 126, 127, 128, 129, 130, 131, 132, 133, 134, 135, 136, 137, 138, 139] (by decide +kernel) (by decide +kernel)) (goodIn_sub (fun _ h => List.mem_cons_of_mem _ (List.mem_append_right _ h)) (by decide +kernel))
set_option maxRecDepth 20000 in
theorem gL_sheet_X5_sheet : GoodIn wsL_sheet (wsV RL 72 RX5 yX5_sheet wsX5_sheet) := goodIn_app (goodIn_of _ (by decide +kernel)) ggL_sheet_X5_sheet
theorem dL_sheet_0 : decode cL_sheet 0 = .ok (.aload_n 3, 1) := by decide +kernel
theorem dL_sheet_1 : decode cL_sheet 1 = .ok (.iconst 0, 1) := by decide +kernel
theorem dL_sheet_2 : decode cL_sheet 2 = .ok (.aload_n 0, 1) := by decide +kernel
theorem dL_sheet_3 : decode cL_sheet 3 = .ok (.iload_n 1, 1) := by decide +kernel
theorem dL_sheet_4 : decode cL_sheet 4 = .ok (.iload_n 2, 1) := by decide +kernel
theorem dL_sheet_5 : decode cL_sheet 5 = .ok (.invokevirtual 72, 3) := by decide +kernel
theorem dL_sheet_8 : decode cL_sheet 8 = .ok (.i2l, 1) := by decide +kernel
theorem dL_sheet_9 : decode cL_sheet 9 = .ok (.lastore, 1) := by decide +kernel
theorem dL_sheet_10 : decode cL_sheet 10 = .ok (.goto 7, 3) := by decide +kernel
theorem dL_sheet_13 : decode cL_sheet 13 = .ok (.astore 4, 2) := by decide +kernel
theorem dL_sheet_15 : decode cL_sheet 15 = .ok (.iconst 1, 1) := by decide +kernel
theorem dL_sheet_16 : decode cL_sheet 16 = .ok (.ireturn, 1) := by decide +kernel
theorem dL_sheet_17 : decode cL_sheet 17 = .ok (.iconst 0, 1) := by decide +kernel
theorem dL_sheet_18 : decode cL_sheet 18 = .ok (.ireturn, 1) := by decide +kernel
set_option maxRecDepth 20000 in
theorem ggL_printed_X5_printed : GoodIn wsL_printed wsX5_printed := goodIn_ca (goodIn_r _ [6, 7, 8, 9, 10, 11, 12, 13, 14, 5, 15, 16, 17, 18, 19, 20, 21, 22, 23, 24, 25, 26, 27, 28, 29, 30, 31, 32, 33, 34, 35, 36, 37, 38, 39, 40, 41, 42, 43, 44, 45, 46, 47, 48, 49, 50, 51, 52, 53, 54, 55, 56, 57, 58] (by decide +kernel) (by decide +kernel)) (goodIn_sub (fun _ h => List.mem_cons_of_mem _ (List.mem_append_right _ h)) (by decide +kernel))
set_option maxRecDepth 20000 in
theorem gL_printed_X5_printed : GoodIn wsL_printed (wsV RL 75 RX5 yX5_printed wsX5_printed) := goodIn_app (goodIn_of _ (by decide +kernel)) ggL_printed_X5_printed
theorem dL_printed_0 : decode cL_printed 0 = .ok (.aload_n 3, 1) := by decide +kernel
theorem dL_printed_1 : decode cL_printed 1 = .ok (.iconst 0, 1) := by decide +kernel
theorem dL_printed_2 : decode cL_printed 2 = .ok (.aload_n 0, 1) := by decide +kernel
theorem dL_printed_3 : decode cL_printed 3 = .ok (.iload_n 1, 1) := by decide +kernel
theorem dL_printed_4 : decode cL_printed 4 = .ok (.iload_n 2, 1) := by decide +kernel
theorem dL_printed_5 : decode cL_printed 5 = .ok (.invokevirtual 75, 3) := by decide +kernel
theorem dL_printed_8 : decode cL_printed 8 = .ok (.i2l, 1) := by decide +kernel
theorem dL_printed_9 : decode cL_printed 9 = .ok (.lastore, 1) := by decide +kernel
theorem dL_printed_10 : decode cL_printed 10 = .ok (.goto 7, 3) := by decide +kernel
theorem dL_printed_13 : decode cL_printed 13 = .ok (.astore 4, 2) := by decide +kernel
theorem dL_printed_15 : decode cL_printed 15 = .ok (.iconst 1, 1) := by decide +kernel
theorem dL_printed_16 : decode cL_printed 16 = .ok (.ireturn, 1) := by decide +kernel
theorem dL_printed_17 : decode cL_printed 17 = .ok (.iconst 0, 1) := by decide +kernel
theorem dL_printed_18 : decode cL_printed 18 = .ok (.ireturn, 1) := by decide +kernel
set_option maxRecDepth 20000 in
theorem ggL_count_X5_count : GoodIn wsL_count wsX5_count := goodIn_ca (goodIn_r _ [6, 7, 8, 9, 10, 11, 12, 13, 14, 15, 16, 17, 18, 19, 20, 21, 22, 23, 24, 25, 26, 27, 28, 29, 30, 5, 31, 32, 33, 34, 35, 36, 37, 38, 39, 40, 41, 42, 43, 44, 45, 46, 47, 48, 49, 50, 51, 52, 53, 54, 55, 56, 57, 58, 59, 60, 61, 62, 63, 64, 65, 66, 67, 68, 69, 70, 71, 72, 73, 74, 75, 76, 77, 78, 79, 80, 81, 82, 83, 84, 85, 86, 87, 88, 89, 90, 91, 92, 93, 94, 95, 96, 97, 98, 99, 100, 101, 102, 103, 104, 105, 106, 107, 108, 109, 110, 111, 112, 113, 114, 115, 116, 117, 118, 119, 120, 121, 122, 123, 124, 125, 126, 127, 128, 129, 130, 131, 132, 133, 134, 135, 136] (by decide +kernel) (by decide +kernel)) (goodIn_sub (fun _ h => List.mem_cons_of_mem _ (List.mem_append_right _ h)) (by decide +kernel))
set_option maxRecDepth 20000 in
theorem gL_count_X5_count : GoodIn wsL_count (wsV RL 78 RX5 yX5_count wsX5_count) := goodIn_app (goodIn_of _ (by decide +kernel)) ggL_count_X5_count
theorem dL_count_0 : decode cL_count 0 = .ok (.aload_n 2, 1) := by decide +kernel
theorem dL_count_1 : decode cL_count 1 = .ok (.iconst 0, 1) := by decide +kernel
theorem dL_count_2 : decode cL_count 2 = .ok (.aload_n 0, 1) := by decide +kernel
theorem dL_count_3 : decode cL_count 3 = .ok (.iload_n 1, 1) := by decide +kernel
theorem dL_count_4 : decode cL_count 4 = .ok (.invokevirtual 78, 3) := by decide +kernel
theorem dL_count_7 : decode cL_count 7 = .ok (.i2l, 1) := by decide +kernel
theorem dL_count_8 : decode cL_count 8 = .ok (.lastore, 1) := by decide +kernel
theorem dL_count_9 : decode cL_count 9 = .ok (.goto 6, 3) := by decide +kernel
theorem dL_count_12 : decode cL_count 12 = .ok (.astore_n 3, 1) := by decide +kernel
theorem dL_count_13 : decode cL_count 13 = .ok (.iconst 1, 1) := by decide +kernel
theorem dL_count_14 : decode cL_count 14 = .ok (.ireturn, 1) := by decide +kernel
theorem dL_count_15 : decode cL_count 15 = .ok (.iconst 0, 1) := by decide +kernel
theorem dL_count_16 : decode cL_count 16 = .ok (.ireturn, 1) := by decide +kernel
set_option maxRecDepth 20000 in
theorem ggL_cycle_X5_cycle : GoodIn wsL_cycle wsX5_cycle := goodIn_ca (goodIn_r _ [6, 7, 8, 9, 10, 11, 12, 13, 14, 15, 16, 17, 18, 19, 20, 21, 22, 23, 24, 25, 26, 27, 28, 29, 30, 31, 32, 33, 34] (by decide +kernel) (by decide +kernel)) (goodIn_sub (fun _ h => List.mem_cons_of_mem _ (List.mem_append_right _ h)) (by decide +kernel))
set_option maxRecDepth 20000 in
theorem gL_cycle_X5_cycle : GoodIn wsL_cycle (wsV RL 81 RX5 yX5_cycle wsX5_cycle) := goodIn_app (goodIn_of _ (by decide +kernel)) ggL_cycle_X5_cycle
theorem dL_cycle_0 : decode cL_cycle 0 = .ok (.aload_n 2, 1) := by decide +kernel
theorem dL_cycle_1 : decode cL_cycle 1 = .ok (.iconst 0, 1) := by decide +kernel
theorem dL_cycle_2 : decode cL_cycle 2 = .ok (.aload_n 0, 1) := by decide +kernel
theorem dL_cycle_3 : decode cL_cycle 3 = .ok (.iload_n 1, 1) := by decide +kernel
theorem dL_cycle_4 : decode cL_cycle 4 = .ok (.invokevirtual 81, 3) := by decide +kernel
theorem dL_cycle_7 : decode cL_cycle 7 = .ok (.i2l, 1) := by decide +kernel
theorem dL_cycle_8 : decode cL_cycle 8 = .ok (.lastore, 1) := by decide +kernel
theorem dL_cycle_9 : decode cL_cycle 9 = .ok (.goto 6, 3) := by decide +kernel
theorem dL_cycle_12 : decode cL_cycle 12 = .ok (.astore_n 3, 1) := by decide +kernel
theorem dL_cycle_13 : decode cL_cycle 13 = .ok (.iconst 1, 1) := by decide +kernel
theorem dL_cycle_14 : decode cL_cycle 14 = .ok (.ireturn, 1) := by decide +kernel
theorem dL_cycle_15 : decode cL_cycle 15 = .ok (.iconst 0, 1) := by decide +kernel
theorem dL_cycle_16 : decode cL_cycle 16 = .ok (.ireturn, 1) := by decide +kernel

