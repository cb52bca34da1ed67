/-! ===== rows of the law's own simulation ===== -/
theorem dX6_init_0 : decode cX6_init 0 = .ok (.aload_n 0, 1) := by decide +kernel
theorem dX6_init_1 : decode cX6_init 1 = .ok (.invokespecial 1, 3) := by decide +kernel
theorem dX6_init_4 : decode cX6_init 4 = .ok (.aload_n 0, 1) := by decide +kernel
theorem dX6_init_5 : decode cX6_init 5 = .ok (.iconst 4, 1) := by decide +kernel
theorem dX6_init_6 : decode cX6_init 6 = .ok (.putfield 7, 3) := by decide +kernel
theorem dX6_init_9 : decode cX6_init 9 = .ok (.aload_n 0, 1) := by decide +kernel
theorem dX6_init_10 : decode cX6_init 10 = .ok (.iconst 1, 1) := by decide +kernel
theorem dX6_init_11 : decode cX6_init 11 = .ok (.putfield 13, 3) := by decide +kernel
theorem dX6_init_14 : decode cX6_init 14 = .ok (.aload_n 0, 1) := by decide +kernel
theorem dX6_init_15 : decode cX6_init 15 = .ok (.sipush 29531, 3) := by decide +kernel
theorem dX6_init_18 : decode cX6_init 18 = .ok (.putfield 16, 3) := by decide +kernel
theorem dX6_init_21 : decode cX6_init 21 = .ok (.aload_n 0, 1) := by decide +kernel
theorem dX6_init_22 : decode cX6_init 22 = .ok (.ldc 19, 2) := by decide +kernel
theorem dX6_init_24 : decode cX6_init 24 = .ok (.putfield 20, 3) := by decide +kernel
theorem dX6_init_27 : decode cX6_init 27 = .ok (.aload_n 0, 1) := by decide +kernel
theorem dX6_init_28 : decode cX6_init 28 = .ok (.iconst 0, 1) := by decide +kernel
theorem dX6_init_29 : decode cX6_init 29 = .ok (.anewarray 23, 3) := by decide +kernel
theorem dX6_init_32 : decode cX6_init 32 = .ok (.putfield 25, 3) := by decide +kernel
theorem dX6_init_35 : decode cX6_init 35 = .ok (.aload_n 0, 1) := by decide +kernel
theorem dX6_init_36 : decode cX6_init 36 = .ok (.iconst 0, 1) := by decide +kernel
theorem dX6_init_37 : decode cX6_init 37 = .ok (.anewarray 23, 3) := by decide +kernel
theorem dX6_init_40 : decode cX6_init 40 = .ok (.putfield 29, 3) := by decide +kernel
theorem dX6_init_43 : decode cX6_init 43 = .ok (.return_, 1) := by decide +kernel
theorem dX6_more_0 : decode cX6_more 0 = .ok (.aload_n 0, 1) := by decide +kernel
theorem dX6_more_1 : decode cX6_more 1 = .ok (.arraylength, 1) := by decide +kernel
theorem dX6_more_2 : decode cX6_more 2 = .ok (.iconst 1, 1) := by decide +kernel
theorem dX6_more_3 : decode cX6_more 3 = .ok (.iadd, 1) := by decide +kernel
theorem dX6_more_4 : decode cX6_more 4 = .ok (.anewarray 23, 3) := by decide +kernel
theorem dX6_more_7 : decode cX6_more 7 = .ok (.astore_n 2, 1) := by decide +kernel
theorem dX6_more_8 : decode cX6_more 8 = .ok (.iconst 0, 1) := by decide +kernel
theorem dX6_more_9 : decode cX6_more 9 = .ok (.istore_n 3, 1) := by decide +kernel
theorem dX6_more_10 : decode cX6_more 10 = .ok (.iload_n 3, 1) := by decide +kernel
theorem dX6_more_11 : decode cX6_more 11 = .ok (.aload_n 0, 1) := by decide +kernel
theorem dX6_more_12 : decode cX6_more 12 = .ok (.arraylength, 1) := by decide +kernel
theorem dX6_more_13 : decode cX6_more 13 = .ok (.if_icmp .ge 15, 3) := by decide +kernel
theorem dX6_more_16 : decode cX6_more 16 = .ok (.aload_n 2, 1) := by decide +kernel
theorem dX6_more_17 : decode cX6_more 17 = .ok (.iload_n 3, 1) := by decide +kernel
theorem dX6_more_18 : decode cX6_more 18 = .ok (.aload_n 0, 1) := by decide +kernel
theorem dX6_more_19 : decode cX6_more 19 = .ok (.iload_n 3, 1) := by decide +kernel
theorem dX6_more_20 : decode cX6_more 20 = .ok (.aaload, 1) := by decide +kernel
theorem dX6_more_21 : decode cX6_more 21 = .ok (.aastore, 1) := by decide +kernel
theorem dX6_more_22 : decode cX6_more 22 = .ok (.iinc 3 1, 3) := by decide +kernel
theorem dX6_more_25 : decode cX6_more 25 = .ok (.goto (-15), 3) := by decide +kernel
theorem dX6_more_28 : decode cX6_more 28 = .ok (.aload_n 2, 1) := by decide +kernel
theorem dX6_more_29 : decode cX6_more 29 = .ok (.aload_n 0, 1) := by decide +kernel
theorem dX6_more_30 : decode cX6_more 30 = .ok (.arraylength, 1) := by decide +kernel
theorem dX6_more_31 : decode cX6_more 31 = .ok (.aload_n 1, 1) := by decide +kernel
theorem dX6_more_32 : decode cX6_more 32 = .ok (.aastore, 1) := by decide +kernel
theorem dX6_more_33 : decode cX6_more 33 = .ok (.aload_n 2, 1) := by decide +kernel
theorem dX6_more_34 : decode cX6_more 34 = .ok (.areturn, 1) := by decide +kernel
theorem dX6_isLeap_0 : decode cX6_isLeap 0 = .ok (.iload_n 1, 1) := by decide +kernel
theorem dX6_isLeap_1 : decode cX6_isLeap 1 = .ok (.aload_n 0, 1) := by decide +kernel
theorem dX6_isLeap_2 : decode cX6_isLeap 2 = .ok (.getfield 13, 3) := by decide +kernel
theorem dX6_isLeap_5 : decode cX6_isLeap 5 = .ok (.imul, 1) := by decide +kernel
theorem dX6_isLeap_6 : decode cX6_isLeap 6 = .ok (.istore_n 2, 1) := by decide +kernel
theorem dX6_isLeap_7 : decode cX6_isLeap 7 = .ok (.iload_n 2, 1) := by decide +kernel
theorem dX6_isLeap_8 : decode cX6_isLeap 8 = .ok (.iload_n 2, 1) := by decide +kernel
theorem dX6_isLeap_9 : decode cX6_isLeap 9 = .ok (.aload_n 0, 1) := by decide +kernel
theorem dX6_isLeap_10 : decode cX6_isLeap 10 = .ok (.getfield 7, 3) := by decide +kernel
theorem dX6_isLeap_13 : decode cX6_isLeap 13 = .ok (.idiv, 1) := by decide +kernel
theorem dX6_isLeap_14 : decode cX6_isLeap 14 = .ok (.aload_n 0, 1) := by decide +kernel
theorem dX6_isLeap_15 : decode cX6_isLeap 15 = .ok (.getfield 7, 3) := by decide +kernel
theorem dX6_isLeap_18 : decode cX6_isLeap 18 = .ok (.imul, 1) := by decide +kernel
theorem dX6_isLeap_19 : decode cX6_isLeap 19 = .ok (.isub, 1) := by decide +kernel
theorem dX6_isLeap_20 : decode cX6_isLeap 20 = .ok (.istore_n 2, 1) := by decide +kernel
theorem dX6_isLeap_21 : decode cX6_isLeap 21 = .ok (.iload_n 2, 1) := by decide +kernel
theorem dX6_isLeap_22 : decode cX6_isLeap 22 = .ok (.aload_n 0, 1) := by decide +kernel
theorem dX6_isLeap_23 : decode cX6_isLeap 23 = .ok (.getfield 13, 3) := by decide +kernel
theorem dX6_isLeap_26 : decode cX6_isLeap 26 = .ok (.if_icmp .ge 7, 3) := by decide +kernel
theorem dX6_isLeap_29 : decode cX6_isLeap 29 = .ok (.iconst 1, 1) := by decide +kernel
theorem dX6_isLeap_30 : decode cX6_isLeap 30 = .ok (.goto 4, 3) := by decide +kernel
theorem dX6_isLeap_33 : decode cX6_isLeap 33 = .ok (.iconst 0, 1) := by decide +kernel
theorem dX6_isLeap_34 : decode cX6_isLeap 34 = .ok (.ireturn, 1) := by decide +kernel
set_option maxRecDepth 20000 in
theorem ggX6_yearDays_X6_isLeap : GoodIn wsX6_yearDays wsX6_isLeap := goodIn_r _ [5, 6, 7, 8, 9, 10, 11, 12, 13, 14, 15, 16, 17] (by decide +kernel) (by decide +kernel)
set_option maxRecDepth 20000 in
theorem gX6_yearDays_X6_isLeap : GoodIn wsX6_yearDays (wsV RX6 32 RX6 yX6_isLeap wsX6_isLeap) := goodIn_app (goodIn_of _ (by decide +kernel)) ggX6_yearDays_X6_isLeap
theorem dX6_yearDays_0 : decode cX6_yearDays 0 = .ok (.aload_n 0, 1) := by decide +kernel
theorem dX6_yearDays_1 : decode cX6_yearDays 1 = .ok (.iload_n 1, 1) := by decide +kernel
theorem dX6_yearDays_2 : decode cX6_yearDays 2 = .ok (.invokevirtual 32, 3) := by decide +kernel
theorem dX6_yearDays_5 : decode cX6_yearDays 5 = .ok (.ifCond .eq 9, 3) := by decide +kernel
theorem dX6_yearDays_8 : decode cX6_yearDays 8 = .ok (.sipush 366, 3) := by decide +kernel
theorem dX6_yearDays_11 : decode cX6_yearDays 11 = .ok (.goto 6, 3) := by decide +kernel
theorem dX6_yearDays_14 : decode cX6_yearDays 14 = .ok (.sipush 365, 3) := by decide +kernel
theorem dX6_yearDays_17 : decode cX6_yearDays 17 = .ok (.ireturn, 1) := by decide +kernel
set_option maxRecDepth 20000 in
theorem ggX6_begins_X6_yearDays : GoodIn wsX6_begins wsX6_yearDays := goodIn_r _ [5, 6, 7, 8, 4, 9, 10, 11, 12, 13, 14, 15, 16, 17, 18, 19, 20, 21] (by decide +kernel) (by decide +kernel)
set_option maxRecDepth 20000 in
theorem gX6_begins_X6_yearDays : GoodIn wsX6_begins (wsV RX6 36 RX6 yX6_yearDays wsX6_yearDays) := goodIn_app (goodIn_of _ (by decide +kernel)) ggX6_begins_X6_yearDays
theorem dX6_begins_0 : decode cX6_begins 0 = .ok (.iconst 0, 1) := by decide +kernel
theorem dX6_begins_1 : decode cX6_begins 1 = .ok (.istore_n 2, 1) := by decide +kernel
theorem dX6_begins_2 : decode cX6_begins 2 = .ok (.iconst 0, 1) := by decide +kernel
theorem dX6_begins_3 : decode cX6_begins 3 = .ok (.istore_n 3, 1) := by decide +kernel
theorem dX6_begins_4 : decode cX6_begins 4 = .ok (.iload_n 3, 1) := by decide +kernel
theorem dX6_begins_5 : decode cX6_begins 5 = .ok (.iload_n 1, 1) := by decide +kernel
theorem dX6_begins_6 : decode cX6_begins 6 = .ok (.if_icmp .ge 17, 3) := by decide +kernel
theorem dX6_begins_9 : decode cX6_begins 9 = .ok (.iload_n 2, 1) := by decide +kernel
theorem dX6_begins_10 : decode cX6_begins 10 = .ok (.aload_n 0, 1) := by decide +kernel
theorem dX6_begins_11 : decode cX6_begins 11 = .ok (.iload_n 3, 1) := by decide +kernel
theorem dX6_begins_12 : decode cX6_begins 12 = .ok (.invokevirtual 36, 3) := by decide +kernel
theorem dX6_begins_15 : decode cX6_begins 15 = .ok (.iadd, 1) := by decide +kernel
theorem dX6_begins_16 : decode cX6_begins 16 = .ok (.istore_n 2, 1) := by decide +kernel
theorem dX6_begins_17 : decode cX6_begins 17 = .ok (.iinc 3 1, 3) := by decide +kernel
theorem dX6_begins_20 : decode cX6_begins 20 = .ok (.goto (-16), 3) := by decide +kernel
theorem dX6_begins_23 : decode cX6_begins 23 = .ok (.iload_n 2, 1) := by decide +kernel
theorem dX6_begins_24 : decode cX6_begins 24 = .ok (.ireturn, 1) := by decide +kernel
set_option maxRecDepth 20000 in
theorem ggX6_day_X6_begins : GoodIn wsX6_day wsX6_begins := goodIn_r _ [5, 6, 7, 8, 4, 9, 10, 11, 12, 13, 14, 15, 16, 17, 18, 19, 20, 21, 22, 23, 24, 25] (by decide +kernel) (by decide +kernel)
set_option maxRecDepth 20000 in
theorem gX6_day_X6_begins : GoodIn wsX6_day (wsV RX6 40 RX6 yX6_begins wsX6_begins) := goodIn_app (goodIn_of _ (by decide +kernel)) ggX6_day_X6_begins
theorem dX6_day_0 : decode cX6_day 0 = .ok (.aload_n 0, 1) := by decide +kernel
theorem dX6_day_1 : decode cX6_day 1 = .ok (.iload_n 1, 1) := by decide +kernel
theorem dX6_day_2 : decode cX6_day 2 = .ok (.invokevirtual 40, 3) := by decide +kernel
theorem dX6_day_5 : decode cX6_day 5 = .ok (.iload_n 2, 1) := by decide +kernel
theorem dX6_day_6 : decode cX6_day 6 = .ok (.iconst 2, 1) := by decide +kernel
theorem dX6_day_7 : decode cX6_day 7 = .ok (.idiv, 1) := by decide +kernel
theorem dX6_day_8 : decode cX6_day 8 = .ok (.bipush 61, 2) := by decide +kernel
theorem dX6_day_10 : decode cX6_day 10 = .ok (.imul, 1) := by decide +kernel
theorem dX6_day_11 : decode cX6_day 11 = .ok (.iadd, 1) := by decide +kernel
theorem dX6_day_12 : decode cX6_day 12 = .ok (.iload_n 2, 1) := by decide +kernel
theorem dX6_day_13 : decode cX6_day 13 = .ok (.iconst 2, 1) := by decide +kernel
theorem dX6_day_14 : decode cX6_day 14 = .ok (.irem, 1) := by decide +kernel
theorem dX6_day_15 : decode cX6_day 15 = .ok (.bipush 30, 2) := by decide +kernel
theorem dX6_day_17 : decode cX6_day 17 = .ok (.imul, 1) := by decide +kernel
theorem dX6_day_18 : decode cX6_day 18 = .ok (.iadd, 1) := by decide +kernel
theorem dX6_day_19 : decode cX6_day 19 = .ok (.iload_n 3, 1) := by decide +kernel
theorem dX6_day_20 : decode cX6_day 20 = .ok (.iadd, 1) := by decide +kernel
theorem dX6_day_21 : decode cX6_day 21 = .ok (.ireturn, 1) := by decide +kernel
theorem dX6_time_0 : decode cX6_time 0 = .ok (.aload_n 0, 1) := by decide +kernel
theorem dX6_time_1 : decode cX6_time 1 = .ok (.getfield 43, 3) := by decide +kernel
theorem dX6_time_4 : decode cX6_time 4 = .ok (.i2l, 1) := by decide +kernel
theorem dX6_time_5 : decode cX6_time 5 = .ok (.iload_n 1, 1) := by decide +kernel
theorem dX6_time_6 : decode cX6_time 6 = .ok (.i2l, 1) := by decide +kernel
theorem dX6_time_7 : decode cX6_time 7 = .ok (.aload_n 0, 1) := by decide +kernel
theorem dX6_time_8 : decode cX6_time 8 = .ok (.getfield 16, 3) := by decide +kernel
theorem dX6_time_11 : decode cX6_time 11 = .ok (.i2l, 1) := by decide +kernel
theorem dX6_time_12 : decode cX6_time 12 = .ok (.lmul, 1) := by decide +kernel
theorem dX6_time_13 : decode cX6_time 13 = .ok (.ladd, 1) := by decide +kernel
theorem dX6_time_14 : decode cX6_time 14 = .ok (.iload_n 2, 1) := by decide +kernel
theorem dX6_time_15 : decode cX6_time 15 = .ok (.ifCond .eq 12, 3) := by decide +kernel
theorem dX6_time_18 : decode cX6_time 18 = .ok (.aload_n 0, 1) := by decide +kernel
theorem dX6_time_19 : decode cX6_time 19 = .ok (.getfield 16, 3) := by decide +kernel
theorem dX6_time_22 : decode cX6_time 22 = .ok (.iconst 2, 1) := by decide +kernel
theorem dX6_time_23 : decode cX6_time 23 = .ok (.idiv, 1) := by decide +kernel
theorem dX6_time_24 : decode cX6_time 24 = .ok (.goto 4, 3) := by decide +kernel
theorem dX6_time_27 : decode cX6_time 27 = .ok (.iconst 0, 1) := by decide +kernel
theorem dX6_time_28 : decode cX6_time 28 = .ok (.i2l, 1) := by decide +kernel
theorem dX6_time_29 : decode cX6_time 29 = .ok (.ladd, 1) := by decide +kernel
theorem dX6_time_30 : decode cX6_time 30 = .ok (.lreturn, 1) := by decide +kernel
set_option maxRecDepth 20000 in
theorem ggX6_moon_X6_time : GoodIn wsX6_moon wsX6_time := goodIn_r _ [6, 7, 8, 9, 10, 11, 12, 13, 14, 15, 16, 17, 18] (by decide +kernel) (by decide +kernel)
set_option maxRecDepth 20000 in
theorem gX6_moon_X6_time : GoodIn wsX6_moon (wsV RX6 46 RX6 yX6_time wsX6_time) := goodIn_app (goodIn_of _ (by decide +kernel)) ggX6_moon_X6_time
theorem dX6_moon_0 : decode cX6_moon 0 = .ok (.aload_n 0, 1) := by decide +kernel
theorem dX6_moon_1 : decode cX6_moon 1 = .ok (.iload_n 1, 1) := by decide +kernel
theorem dX6_moon_2 : decode cX6_moon 2 = .ok (.iload_n 2, 1) := by decide +kernel
theorem dX6_moon_3 : decode cX6_moon 3 = .ok (.invokevirtual 46, 3) := by decide +kernel
theorem dX6_moon_6 : decode cX6_moon 6 = .ok (.ldc2_w 50, 3) := by decide +kernel
theorem dX6_moon_9 : decode cX6_moon 9 = .ok (.ldiv, 1) := by decide +kernel
theorem dX6_moon_10 : decode cX6_moon 10 = .ok (.l2i, 1) := by decide +kernel
theorem dX6_moon_11 : decode cX6_moon 11 = .ok (.ireturn, 1) := by decide +kernel
theorem dX6_isEclipse_0 : decode cX6_isEclipse 0 = .ok (.lload_n 1, 1) := by decide +kernel
theorem dX6_isEclipse_1 : decode cX6_isEclipse 1 = .ok (.aload_n 0, 1) := by decide +kernel
theorem dX6_isEclipse_2 : decode cX6_isEclipse 2 = .ok (.getfield 56, 3) := by decide +kernel
theorem dX6_isEclipse_5 : decode cX6_isEclipse 5 = .ok (.i2l, 1) := by decide +kernel
theorem dX6_isEclipse_6 : decode cX6_isEclipse 6 = .ok (.lsub, 1) := by decide +kernel
theorem dX6_isEclipse_7 : decode cX6_isEclipse 7 = .ok (.aload_n 0, 1) := by decide +kernel
theorem dX6_isEclipse_8 : decode cX6_isEclipse 8 = .ok (.getfield 20, 3) := by decide +kernel
theorem dX6_isEclipse_11 : decode cX6_isEclipse 11 = .ok (.i2l, 1) := by decide +kernel
theorem dX6_isEclipse_12 : decode cX6_isEclipse 12 = .ok (.ldiv, 1) := by decide +kernel
theorem dX6_isEclipse_13 : decode cX6_isEclipse 13 = .ok (.lstore 4, 2) := by decide +kernel
theorem dX6_isEclipse_15 : decode cX6_isEclipse 15 = .ok (.lload 4, 2) := by decide +kernel
theorem dX6_isEclipse_17 : decode cX6_isEclipse 17 = .ok (.lconst 1, 1) := by decide +kernel
theorem dX6_isEclipse_18 : decode cX6_isEclipse 18 = .ok (.lsub, 1) := by decide +kernel
theorem dX6_isEclipse_19 : decode cX6_isEclipse 19 = .ok (.lstore 6, 2) := by decide +kernel
theorem dX6_isEclipse_21 : decode cX6_isEclipse 21 = .ok (.lload 6, 2) := by decide +kernel
theorem dX6_isEclipse_23 : decode cX6_isEclipse 23 = .ok (.lload 4, 2) := by decide +kernel
theorem dX6_isEclipse_25 : decode cX6_isEclipse 25 = .ok (.lconst 1, 1) := by decide +kernel
theorem dX6_isEclipse_26 : decode cX6_isEclipse 26 = .ok (.ladd, 1) := by decide +kernel
theorem dX6_isEclipse_27 : decode cX6_isEclipse 27 = .ok (.lcmp, 1) := by decide +kernel
theorem dX6_isEclipse_28 : decode cX6_isEclipse 28 = .ok (.ifCond .gt 56, 3) := by decide +kernel
theorem dX6_isEclipse_31 : decode cX6_isEclipse 31 = .ok (.lload_n 1, 1) := by decide +kernel
theorem dX6_isEclipse_32 : decode cX6_isEclipse 32 = .ok (.aload_n 0, 1) := by decide +kernel
theorem dX6_isEclipse_33 : decode cX6_isEclipse 33 = .ok (.getfield 56, 3) := by decide +kernel
theorem dX6_isEclipse_36 : decode cX6_isEclipse 36 = .ok (.i2l, 1) := by decide +kernel
theorem dX6_isEclipse_37 : decode cX6_isEclipse 37 = .ok (.lload 6, 2) := by decide +kernel
theorem dX6_isEclipse_39 : decode cX6_isEclipse 39 = .ok (.aload_n 0, 1) := by decide +kernel
theorem dX6_isEclipse_40 : decode cX6_isEclipse 40 = .ok (.getfield 20, 3) := by decide +kernel
theorem dX6_isEclipse_43 : decode cX6_isEclipse 43 = .ok (.i2l, 1) := by decide +kernel
theorem dX6_isEclipse_44 : decode cX6_isEclipse 44 = .ok (.lmul, 1) := by decide +kernel
theorem dX6_isEclipse_45 : decode cX6_isEclipse 45 = .ok (.ladd, 1) := by decide +kernel
theorem dX6_isEclipse_46 : decode cX6_isEclipse 46 = .ok (.lsub, 1) := by decide +kernel
theorem dX6_isEclipse_47 : decode cX6_isEclipse 47 = .ok (.lstore 8, 2) := by decide +kernel
theorem dX6_isEclipse_49 : decode cX6_isEclipse 49 = .ok (.lload 6, 2) := by decide +kernel
theorem dX6_isEclipse_51 : decode cX6_isEclipse 51 = .ok (.lconst 0, 1) := by decide +kernel
theorem dX6_isEclipse_52 : decode cX6_isEclipse 52 = .ok (.lcmp, 1) := by decide +kernel
theorem dX6_isEclipse_53 : decode cX6_isEclipse 53 = .ok (.ifCond .lt 22, 3) := by decide +kernel
theorem dX6_isEclipse_56 : decode cX6_isEclipse 56 = .ok (.lload 8, 2) := by decide +kernel
theorem dX6_isEclipse_58 : decode cX6_isEclipse 58 = .ok (.iload_n 3, 1) := by decide +kernel
theorem dX6_isEclipse_59 : decode cX6_isEclipse 59 = .ok (.i2l, 1) := by decide +kernel
theorem dX6_isEclipse_60 : decode cX6_isEclipse 60 = .ok (.lcmp, 1) := by decide +kernel
theorem dX6_isEclipse_61 : decode cX6_isEclipse 61 = .ok (.ifCond .gt 14, 3) := by decide +kernel
theorem dX6_isEclipse_64 : decode cX6_isEclipse 64 = .ok (.lload 8, 2) := by decide +kernel
theorem dX6_isEclipse_66 : decode cX6_isEclipse 66 = .ok (.lneg, 1) := by decide +kernel
theorem dX6_isEclipse_67 : decode cX6_isEclipse 67 = .ok (.iload_n 3, 1) := by decide +kernel
theorem dX6_isEclipse_68 : decode cX6_isEclipse 68 = .ok (.i2l, 1) := by decide +kernel
theorem dX6_isEclipse_69 : decode cX6_isEclipse 69 = .ok (.lcmp, 1) := by decide +kernel
theorem dX6_isEclipse_70 : decode cX6_isEclipse 70 = .ok (.ifCond .gt 5, 3) := by decide +kernel
theorem dX6_isEclipse_73 : decode cX6_isEclipse 73 = .ok (.iconst 1, 1) := by decide +kernel
theorem dX6_isEclipse_74 : decode cX6_isEclipse 74 = .ok (.ireturn, 1) := by decide +kernel
theorem dX6_isEclipse_75 : decode cX6_isEclipse 75 = .ok (.lload 6, 2) := by decide +kernel
theorem dX6_isEclipse_77 : decode cX6_isEclipse 77 = .ok (.lconst 1, 1) := by decide +kernel
theorem dX6_isEclipse_78 : decode cX6_isEclipse 78 = .ok (.ladd, 1) := by decide +kernel
theorem dX6_isEclipse_79 : decode cX6_isEclipse 79 = .ok (.lstore 6, 2) := by decide +kernel
theorem dX6_isEclipse_81 : decode cX6_isEclipse 81 = .ok (.goto (-60), 3) := by decide +kernel
theorem dX6_isEclipse_84 : decode cX6_isEclipse 84 = .ok (.iconst 0, 1) := by decide +kernel
theorem dX6_isEclipse_85 : decode cX6_isEclipse 85 = .ok (.ireturn, 1) := by decide +kernel
set_option maxRecDepth 20000 in
theorem ggX6_isEclipse__X6_time : GoodIn wsX6_isEclipse_ wsX6_time := goodIn_r _ [5, 6, 7, 14, 15, 16, 17, 18, 19, 20, 21, 22, 23] (by decide +kernel) (by decide +kernel)
set_option maxRecDepth 20000 in
theorem gX6_isEclipse__X6_time : GoodIn wsX6_isEclipse_ (wsV RX6 46 RX6 yX6_time wsX6_time) := goodIn_app (goodIn_of _ (by decide +kernel)) ggX6_isEclipse__X6_time
set_option maxRecDepth 20000 in
theorem ggX6_isEclipse__X6_isEclipse : GoodIn wsX6_isEclipse_ wsX6_isEclipse := goodIn_r _ [11, 12, 13, 14, 15, 16, 17, 18, 19, 20, 21, 22, 23] (by decide +kernel) (by decide +kernel)
set_option maxRecDepth 20000 in
theorem gX6_isEclipse__X6_isEclipse : GoodIn wsX6_isEclipse_ (wsV RX6 59 RX6 yX6_isEclipse wsX6_isEclipse) := goodIn_app (goodIn_of _ (by decide +kernel)) ggX6_isEclipse__X6_isEclipse
theorem dX6_isEclipse__0 : decode cX6_isEclipse_ 0 = .ok (.aload_n 0, 1) := by decide +kernel
theorem dX6_isEclipse__1 : decode cX6_isEclipse_ 1 = .ok (.aload_n 0, 1) := by decide +kernel
theorem dX6_isEclipse__2 : decode cX6_isEclipse_ 2 = .ok (.iload_n 1, 1) := by decide +kernel
theorem dX6_isEclipse__3 : decode cX6_isEclipse_ 3 = .ok (.iload_n 2, 1) := by decide +kernel
theorem dX6_isEclipse__4 : decode cX6_isEclipse_ 4 = .ok (.invokevirtual 46, 3) := by decide +kernel
theorem dX6_isEclipse__7 : decode cX6_isEclipse_ 7 = .ok (.iload_n 2, 1) := by decide +kernel
theorem dX6_isEclipse__8 : decode cX6_isEclipse_ 8 = .ok (.ifCond .eq 9, 3) := by decide +kernel
theorem dX6_isEclipse__11 : decode cX6_isEclipse_ 11 = .ok (.sipush 11000, 3) := by decide +kernel
theorem dX6_isEclipse__14 : decode cX6_isEclipse_ 14 = .ok (.goto 6, 3) := by decide +kernel
theorem dX6_isEclipse__17 : decode cX6_isEclipse_ 17 = .ok (.sipush 15000, 3) := by decide +kernel
theorem dX6_isEclipse__20 : decode cX6_isEclipse_ 20 = .ok (.invokevirtual 59, 3) := by decide +kernel
theorem dX6_isEclipse__23 : decode cX6_isEclipse_ 23 = .ok (.ireturn, 1) := by decide +kernel
set_option maxRecDepth 20000 in
theorem ggX6_eclipses_X6_begins : GoodIn wsX6_eclipses wsX6_begins := goodIn_r _ [10, 11, 12, 13, 9, 14, 15, 16, 17, 18, 19, 20, 41, 42, 43, 44, 45, 46, 47, 48, 49, 50] (by decide +kernel) (by decide +kernel)
set_option maxRecDepth 20000 in
theorem gX6_eclipses_X6_begins : GoodIn wsX6_eclipses (wsV RX6 40 RX6 yX6_begins wsX6_begins) := goodIn_app (goodIn_of _ (by decide +kernel)) ggX6_eclipses_X6_begins
set_option maxRecDepth 20000 in
theorem ggX6_eclipses_X6_yearDays : GoodIn wsX6_eclipses wsX6_yearDays := goodIn_r _ [14, 15, 16, 17, 9, 18, 19, 20, 41, 42, 43, 44, 45, 46, 47, 48, 49, 50] (by decide +kernel) (by decide +kernel)
set_option maxRecDepth 20000 in
theorem gX6_eclipses_X6_yearDays : GoodIn wsX6_eclipses (wsV RX6 36 RX6 yX6_yearDays wsX6_yearDays) := goodIn_app (goodIn_of _ (by decide +kernel)) ggX6_eclipses_X6_yearDays
set_option maxRecDepth 20000 in
theorem ggX6_eclipses_X6_moon : GoodIn wsX6_eclipses wsX6_moon := goodIn_r _ [24, 25, 26, 27, 28, 9, 29, 30, 1, 41, 42, 43, 44, 45, 46, 47, 48, 49, 50] (by decide +kernel) (by decide +kernel)
set_option maxRecDepth 20000 in
theorem gX6_eclipses_X6_moon : GoodIn wsX6_eclipses (wsV RX6 52 RX6 yX6_moon wsX6_moon) := goodIn_app (goodIn_of _ (by decide +kernel)) ggX6_eclipses_X6_moon
set_option maxRecDepth 20000 in
theorem ggX6_eclipses_X6_isEclipse_ : GoodIn wsX6_eclipses wsX6_isEclipse_ := goodIn_r _ [34, 26, 27, 28, 9, 29, 30, 1, 35, 36, 37, 38, 39, 40, 41, 42, 43, 44, 45, 46, 47, 48, 49, 50] (by decide +kernel) (by decide +kernel)
set_option maxRecDepth 20000 in
theorem gX6_eclipses_X6_isEclipse_ : GoodIn wsX6_eclipses (wsV RX6 69 RX6 yX6_isEclipse_ wsX6_isEclipse_) := goodIn_app (goodIn_of _ (by decide +kernel)) ggX6_eclipses_X6_isEclipse_
theorem dX6_eclipses_0 : decode cX6_eclipses 0 = .ok (.aload_n 0, 1) := by decide +kernel
theorem dX6_eclipses_1 : decode cX6_eclipses 1 = .ok (.iload_n 1, 1) := by decide +kernel
theorem dX6_eclipses_2 : decode cX6_eclipses 2 = .ok (.invokevirtual 40, 3) := by decide +kernel
theorem dX6_eclipses_5 : decode cX6_eclipses 5 = .ok (.istore_n 3, 1) := by decide +kernel
theorem dX6_eclipses_6 : decode cX6_eclipses 6 = .ok (.iload_n 3, 1) := by decide +kernel
theorem dX6_eclipses_7 : decode cX6_eclipses 7 = .ok (.aload_n 0, 1) := by decide +kernel
theorem dX6_eclipses_8 : decode cX6_eclipses 8 = .ok (.iload_n 1, 1) := by decide +kernel
theorem dX6_eclipses_9 : decode cX6_eclipses 9 = .ok (.invokevirtual 36, 3) := by decide +kernel
theorem dX6_eclipses_12 : decode cX6_eclipses 12 = .ok (.iadd, 1) := by decide +kernel
theorem dX6_eclipses_13 : decode cX6_eclipses 13 = .ok (.istore 4, 2) := by decide +kernel
theorem dX6_eclipses_15 : decode cX6_eclipses 15 = .ok (.iconst 0, 1) := by decide +kernel
theorem dX6_eclipses_16 : decode cX6_eclipses 16 = .ok (.iload_n 3, 1) := by decide +kernel
theorem dX6_eclipses_17 : decode cX6_eclipses 17 = .ok (.sipush 1000, 3) := by decide +kernel
theorem dX6_eclipses_20 : decode cX6_eclipses 20 = .ok (.imul, 1) := by decide +kernel
theorem dX6_eclipses_21 : decode cX6_eclipses 21 = .ok (.aload_n 0, 1) := by decide +kernel
theorem dX6_eclipses_22 : decode cX6_eclipses 22 = .ok (.getfield 16, 3) := by decide +kernel
theorem dX6_eclipses_25 : decode cX6_eclipses 25 = .ok (.idiv, 1) := by decide +kernel
theorem dX6_eclipses_26 : decode cX6_eclipses 26 = .ok (.iconst 3, 1) := by decide +kernel
theorem dX6_eclipses_27 : decode cX6_eclipses 27 = .ok (.isub, 1) := by decide +kernel
theorem dX6_eclipses_28 : decode cX6_eclipses 28 = .ok (.invokestatic 63, 3) := by decide +kernel
theorem dX6_eclipses_31 : decode cX6_eclipses 31 = .ok (.istore 5, 2) := by decide +kernel
theorem dX6_eclipses_33 : decode cX6_eclipses 33 = .ok (.iconst 0, 1) := by decide +kernel
theorem dX6_eclipses_34 : decode cX6_eclipses 34 = .ok (.istore 6, 2) := by decide +kernel
theorem dX6_eclipses_36 : decode cX6_eclipses 36 = .ok (.iconst 0, 1) := by decide +kernel
theorem dX6_eclipses_37 : decode cX6_eclipses 37 = .ok (.istore 7, 2) := by decide +kernel
theorem dX6_eclipses_39 : decode cX6_eclipses 39 = .ok (.iload 7, 2) := by decide +kernel
theorem dX6_eclipses_41 : decode cX6_eclipses 41 = .ok (.bipush 25, 2) := by decide +kernel
theorem dX6_eclipses_43 : decode cX6_eclipses 43 = .ok (.if_icmp .ge 66, 3) := by decide +kernel
theorem dX6_eclipses_46 : decode cX6_eclipses 46 = .ok (.aload_n 0, 1) := by decide +kernel
theorem dX6_eclipses_47 : decode cX6_eclipses 47 = .ok (.iload 5, 2) := by decide +kernel
theorem dX6_eclipses_49 : decode cX6_eclipses 49 = .ok (.iload 7, 2) := by decide +kernel
theorem dX6_eclipses_51 : decode cX6_eclipses 51 = .ok (.iadd, 1) := by decide +kernel
theorem dX6_eclipses_52 : decode cX6_eclipses 52 = .ok (.iload_n 2, 1) := by decide +kernel
theorem dX6_eclipses_53 : decode cX6_eclipses 53 = .ok (.ifCond .ne 7, 3) := by decide +kernel
theorem dX6_eclipses_56 : decode cX6_eclipses 56 = .ok (.iconst 1, 1) := by decide +kernel
theorem dX6_eclipses_57 : decode cX6_eclipses 57 = .ok (.goto 4, 3) := by decide +kernel
theorem dX6_eclipses_60 : decode cX6_eclipses 60 = .ok (.iconst 0, 1) := by decide +kernel
theorem dX6_eclipses_61 : decode cX6_eclipses 61 = .ok (.invokevirtual 52, 3) := by decide +kernel
theorem dX6_eclipses_64 : decode cX6_eclipses 64 = .ok (.istore 8, 2) := by decide +kernel
theorem dX6_eclipses_66 : decode cX6_eclipses 66 = .ok (.iload 8, 2) := by decide +kernel
theorem dX6_eclipses_68 : decode cX6_eclipses 68 = .ok (.iload_n 3, 1) := by decide +kernel
theorem dX6_eclipses_69 : decode cX6_eclipses 69 = .ok (.if_icmp .lt 34, 3) := by decide +kernel
theorem dX6_eclipses_72 : decode cX6_eclipses 72 = .ok (.iload 8, 2) := by decide +kernel
theorem dX6_eclipses_74 : decode cX6_eclipses 74 = .ok (.iload 4, 2) := by decide +kernel
theorem dX6_eclipses_76 : decode cX6_eclipses 76 = .ok (.if_icmp .ge 27, 3) := by decide +kernel
theorem dX6_eclipses_79 : decode cX6_eclipses 79 = .ok (.aload_n 0, 1) := by decide +kernel
theorem dX6_eclipses_80 : decode cX6_eclipses 80 = .ok (.iload 5, 2) := by decide +kernel
theorem dX6_eclipses_82 : decode cX6_eclipses 82 = .ok (.iload 7, 2) := by decide +kernel
theorem dX6_eclipses_84 : decode cX6_eclipses 84 = .ok (.iadd, 1) := by decide +kernel
theorem dX6_eclipses_85 : decode cX6_eclipses 85 = .ok (.iload_n 2, 1) := by decide +kernel
theorem dX6_eclipses_86 : decode cX6_eclipses 86 = .ok (.ifCond .ne 7, 3) := by decide +kernel
theorem dX6_eclipses_89 : decode cX6_eclipses 89 = .ok (.iconst 1, 1) := by decide +kernel
theorem dX6_eclipses_90 : decode cX6_eclipses 90 = .ok (.goto 4, 3) := by decide +kernel
theorem dX6_eclipses_93 : decode cX6_eclipses 93 = .ok (.iconst 0, 1) := by decide +kernel
theorem dX6_eclipses_94 : decode cX6_eclipses 94 = .ok (.invokevirtual 69, 3) := by decide +kernel
theorem dX6_eclipses_97 : decode cX6_eclipses 97 = .ok (.ifCond .eq 6, 3) := by decide +kernel
theorem dX6_eclipses_100 : decode cX6_eclipses 100 = .ok (.iinc 6 1, 3) := by decide +kernel
theorem dX6_eclipses_103 : decode cX6_eclipses 103 = .ok (.iinc 7 1, 3) := by decide +kernel
theorem dX6_eclipses_106 : decode cX6_eclipses 106 = .ok (.goto (-67), 3) := by decide +kernel
theorem dX6_eclipses_109 : decode cX6_eclipses 109 = .ok (.iload 6, 2) := by decide +kernel
theorem dX6_eclipses_111 : decode cX6_eclipses 111 = .ok (.ireturn, 1) := by decide +kernel
set_option maxRecDepth 20000 in
theorem ggX6_observe_X6_moon : GoodIn wsX6_observe wsX6_moon := goodIn_r _ [17, 18, 19, 20, 21, 16, 22, 11, 1, 23, 24, 25, 26, 27, 28, 29, 30, 31, 32] (by decide +kernel) (by decide +kernel)
set_option maxRecDepth 20000 in
theorem gX6_observe_X6_moon : GoodIn wsX6_observe (wsV RX6 52 RX6 yX6_moon wsX6_moon) := goodIn_app (goodIn_of _ (by decide +kernel)) ggX6_observe_X6_moon
theorem dX6_observe_0 : decode cX6_observe 0 = .ok (.iconst 0, 1) := by decide +kernel
theorem dX6_observe_1 : decode cX6_observe 1 = .ok (.istore_n 3, 1) := by decide +kernel
theorem dX6_observe_2 : decode cX6_observe 2 = .ok (.iconst 0, 1) := by decide +kernel
theorem dX6_observe_3 : decode cX6_observe 3 = .ok (.iload_n 1, 1) := by decide +kernel
theorem dX6_observe_4 : decode cX6_observe 4 = .ok (.sipush 1000, 3) := by decide +kernel
theorem dX6_observe_7 : decode cX6_observe 7 = .ok (.imul, 1) := by decide +kernel
theorem dX6_observe_8 : decode cX6_observe 8 = .ok (.aload_n 0, 1) := by decide +kernel
theorem dX6_observe_9 : decode cX6_observe 9 = .ok (.getfield 16, 3) := by decide +kernel
theorem dX6_observe_12 : decode cX6_observe 12 = .ok (.idiv, 1) := by decide +kernel
theorem dX6_observe_13 : decode cX6_observe 13 = .ok (.iconst 3, 1) := by decide +kernel
theorem dX6_observe_14 : decode cX6_observe 14 = .ok (.isub, 1) := by decide +kernel
theorem dX6_observe_15 : decode cX6_observe 15 = .ok (.invokestatic 63, 3) := by decide +kernel
theorem dX6_observe_18 : decode cX6_observe 18 = .ok (.istore 4, 2) := by decide +kernel
theorem dX6_observe_20 : decode cX6_observe 20 = .ok (.iload 4, 2) := by decide +kernel
theorem dX6_observe_22 : decode cX6_observe 22 = .ok (.bipush 8, 2) := by decide +kernel
theorem dX6_observe_24 : decode cX6_observe 24 = .ok (.iadd, 1) := by decide +kernel
theorem dX6_observe_25 : decode cX6_observe 25 = .ok (.istore 5, 2) := by decide +kernel
theorem dX6_observe_27 : decode cX6_observe 27 = .ok (.iload 5, 2) := by decide +kernel
theorem dX6_observe_29 : decode cX6_observe 29 = .ok (.ifCond .lt 61, 3) := by decide +kernel
theorem dX6_observe_32 : decode cX6_observe 32 = .ok (.iload 5, 2) := by decide +kernel
theorem dX6_observe_34 : decode cX6_observe 34 = .ok (.iload 4, 2) := by decide +kernel
theorem dX6_observe_36 : decode cX6_observe 36 = .ok (.iconst 1, 1) := by decide +kernel
theorem dX6_observe_37 : decode cX6_observe 37 = .ok (.isub, 1) := by decide +kernel
theorem dX6_observe_38 : decode cX6_observe 38 = .ok (.if_icmp .lt 52, 3) := by decide +kernel
theorem dX6_observe_41 : decode cX6_observe 41 = .ok (.aload_n 0, 1) := by decide +kernel
theorem dX6_observe_42 : decode cX6_observe 42 = .ok (.iload 5, 2) := by decide +kernel
theorem dX6_observe_44 : decode cX6_observe 44 = .ok (.iload_n 2, 1) := by decide +kernel
theorem dX6_observe_45 : decode cX6_observe 45 = .ok (.invokevirtual 52, 3) := by decide +kernel
theorem dX6_observe_48 : decode cX6_observe 48 = .ok (.iload_n 1, 1) := by decide +kernel
theorem dX6_observe_49 : decode cX6_observe 49 = .ok (.isub, 1) := by decide +kernel
theorem dX6_observe_50 : decode cX6_observe 50 = .ok (.invokestatic 72, 3) := by decide +kernel
theorem dX6_observe_53 : decode cX6_observe 53 = .ok (.istore 6, 2) := by decide +kernel
theorem dX6_observe_55 : decode cX6_observe 55 = .ok (.iload 5, 2) := by decide +kernel
theorem dX6_observe_57 : decode cX6_observe 57 = .ok (.iload 4, 2) := by decide +kernel
theorem dX6_observe_59 : decode cX6_observe 59 = .ok (.bipush 8, 2) := by decide +kernel
theorem dX6_observe_61 : decode cX6_observe 61 = .ok (.iadd, 1) := by decide +kernel
theorem dX6_observe_62 : decode cX6_observe 62 = .ok (.if_icmp .eq 19, 3) := by decide +kernel
theorem dX6_observe_65 : decode cX6_observe 65 = .ok (.iload 6, 2) := by decide +kernel
theorem dX6_observe_67 : decode cX6_observe 67 = .ok (.aload_n 0, 1) := by decide +kernel
theorem dX6_observe_68 : decode cX6_observe 68 = .ok (.iload_n 3, 1) := by decide +kernel
theorem dX6_observe_69 : decode cX6_observe 69 = .ok (.iload_n 2, 1) := by decide +kernel
theorem dX6_observe_70 : decode cX6_observe 70 = .ok (.invokevirtual 52, 3) := by decide +kernel
theorem dX6_observe_73 : decode cX6_observe 73 = .ok (.iload_n 1, 1) := by decide +kernel
theorem dX6_observe_74 : decode cX6_observe 74 = .ok (.isub, 1) := by decide +kernel
theorem dX6_observe_75 : decode cX6_observe 75 = .ok (.invokestatic 72, 3) := by decide +kernel
theorem dX6_observe_78 : decode cX6_observe 78 = .ok (.if_icmp .gt 6, 3) := by decide +kernel
theorem dX6_observe_81 : decode cX6_observe 81 = .ok (.iload 5, 2) := by decide +kernel
theorem dX6_observe_83 : decode cX6_observe 83 = .ok (.istore_n 3, 1) := by decide +kernel
theorem dX6_observe_84 : decode cX6_observe 84 = .ok (.iinc 5 (-1), 3) := by decide +kernel
theorem dX6_observe_87 : decode cX6_observe 87 = .ok (.goto (-60), 3) := by decide +kernel
theorem dX6_observe_90 : decode cX6_observe 90 = .ok (.iload_n 1, 1) := by decide +kernel
theorem dX6_observe_91 : decode cX6_observe 91 = .ok (.aload_n 0, 1) := by decide +kernel
theorem dX6_observe_92 : decode cX6_observe 92 = .ok (.iload_n 3, 1) := by decide +kernel
theorem dX6_observe_93 : decode cX6_observe 93 = .ok (.iload_n 2, 1) := by decide +kernel
theorem dX6_observe_94 : decode cX6_observe 94 = .ok (.invokevirtual 52, 3) := by decide +kernel
theorem dX6_observe_97 : decode cX6_observe 97 = .ok (.isub, 1) := by decide +kernel
theorem dX6_observe_98 : decode cX6_observe 98 = .ok (.istore 5, 2) := by decide +kernel
theorem dX6_observe_100 : decode cX6_observe 100 = .ok (.aload_n 0, 1) := by decide +kernel
theorem dX6_observe_101 : decode cX6_observe 101 = .ok (.dup, 1) := by decide +kernel
theorem dX6_observe_102 : decode cX6_observe 102 = .ok (.getfield 75, 3) := by decide +kernel
theorem dX6_observe_105 : decode cX6_observe 105 = .ok (.iconst 1, 1) := by decide +kernel
theorem dX6_observe_106 : decode cX6_observe 106 = .ok (.iadd, 1) := by decide +kernel
theorem dX6_observe_107 : decode cX6_observe 107 = .ok (.putfield 75, 3) := by decide +kernel
theorem dX6_observe_110 : decode cX6_observe 110 = .ok (.iload 5, 2) := by decide +kernel
theorem dX6_observe_112 : decode cX6_observe 112 = .ok (.ifCond .eq 11, 3) := by decide +kernel
theorem dX6_observe_115 : decode cX6_observe 115 = .ok (.iload_n 3, 1) := by decide +kernel
theorem dX6_observe_116 : decode cX6_observe 116 = .ok (.ifCond .ne 10, 3) := by decide +kernel
theorem dX6_observe_119 : decode cX6_observe 119 = .ok (.iload_n 2, 1) := by decide +kernel
theorem dX6_observe_120 : decode cX6_observe 120 = .ok (.ifCond .ne 6, 3) := by decide +kernel
theorem dX6_observe_123 : decode cX6_observe 123 = .ok (.iload 5, 2) := by decide +kernel
theorem dX6_observe_125 : decode cX6_observe 125 = .ok (.ireturn, 1) := by decide +kernel
theorem dX6_observe_126 : decode cX6_observe 126 = .ok (.aload_n 0, 1) := by decide +kernel
theorem dX6_observe_127 : decode cX6_observe 127 = .ok (.dup, 1) := by decide +kernel
theorem dX6_observe_128 : decode cX6_observe 128 = .ok (.getfield 78, 3) := by decide +kernel
theorem dX6_observe_131 : decode cX6_observe 131 = .ok (.iconst 1, 1) := by decide +kernel
theorem dX6_observe_132 : decode cX6_observe 132 = .ok (.iadd, 1) := by decide +kernel
theorem dX6_observe_133 : decode cX6_observe 133 = .ok (.putfield 78, 3) := by decide +kernel
theorem dX6_observe_136 : decode cX6_observe 136 = .ok (.sipush 1000, 3) := by decide +kernel
theorem dX6_observe_139 : decode cX6_observe 139 = .ok (.iload_n 1, 1) := by decide +kernel
theorem dX6_observe_140 : decode cX6_observe 140 = .ok (.imul, 1) := by decide +kernel
theorem dX6_observe_141 : decode cX6_observe 141 = .ok (.sipush 500, 3) := by decide +kernel
theorem dX6_observe_144 : decode cX6_observe 144 = .ok (.iadd, 1) := by decide +kernel
theorem dX6_observe_145 : decode cX6_observe 145 = .ok (.aload_n 0, 1) := by decide +kernel
theorem dX6_observe_146 : decode cX6_observe 146 = .ok (.getfield 43, 3) := by decide +kernel
theorem dX6_observe_149 : decode cX6_observe 149 = .ok (.isub, 1) := by decide +kernel
theorem dX6_observe_150 : decode cX6_observe 150 = .ok (.istore 6, 2) := by decide +kernel
theorem dX6_observe_152 : decode cX6_observe 152 = .ok (.iload_n 2, 1) := by decide +kernel
theorem dX6_observe_153 : decode cX6_observe 153 = .ok (.ifCond .eq 16, 3) := by decide +kernel
theorem dX6_observe_156 : decode cX6_observe 156 = .ok (.iconst 2, 1) := by decide +kernel
theorem dX6_observe_157 : decode cX6_observe 157 = .ok (.iload 6, 2) := by decide +kernel
theorem dX6_observe_159 : decode cX6_observe 159 = .ok (.imul, 1) := by decide +kernel
theorem dX6_observe_160 : decode cX6_observe 160 = .ok (.iconst 2, 1) := by decide +kernel
theorem dX6_observe_161 : decode cX6_observe 161 = .ok (.iload_n 3, 1) := by decide +kernel
theorem dX6_observe_162 : decode cX6_observe 162 = .ok (.imul, 1) := by decide +kernel
theorem dX6_observe_163 : decode cX6_observe 163 = .ok (.iconst 1, 1) := by decide +kernel
theorem dX6_observe_164 : decode cX6_observe 164 = .ok (.iadd, 1) := by decide +kernel
theorem dX6_observe_165 : decode cX6_observe 165 = .ok (.idiv, 1) := by decide +kernel
theorem dX6_observe_166 : decode cX6_observe 166 = .ok (.goto 7, 3) := by decide +kernel
theorem dX6_observe_169 : decode cX6_observe 169 = .ok (.iload 6, 2) := by decide +kernel
theorem dX6_observe_171 : decode cX6_observe 171 = .ok (.iload_n 3, 1) := by decide +kernel
theorem dX6_observe_172 : decode cX6_observe 172 = .ok (.idiv, 1) := by decide +kernel
theorem dX6_observe_173 : decode cX6_observe 173 = .ok (.istore 7, 2) := by decide +kernel
theorem dX6_observe_175 : decode cX6_observe 175 = .ok (.aload_n 0, 1) := by decide +kernel
theorem dX6_observe_176 : decode cX6_observe 176 = .ok (.iload 7, 2) := by decide +kernel
theorem dX6_observe_178 : decode cX6_observe 178 = .ok (.sipush 20000, 3) := by decide +kernel
theorem dX6_observe_181 : decode cX6_observe 181 = .ok (.if_icmp .ge 9, 3) := by decide +kernel
theorem dX6_observe_184 : decode cX6_observe 184 = .ok (.sipush 20000, 3) := by decide +kernel
theorem dX6_observe_187 : decode cX6_observe 187 = .ok (.goto 17, 3) := by decide +kernel
theorem dX6_observe_190 : decode cX6_observe 190 = .ok (.iload 7, 2) := by decide +kernel
theorem dX6_observe_192 : decode cX6_observe 192 = .ok (.ldc 81, 2) := by decide +kernel
theorem dX6_observe_194 : decode cX6_observe 194 = .ok (.if_icmp .le 8, 3) := by decide +kernel
theorem dX6_observe_197 : decode cX6_observe 197 = .ok (.ldc 81, 2) := by decide +kernel
theorem dX6_observe_199 : decode cX6_observe 199 = .ok (.goto 5, 3) := by decide +kernel
theorem dX6_observe_202 : decode cX6_observe 202 = .ok (.iload 7, 2) := by decide +kernel
theorem dX6_observe_204 : decode cX6_observe 204 = .ok (.putfield 16, 3) := by decide +kernel
theorem dX6_observe_207 : decode cX6_observe 207 = .ok (.iload 5, 2) := by decide +kernel
theorem dX6_observe_209 : decode cX6_observe 209 = .ok (.ireturn, 1) := by decide +kernel
set_option maxRecDepth 20000 in
theorem ggX6_feast_X6_day : GoodIn wsX6_feast wsX6_day := goodIn_r _ [11, 12, 13, 14, 10, 15, 16, 17, 18, 19, 20, 21, 22, 23, 24, 25, 36, 37, 38, 39, 40, 41, 42, 43, 44, 45] (by decide +kernel) (by decide +kernel)
set_option maxRecDepth 20000 in
theorem gX6_feast_X6_day : GoodIn wsX6_feast (wsV RX6 82 RX6 yX6_day wsX6_day) := goodIn_app (goodIn_of _ (by decide +kernel)) ggX6_feast_X6_day
set_option maxRecDepth 20000 in
theorem ggX6_feast_X6_moon : GoodIn wsX6_feast wsX6_moon := goodIn_r _ [29, 30, 31, 32, 33, 10, 34, 35, 2, 36, 37, 38, 39, 40, 41, 42, 43, 44, 45] (by decide +kernel) (by decide +kernel)
set_option maxRecDepth 20000 in
theorem gX6_feast_X6_moon : GoodIn wsX6_feast (wsV RX6 52 RX6 yX6_moon wsX6_moon) := goodIn_app (goodIn_of _ (by decide +kernel)) ggX6_feast_X6_moon
theorem dX6_feast_0 : decode cX6_feast 0 = .ok (.aload_n 0, 1) := by decide +kernel
theorem dX6_feast_1 : decode cX6_feast 1 = .ok (.getfield 25, 3) := by decide +kernel
theorem dX6_feast_4 : decode cX6_feast 4 = .ok (.iload_n 1, 1) := by decide +kernel
theorem dX6_feast_5 : decode cX6_feast 5 = .ok (.aaload, 1) := by decide +kernel
theorem dX6_feast_6 : decode cX6_feast 6 = .ok (.astore_n 3, 1) := by decide +kernel
theorem dX6_feast_7 : decode cX6_feast 7 = .ok (.aload_n 0, 1) := by decide +kernel
theorem dX6_feast_8 : decode cX6_feast 8 = .ok (.iload_n 2, 1) := by decide +kernel
theorem dX6_feast_9 : decode cX6_feast 9 = .ok (.aload_n 3, 1) := by decide +kernel
theorem dX6_feast_10 : decode cX6_feast 10 = .ok (.iconst 0, 1) := by decide +kernel
theorem dX6_feast_11 : decode cX6_feast 11 = .ok (.iaload, 1) := by decide +kernel
theorem dX6_feast_12 : decode cX6_feast 12 = .ok (.aload_n 3, 1) := by decide +kernel
theorem dX6_feast_13 : decode cX6_feast 13 = .ok (.iconst 1, 1) := by decide +kernel
theorem dX6_feast_14 : decode cX6_feast 14 = .ok (.iaload, 1) := by decide +kernel
theorem dX6_feast_15 : decode cX6_feast 15 = .ok (.invokevirtual 82, 3) := by decide +kernel
theorem dX6_feast_18 : decode cX6_feast 18 = .ok (.istore 4, 2) := by decide +kernel
theorem dX6_feast_20 : decode cX6_feast 20 = .ok (.aload_n 3, 1) := by decide +kernel
theorem dX6_feast_21 : decode cX6_feast 21 = .ok (.iconst 2, 1) := by decide +kernel
theorem dX6_feast_22 : decode cX6_feast 22 = .ok (.iaload, 1) := by decide +kernel
theorem dX6_feast_23 : decode cX6_feast 23 = .ok (.ifCond .le 55, 3) := by decide +kernel
theorem dX6_feast_26 : decode cX6_feast 26 = .ok (.iconst 0, 1) := by decide +kernel
theorem dX6_feast_27 : decode cX6_feast 27 = .ok (.iload 4, 2) := by decide +kernel
theorem dX6_feast_29 : decode cX6_feast 29 = .ok (.sipush 1000, 3) := by decide +kernel
theorem dX6_feast_32 : decode cX6_feast 32 = .ok (.imul, 1) := by decide +kernel
theorem dX6_feast_33 : decode cX6_feast 33 = .ok (.aload_n 0, 1) := by decide +kernel
theorem dX6_feast_34 : decode cX6_feast 34 = .ok (.getfield 16, 3) := by decide +kernel
theorem dX6_feast_37 : decode cX6_feast 37 = .ok (.idiv, 1) := by decide +kernel
theorem dX6_feast_38 : decode cX6_feast 38 = .ok (.iconst 3, 1) := by decide +kernel
theorem dX6_feast_39 : decode cX6_feast 39 = .ok (.isub, 1) := by decide +kernel
theorem dX6_feast_40 : decode cX6_feast 40 = .ok (.invokestatic 63, 3) := by decide +kernel
theorem dX6_feast_43 : decode cX6_feast 43 = .ok (.istore 5, 2) := by decide +kernel
theorem dX6_feast_45 : decode cX6_feast 45 = .ok (.aload_n 0, 1) := by decide +kernel
theorem dX6_feast_46 : decode cX6_feast 46 = .ok (.iload 5, 2) := by decide +kernel
theorem dX6_feast_48 : decode cX6_feast 48 = .ok (.iconst 1, 1) := by decide +kernel
theorem dX6_feast_49 : decode cX6_feast 49 = .ok (.invokevirtual 52, 3) := by decide +kernel
theorem dX6_feast_52 : decode cX6_feast 52 = .ok (.iload 4, 2) := by decide +kernel
theorem dX6_feast_54 : decode cX6_feast 54 = .ok (.if_icmp .ge 9, 3) := by decide +kernel
theorem dX6_feast_57 : decode cX6_feast 57 = .ok (.iinc 5 1, 3) := by decide +kernel
theorem dX6_feast_60 : decode cX6_feast 60 = .ok (.goto (-15), 3) := by decide +kernel
theorem dX6_feast_63 : decode cX6_feast 63 = .ok (.aload_n 0, 1) := by decide +kernel
theorem dX6_feast_64 : decode cX6_feast 64 = .ok (.iload 5, 2) := by decide +kernel
theorem dX6_feast_66 : decode cX6_feast 66 = .ok (.aload_n 3, 1) := by decide +kernel
theorem dX6_feast_67 : decode cX6_feast 67 = .ok (.iconst 2, 1) := by decide +kernel
theorem dX6_feast_68 : decode cX6_feast 68 = .ok (.iaload, 1) := by decide +kernel
theorem dX6_feast_69 : decode cX6_feast 69 = .ok (.iadd, 1) := by decide +kernel
theorem dX6_feast_70 : decode cX6_feast 70 = .ok (.iconst 1, 1) := by decide +kernel
theorem dX6_feast_71 : decode cX6_feast 71 = .ok (.isub, 1) := by decide +kernel
theorem dX6_feast_72 : decode cX6_feast 72 = .ok (.iconst 1, 1) := by decide +kernel
theorem dX6_feast_73 : decode cX6_feast 73 = .ok (.invokevirtual 52, 3) := by decide +kernel
theorem dX6_feast_76 : decode cX6_feast 76 = .ok (.istore 4, 2) := by decide +kernel
theorem dX6_feast_78 : decode cX6_feast 78 = .ok (.aload_n 3, 1) := by decide +kernel
theorem dX6_feast_79 : decode cX6_feast 79 = .ok (.iconst 3, 1) := by decide +kernel
theorem dX6_feast_80 : decode cX6_feast 80 = .ok (.iaload, 1) := by decide +kernel
theorem dX6_feast_81 : decode cX6_feast 81 = .ok (.ifCond .lt 20, 3) := by decide +kernel
theorem dX6_feast_84 : decode cX6_feast 84 = .ok (.iload 4, 2) := by decide +kernel
theorem dX6_feast_86 : decode cX6_feast 86 = .ok (.bipush 7, 2) := by decide +kernel
theorem dX6_feast_88 : decode cX6_feast 88 = .ok (.irem, 1) := by decide +kernel
theorem dX6_feast_89 : decode cX6_feast 89 = .ok (.aload_n 3, 1) := by decide +kernel
theorem dX6_feast_90 : decode cX6_feast 90 = .ok (.iconst 3, 1) := by decide +kernel
theorem dX6_feast_91 : decode cX6_feast 91 = .ok (.iaload, 1) := by decide +kernel
theorem dX6_feast_92 : decode cX6_feast 92 = .ok (.if_icmp .eq 9, 3) := by decide +kernel
theorem dX6_feast_95 : decode cX6_feast 95 = .ok (.iinc 4 1, 3) := by decide +kernel
theorem dX6_feast_98 : decode cX6_feast 98 = .ok (.goto (-20), 3) := by decide +kernel
theorem dX6_feast_101 : decode cX6_feast 101 = .ok (.iload 4, 2) := by decide +kernel
theorem dX6_feast_103 : decode cX6_feast 103 = .ok (.aload_n 3, 1) := by decide +kernel
theorem dX6_feast_104 : decode cX6_feast 104 = .ok (.iconst 4, 1) := by decide +kernel
theorem dX6_feast_105 : decode cX6_feast 105 = .ok (.iaload, 1) := by decide +kernel
theorem dX6_feast_106 : decode cX6_feast 106 = .ok (.iadd, 1) := by decide +kernel
theorem dX6_feast_107 : decode cX6_feast 107 = .ok (.ireturn, 1) := by decide +kernel
set_option maxRecDepth 20000 in
theorem ggX6_sheet_X6_eclipses : GoodIn wsX6_sheet wsX6_eclipses := goodIn_r _ [7, 8, 9, 10, 11, 12, 13, 14, 15, 6, 16, 17, 18, 19, 20, 21, 22, 23, 24, 25, 26, 27, 28, 29, 30, 31, 32, 33, 34, 35, 36, 37, 38, 39, 40, 41, 42, 43, 44, 45, 46, 55, 56, 57, 58, 59, 60, 61, 62, 63, 64] (by decide +kernel) (by decide +kernel)
set_option maxRecDepth 20000 in
theorem gX6_sheet_X6_eclipses : GoodIn wsX6_sheet (wsV RX6 86 RX6 yX6_eclipses wsX6_eclipses) := goodIn_app (goodIn_of _ (by decide +kernel)) ggX6_sheet_X6_eclipses
set_option maxRecDepth 20000 in
theorem ggX6_sheet_X6_feast : GoodIn wsX6_sheet wsX6_feast := goodIn_r _ [50, 1, 8, 9, 10, 11, 12, 51, 52, 53, 6, 54, 13, 14, 15, 16, 17, 18, 19, 20, 21, 22, 23, 24, 25, 26, 27, 28, 29, 30, 31, 32, 33, 34, 35, 36, 55, 56, 57, 58, 59, 60, 61, 62, 63, 64] (by decide +kernel) (by decide +kernel)
set_option maxRecDepth 20000 in
theorem gX6_sheet_X6_feast : GoodIn wsX6_sheet (wsV RX6 89 RX6 yX6_feast wsX6_feast) := goodIn_app (goodIn_of _ (by decide +kernel)) ggX6_sheet_X6_feast
theorem dX6_sheet_0 : decode cX6_sheet 0 = .ok (.iconst 2, 1) := by decide +kernel
theorem dX6_sheet_1 : decode cX6_sheet 1 = .ok (.aload_n 0, 1) := by decide +kernel
theorem dX6_sheet_2 : decode cX6_sheet 2 = .ok (.getfield 25, 3) := by decide +kernel
theorem dX6_sheet_5 : decode cX6_sheet 5 = .ok (.arraylength, 1) := by decide +kernel
theorem dX6_sheet_6 : decode cX6_sheet 6 = .ok (.iadd, 1) := by decide +kernel
theorem dX6_sheet_7 : decode cX6_sheet 7 = .ok (.newarray .int, 2) := by decide +kernel
theorem dX6_sheet_9 : decode cX6_sheet 9 = .ok (.astore_n 2, 1) := by decide +kernel
theorem dX6_sheet_10 : decode cX6_sheet 10 = .ok (.aload_n 2, 1) := by decide +kernel
theorem dX6_sheet_11 : decode cX6_sheet 11 = .ok (.iconst 0, 1) := by decide +kernel
theorem dX6_sheet_12 : decode cX6_sheet 12 = .ok (.iload_n 1, 1) := by decide +kernel
theorem dX6_sheet_13 : decode cX6_sheet 13 = .ok (.iastore, 1) := by decide +kernel
theorem dX6_sheet_14 : decode cX6_sheet 14 = .ok (.aload_n 2, 1) := by decide +kernel
theorem dX6_sheet_15 : decode cX6_sheet 15 = .ok (.iconst 1, 1) := by decide +kernel
theorem dX6_sheet_16 : decode cX6_sheet 16 = .ok (.aload_n 0, 1) := by decide +kernel
theorem dX6_sheet_17 : decode cX6_sheet 17 = .ok (.iload_n 1, 1) := by decide +kernel
theorem dX6_sheet_18 : decode cX6_sheet 18 = .ok (.iconst 1, 1) := by decide +kernel
theorem dX6_sheet_19 : decode cX6_sheet 19 = .ok (.invokevirtual 86, 3) := by decide +kernel
theorem dX6_sheet_22 : decode cX6_sheet 22 = .ok (.aload_n 0, 1) := by decide +kernel
theorem dX6_sheet_23 : decode cX6_sheet 23 = .ok (.iload_n 1, 1) := by decide +kernel
theorem dX6_sheet_24 : decode cX6_sheet 24 = .ok (.iconst 0, 1) := by decide +kernel
theorem dX6_sheet_25 : decode cX6_sheet 25 = .ok (.invokevirtual 86, 3) := by decide +kernel
theorem dX6_sheet_28 : decode cX6_sheet 28 = .ok (.iadd, 1) := by decide +kernel
theorem dX6_sheet_29 : decode cX6_sheet 29 = .ok (.iastore, 1) := by decide +kernel
theorem dX6_sheet_30 : decode cX6_sheet 30 = .ok (.iconst 0, 1) := by decide +kernel
theorem dX6_sheet_31 : decode cX6_sheet 31 = .ok (.istore_n 3, 1) := by decide +kernel
theorem dX6_sheet_32 : decode cX6_sheet 32 = .ok (.iload_n 3, 1) := by decide +kernel
theorem dX6_sheet_33 : decode cX6_sheet 33 = .ok (.aload_n 0, 1) := by decide +kernel
theorem dX6_sheet_34 : decode cX6_sheet 34 = .ok (.getfield 25, 3) := by decide +kernel
theorem dX6_sheet_37 : decode cX6_sheet 37 = .ok (.arraylength, 1) := by decide +kernel
theorem dX6_sheet_38 : decode cX6_sheet 38 = .ok (.if_icmp .ge 20, 3) := by decide +kernel
theorem dX6_sheet_41 : decode cX6_sheet 41 = .ok (.aload_n 2, 1) := by decide +kernel
theorem dX6_sheet_42 : decode cX6_sheet 42 = .ok (.iconst 2, 1) := by decide +kernel
theorem dX6_sheet_43 : decode cX6_sheet 43 = .ok (.iload_n 3, 1) := by decide +kernel
theorem dX6_sheet_44 : decode cX6_sheet 44 = .ok (.iadd, 1) := by decide +kernel
theorem dX6_sheet_45 : decode cX6_sheet 45 = .ok (.aload_n 0, 1) := by decide +kernel
theorem dX6_sheet_46 : decode cX6_sheet 46 = .ok (.iload_n 3, 1) := by decide +kernel
theorem dX6_sheet_47 : decode cX6_sheet 47 = .ok (.iload_n 1, 1) := by decide +kernel
theorem dX6_sheet_48 : decode cX6_sheet 48 = .ok (.invokevirtual 89, 3) := by decide +kernel
theorem dX6_sheet_51 : decode cX6_sheet 51 = .ok (.iastore, 1) := by decide +kernel
theorem dX6_sheet_52 : decode cX6_sheet 52 = .ok (.iinc 3 1, 3) := by decide +kernel
theorem dX6_sheet_55 : decode cX6_sheet 55 = .ok (.goto (-23), 3) := by decide +kernel
theorem dX6_sheet_58 : decode cX6_sheet 58 = .ok (.aload_n 2, 1) := by decide +kernel
theorem dX6_sheet_59 : decode cX6_sheet 59 = .ok (.areturn, 1) := by decide +kernel
set_option maxRecDepth 20000 in
theorem ggX6_off_X6_feast : GoodIn wsX6_off wsX6_feast := goodIn_r _ [12, 13, 14, 5, 6, 3, 7, 15, 16, 17, 11, 18, 19, 20, 21, 22, 23, 24, 25, 26, 27, 28, 29, 30, 31, 32, 33, 34, 35, 36, 37, 38, 39, 40, 41, 42, 43, 44, 45, 46, 47, 48, 49, 50, 51, 52] (by decide +kernel) (by decide +kernel)
set_option maxRecDepth 20000 in
theorem gX6_off_X6_feast : GoodIn wsX6_off (wsV RX6 89 RX6 yX6_feast wsX6_feast) := goodIn_app (goodIn_of _ (by decide +kernel)) ggX6_off_X6_feast
theorem dX6_off_0 : decode cX6_off 0 = .ok (.iconst 0, 1) := by decide +kernel
theorem dX6_off_1 : decode cX6_off 1 = .ok (.istore_n 2, 1) := by decide +kernel
theorem dX6_off_2 : decode cX6_off 2 = .ok (.iconst 0, 1) := by decide +kernel
theorem dX6_off_3 : decode cX6_off 3 = .ok (.istore_n 3, 1) := by decide +kernel
theorem dX6_off_4 : decode cX6_off 4 = .ok (.iconst 2, 1) := by decide +kernel
theorem dX6_off_5 : decode cX6_off 5 = .ok (.istore 4, 2) := by decide +kernel
theorem dX6_off_7 : decode cX6_off 7 = .ok (.iload 4, 2) := by decide +kernel
theorem dX6_off_9 : decode cX6_off 9 = .ok (.aload_n 1, 1) := by decide +kernel
theorem dX6_off_10 : decode cX6_off 10 = .ok (.arraylength, 1) := by decide +kernel
theorem dX6_off_11 : decode cX6_off 11 = .ok (.if_icmp .ge 50, 3) := by decide +kernel
theorem dX6_off_14 : decode cX6_off 14 = .ok (.aload_n 1, 1) := by decide +kernel
theorem dX6_off_15 : decode cX6_off 15 = .ok (.iload 4, 2) := by decide +kernel
theorem dX6_off_17 : decode cX6_off 17 = .ok (.iaload, 1) := by decide +kernel
theorem dX6_off_18 : decode cX6_off 18 = .ok (.aload_n 0, 1) := by decide +kernel
theorem dX6_off_19 : decode cX6_off 19 = .ok (.iload 4, 2) := by decide +kernel
theorem dX6_off_21 : decode cX6_off 21 = .ok (.iconst 2, 1) := by decide +kernel
theorem dX6_off_22 : decode cX6_off 22 = .ok (.isub, 1) := by decide +kernel
theorem dX6_off_23 : decode cX6_off 23 = .ok (.aload_n 1, 1) := by decide +kernel
theorem dX6_off_24 : decode cX6_off 24 = .ok (.iconst 0, 1) := by decide +kernel
theorem dX6_off_25 : decode cX6_off 25 = .ok (.iaload, 1) := by decide +kernel
theorem dX6_off_26 : decode cX6_off 26 = .ok (.invokevirtual 89, 3) := by decide +kernel
theorem dX6_off_29 : decode cX6_off 29 = .ok (.isub, 1) := by decide +kernel
theorem dX6_off_30 : decode cX6_off 30 = .ok (.invokestatic 72, 3) := by decide +kernel
theorem dX6_off_33 : decode cX6_off 33 = .ok (.istore 5, 2) := by decide +kernel
theorem dX6_off_35 : decode cX6_off 35 = .ok (.iload_n 2, 1) := by decide +kernel
theorem dX6_off_36 : decode cX6_off 36 = .ok (.iload 5, 2) := by decide +kernel
theorem dX6_off_38 : decode cX6_off 38 = .ok (.ifCond .le 7, 3) := by decide +kernel
theorem dX6_off_41 : decode cX6_off 41 = .ok (.iconst 1, 1) := by decide +kernel
theorem dX6_off_42 : decode cX6_off 42 = .ok (.goto 4, 3) := by decide +kernel
theorem dX6_off_45 : decode cX6_off 45 = .ok (.iconst 0, 1) := by decide +kernel
theorem dX6_off_46 : decode cX6_off 46 = .ok (.iadd, 1) := by decide +kernel
theorem dX6_off_47 : decode cX6_off 47 = .ok (.istore_n 2, 1) := by decide +kernel
theorem dX6_off_48 : decode cX6_off 48 = .ok (.iload_n 3, 1) := by decide +kernel
theorem dX6_off_49 : decode cX6_off 49 = .ok (.iload 5, 2) := by decide +kernel
theorem dX6_off_51 : decode cX6_off 51 = .ok (.invokestatic 63, 3) := by decide +kernel
theorem dX6_off_54 : decode cX6_off 54 = .ok (.istore_n 3, 1) := by decide +kernel
theorem dX6_off_55 : decode cX6_off 55 = .ok (.iinc 4 1, 3) := by decide +kernel
theorem dX6_off_58 : decode cX6_off 58 = .ok (.goto (-51), 3) := by decide +kernel
theorem dX6_off_61 : decode cX6_off 61 = .ok (.iload_n 2, 1) := by decide +kernel
theorem dX6_off_62 : decode cX6_off 62 = .ok (.sipush 1000, 3) := by decide +kernel
theorem dX6_off_65 : decode cX6_off 65 = .ok (.iload_n 3, 1) := by decide +kernel
theorem dX6_off_66 : decode cX6_off 66 = .ok (.imul, 1) := by decide +kernel
theorem dX6_off_67 : decode cX6_off 67 = .ok (.iadd, 1) := by decide +kernel
theorem dX6_off_68 : decode cX6_off 68 = .ok (.ireturn, 1) := by decide +kernel
set_option maxRecDepth 20000 in
theorem ggX6_isWrong_X6_off : GoodIn wsX6_isWrong wsX6_off := goodIn_r _ [5, 6, 7, 8, 9, 10, 11, 12, 13, 14, 15, 4, 16, 17, 18, 19, 20, 21, 22, 23, 24, 25, 26, 27, 28, 29, 30, 31, 32, 33, 34, 35, 36, 37, 38, 39, 40, 41, 42, 43, 44, 45, 46, 61, 62, 63, 64, 65, 66, 67, 68, 69, 70] (by decide +kernel) (by decide +kernel)
set_option maxRecDepth 20000 in
theorem gX6_isWrong_X6_off : GoodIn wsX6_isWrong (wsV RX6 92 RX6 yX6_off wsX6_off) := goodIn_app (goodIn_of _ (by decide +kernel)) ggX6_isWrong_X6_off
set_option maxRecDepth 20000 in
theorem ggX6_isWrong_X6_eclipses : GoodIn wsX6_isWrong wsX6_eclipses := goodIn_r _ [50, 18, 10, 11, 8, 12, 23, 24, 25, 4, 26, 27, 28, 29, 30, 31, 32, 33, 34, 35, 36, 37, 38, 39, 40, 41, 42, 43, 44, 45, 46, 51, 52, 53, 54, 55, 56, 57, 58, 59, 60, 61, 62, 63, 64, 65, 66, 67, 68, 69, 70] (by decide +kernel) (by decide +kernel)
set_option maxRecDepth 20000 in
theorem gX6_isWrong_X6_eclipses : GoodIn wsX6_isWrong (wsV RX6 86 RX6 yX6_eclipses wsX6_eclipses) := goodIn_app (goodIn_of _ (by decide +kernel)) ggX6_isWrong_X6_eclipses
theorem dX6_isWrong_0 : decode cX6_isWrong 0 = .ok (.aload_n 0, 1) := by decide +kernel
theorem dX6_isWrong_1 : decode cX6_isWrong 1 = .ok (.aload_n 1, 1) := by decide +kernel
theorem dX6_isWrong_2 : decode cX6_isWrong 2 = .ok (.invokevirtual 92, 3) := by decide +kernel
theorem dX6_isWrong_5 : decode cX6_isWrong 5 = .ok (.ifCond .gt 26, 3) := by decide +kernel
theorem dX6_isWrong_8 : decode cX6_isWrong 8 = .ok (.aload_n 1, 1) := by decide +kernel
theorem dX6_isWrong_9 : decode cX6_isWrong 9 = .ok (.iconst 1, 1) := by decide +kernel
theorem dX6_isWrong_10 : decode cX6_isWrong 10 = .ok (.iaload, 1) := by decide +kernel
theorem dX6_isWrong_11 : decode cX6_isWrong 11 = .ok (.aload_n 0, 1) := by decide +kernel
theorem dX6_isWrong_12 : decode cX6_isWrong 12 = .ok (.aload_n 1, 1) := by decide +kernel
theorem dX6_isWrong_13 : decode cX6_isWrong 13 = .ok (.iconst 0, 1) := by decide +kernel
theorem dX6_isWrong_14 : decode cX6_isWrong 14 = .ok (.iaload, 1) := by decide +kernel
theorem dX6_isWrong_15 : decode cX6_isWrong 15 = .ok (.iconst 1, 1) := by decide +kernel
theorem dX6_isWrong_16 : decode cX6_isWrong 16 = .ok (.invokevirtual 86, 3) := by decide +kernel
theorem dX6_isWrong_19 : decode cX6_isWrong 19 = .ok (.aload_n 0, 1) := by decide +kernel
theorem dX6_isWrong_20 : decode cX6_isWrong 20 = .ok (.aload_n 1, 1) := by decide +kernel
theorem dX6_isWrong_21 : decode cX6_isWrong 21 = .ok (.iconst 0, 1) := by decide +kernel
theorem dX6_isWrong_22 : decode cX6_isWrong 22 = .ok (.iaload, 1) := by decide +kernel
theorem dX6_isWrong_23 : decode cX6_isWrong 23 = .ok (.iconst 0, 1) := by decide +kernel
theorem dX6_isWrong_24 : decode cX6_isWrong 24 = .ok (.invokevirtual 86, 3) := by decide +kernel
theorem dX6_isWrong_27 : decode cX6_isWrong 27 = .ok (.iadd, 1) := by decide +kernel
theorem dX6_isWrong_28 : decode cX6_isWrong 28 = .ok (.if_icmp .eq 7, 3) := by decide +kernel
theorem dX6_isWrong_31 : decode cX6_isWrong 31 = .ok (.iconst 1, 1) := by decide +kernel
theorem dX6_isWrong_32 : decode cX6_isWrong 32 = .ok (.goto 4, 3) := by decide +kernel
theorem dX6_isWrong_35 : decode cX6_isWrong 35 = .ok (.iconst 0, 1) := by decide +kernel
theorem dX6_isWrong_36 : decode cX6_isWrong 36 = .ok (.ireturn, 1) := by decide +kernel
set_option maxRecDepth 20000 in
theorem ggX6_isSame_X6_isWrong : GoodIn wsX6_isSame wsX6_isWrong := goodIn_r _ [17, 18, 19, 20, 16, 21, 22, 23, 24, 25, 26, 27, 28, 29, 30, 31, 32, 9, 5, 33, 34, 35, 36, 37, 38, 39, 40, 41, 42, 43, 44, 45, 46, 47, 48, 4, 3, 49, 50, 51, 52, 53, 54, 55, 56, 57, 6, 58, 59, 60, 61, 62, 63, 64, 65, 66, 67, 68, 69, 8, 7, 203, 204, 205, 206, 207, 208, 209, 210, 211, 212] (by decide +kernel) (by decide +kernel)
set_option maxRecDepth 20000 in
theorem gX6_isSame_X6_isWrong : GoodIn wsX6_isSame (wsV RX6 96 RX6 yX6_isWrong wsX6_isWrong) := goodIn_app (goodIn_of _ (by decide +kernel)) ggX6_isSame_X6_isWrong
set_option maxRecDepth 20000 in
theorem ggX6_isSame_X6_off : GoodIn wsX6_isSame wsX6_off := goodIn_r _ [21, 22, 23, 24, 25, 26, 27, 28, 29, 30, 31, 16, 32, 9, 5, 33, 34, 35, 36, 37, 38, 39, 40, 41, 42, 43, 44, 45, 46, 47, 48, 4, 3, 49, 50, 51, 52, 53, 54, 55, 56, 57, 6, 203, 204, 205, 206, 207, 208, 209, 210, 211, 212] (by decide +kernel) (by decide +kernel)
set_option maxRecDepth 20000 in
theorem gX6_isSame_X6_off : GoodIn wsX6_isSame (wsV RX6 92 RX6 yX6_off wsX6_off) := goodIn_app (goodIn_of _ (by decide +kernel)) ggX6_isSame_X6_off
set_option maxRecDepth 20000 in
theorem ggX6_isSame_X5_sheet : GoodIn wsX6_isSame wsX5_sheet := goodIn_ca (goodIn_r _ [74, 75, 76, 77, 78, 79, 80, 81, 82, 83, 84, 73, 85, 86, 87, 88, 89, 90, 91, 92, 93, 94, 95, 96, 97, 98, 99, 100, 101, 102, 103, 104, 105, 106, 107, 108, 109, 110, 111, 112, 113, 114, 115, 116, 117, 118, 119, 120, 121, 122, 123, 124, 125, 126, 127, 128, 129, 130, 131, 132, 133, 134, 135, 136, 137, 138, 139, 140, 141, 142, 143, 144, 145, 146, 147, 148, 149, 150, 151, 152, 153, 154, 155, 156, 157, 158, 159, 160, 161, 162, 163, 164, 165, 166, 167, 168, 169, 170, 171, 172, 173, 174, 175, 176, 23, 24, 25, 177, 27, 28, 213, 214, 215, 216, 217, 218, 219, 220, 221, 222, 223, 224, 225, 226, 227, 228, 229, 230, 231, 232, 233, 234, 235, 236, 237] (by decide +kernel) (by decide +kernel)) (goodIn_sub (fun _ h => List.mem_cons_of_mem _ (List.mem_append_right _ h)) (by decide +kernel))
set_option maxRecDepth 20000 in
theorem gX6_isSame_X5_sheet : GoodIn wsX6_isSame (wsV RX6 100 RX5 yX5_sheet wsX5_sheet) := goodIn_app (goodIn_of _ (by decide +kernel)) ggX6_isSame_X5_sheet
set_option maxRecDepth 20000 in
theorem ggX6_isSame_X5_printed : GoodIn wsX6_isSame wsX5_printed := goodIn_ca (goodIn_r _ [181, 75, 76, 77, 78, 80, 82, 83, 84, 73, 85, 86, 87, 88, 89, 90, 91, 92, 93, 94, 95, 96, 97, 98, 99, 100, 101, 102, 103, 104, 105, 106, 107, 108, 166, 167, 168, 169, 170, 171, 213, 214, 215, 216, 217, 218, 219, 220, 221, 222, 223, 224, 225, 226] (by decide +kernel) (by decide +kernel)) (goodIn_sub (fun _ h => List.mem_cons_of_mem _ (List.mem_append_right _ h)) (by decide +kernel))
set_option maxRecDepth 20000 in
theorem gX6_isSame_X5_printed : GoodIn wsX6_isSame (wsV RX6 105 RX5 yX5_printed wsX5_printed) := goodIn_app (goodIn_of _ (by decide +kernel)) ggX6_isSame_X5_printed
set_option maxRecDepth 20000 in
theorem ggX6_isSame_X5_count : GoodIn wsX6_isSame wsX5_count := goodIn_ca (goodIn_r _ [185, 75, 76, 118, 186, 187, 117, 188, 189, 119, 190, 191, 152, 77, 192, 193, 86, 87, 88, 89, 90, 91, 194, 195, 196, 73, 197, 78, 92, 93, 94, 95, 96, 97, 98, 99, 100, 101, 102, 103, 104, 105, 106, 107, 108, 109, 110, 111, 112, 79, 81, 113, 114, 115, 116, 120, 121, 122, 123, 124, 125, 126, 127, 128, 129, 130, 131, 132, 133, 134, 135, 136, 137, 138, 139, 140, 141, 142, 143, 144, 145, 146, 147, 148, 149, 150, 151, 80, 153, 154, 155, 156, 157, 158, 159, 160, 161, 162, 163, 164, 165, 166, 167, 168, 169, 170, 171, 213, 214, 215, 216, 217, 218, 219, 227, 228, 229, 230, 231, 232, 224, 225, 226, 220, 221, 222, 223, 233, 234, 235, 236, 237] (by decide +kernel) (by decide +kernel)) (goodIn_sub (fun _ h => List.mem_cons_of_mem _ (List.mem_append_right _ h)) (by decide +kernel))
set_option maxRecDepth 20000 in
theorem gX6_isSame_X5_count : GoodIn wsX6_isSame (wsV RX6 108 RX5 yX5_count wsX5_count) := goodIn_app (goodIn_of _ (by decide +kernel)) ggX6_isSame_X5_count
set_option maxRecDepth 20000 in
theorem ggX6_isSame_X5_mean : GoodIn wsX6_isSame wsX5_mean := goodIn_r _ [201, 118, 186, 202, 187, 213, 214, 215, 216, 217, 218, 219, 227, 228] (by decide +kernel) (by decide +kernel)
set_option maxRecDepth 20000 in
theorem gX6_isSame_X5_mean : GoodIn wsX6_isSame (wsV RX6 111 RX5 yX5_mean wsX5_mean) := goodIn_app (goodIn_of _ (by decide +kernel)) ggX6_isSame_X5_mean
theorem dX6_isSame_0 : decode cX6_isSame 0 = .ok (.iconst 0, 1) := by decide +kernel
theorem dX6_isSame_1 : decode cX6_isSame 1 = .ok (.istore_n 2, 1) := by decide +kernel
theorem dX6_isSame_2 : decode cX6_isSame 2 = .ok (.iconst 0, 1) := by decide +kernel
theorem dX6_isSame_3 : decode cX6_isSame 3 = .ok (.istore_n 3, 1) := by decide +kernel
theorem dX6_isSame_4 : decode cX6_isSame 4 = .ok (.iload_n 3, 1) := by decide +kernel
theorem dX6_isSame_5 : decode cX6_isSame 5 = .ok (.aload_n 0, 1) := by decide +kernel
theorem dX6_isSame_6 : decode cX6_isSame 6 = .ok (.getfield 29, 3) := by decide +kernel
theorem dX6_isSame_9 : decode cX6_isSame 9 = .ok (.arraylength, 1) := by decide +kernel
theorem dX6_isSame_10 : decode cX6_isSame 10 = .ok (.if_icmp .ge 149, 3) := by decide +kernel
theorem dX6_isSame_13 : decode cX6_isSame 13 = .ok (.aload_n 0, 1) := by decide +kernel
theorem dX6_isSame_14 : decode cX6_isSame 14 = .ok (.getfield 29, 3) := by decide +kernel
theorem dX6_isSame_17 : decode cX6_isSame 17 = .ok (.iload_n 3, 1) := by decide +kernel
theorem dX6_isSame_18 : decode cX6_isSame 18 = .ok (.aaload, 1) := by decide +kernel
theorem dX6_isSame_19 : decode cX6_isSame 19 = .ok (.astore 4, 2) := by decide +kernel
theorem dX6_isSame_21 : decode cX6_isSame 21 = .ok (.iconst 5, 1) := by decide +kernel
theorem dX6_isSame_22 : decode cX6_isSame 22 = .ok (.newarray .int, 2) := by decide +kernel
theorem dX6_isSame_24 : decode cX6_isSame 24 = .ok (.dup, 1) := by decide +kernel
theorem dX6_isSame_25 : decode cX6_isSame 25 = .ok (.iconst 0, 1) := by decide +kernel
theorem dX6_isSame_26 : decode cX6_isSame 26 = .ok (.aload 4, 2) := by decide +kernel
theorem dX6_isSame_28 : decode cX6_isSame 28 = .ok (.iconst 0, 1) := by decide +kernel
theorem dX6_isSame_29 : decode cX6_isSame 29 = .ok (.iaload, 1) := by decide +kernel
theorem dX6_isSame_30 : decode cX6_isSame 30 = .ok (.iastore, 1) := by decide +kernel
theorem dX6_isSame_31 : decode cX6_isSame 31 = .ok (.dup, 1) := by decide +kernel
theorem dX6_isSame_32 : decode cX6_isSame 32 = .ok (.iconst 1, 1) := by decide +kernel
theorem dX6_isSame_33 : decode cX6_isSame 33 = .ok (.aload 4, 2) := by decide +kernel
theorem dX6_isSame_35 : decode cX6_isSame 35 = .ok (.arraylength, 1) := by decide +kernel
theorem dX6_isSame_36 : decode cX6_isSame 36 = .ok (.iconst 2, 1) := by decide +kernel
theorem dX6_isSame_37 : decode cX6_isSame 37 = .ok (.isub, 1) := by decide +kernel
theorem dX6_isSame_38 : decode cX6_isSame 38 = .ok (.iastore, 1) := by decide +kernel
theorem dX6_isSame_39 : decode cX6_isSame 39 = .ok (.dup, 1) := by decide +kernel
theorem dX6_isSame_40 : decode cX6_isSame 40 = .ok (.iconst 2, 1) := by decide +kernel
theorem dX6_isSame_41 : decode cX6_isSame 41 = .ok (.aload 4, 2) := by decide +kernel
theorem dX6_isSame_43 : decode cX6_isSame 43 = .ok (.iconst 1, 1) := by decide +kernel
theorem dX6_isSame_44 : decode cX6_isSame 44 = .ok (.iaload, 1) := by decide +kernel
theorem dX6_isSame_45 : decode cX6_isSame 45 = .ok (.iastore, 1) := by decide +kernel
theorem dX6_isSame_46 : decode cX6_isSame 46 = .ok (.dup, 1) := by decide +kernel
theorem dX6_isSame_47 : decode cX6_isSame 47 = .ok (.iconst 3, 1) := by decide +kernel
theorem dX6_isSame_48 : decode cX6_isSame 48 = .ok (.aload_n 0, 1) := by decide +kernel
theorem dX6_isSame_49 : decode cX6_isSame 49 = .ok (.aload 4, 2) := by decide +kernel
theorem dX6_isSame_51 : decode cX6_isSame 51 = .ok (.invokevirtual 96, 3) := by decide +kernel
theorem dX6_isSame_54 : decode cX6_isSame 54 = .ok (.ifCond .eq 7, 3) := by decide +kernel
theorem dX6_isSame_57 : decode cX6_isSame 57 = .ok (.iconst 1, 1) := by decide +kernel
theorem dX6_isSame_58 : decode cX6_isSame 58 = .ok (.goto 4, 3) := by decide +kernel
theorem dX6_isSame_61 : decode cX6_isSame 61 = .ok (.iconst 0, 1) := by decide +kernel
theorem dX6_isSame_62 : decode cX6_isSame 62 = .ok (.iastore, 1) := by decide +kernel
theorem dX6_isSame_63 : decode cX6_isSame 63 = .ok (.dup, 1) := by decide +kernel
theorem dX6_isSame_64 : decode cX6_isSame 64 = .ok (.iconst 4, 1) := by decide +kernel
theorem dX6_isSame_65 : decode cX6_isSame 65 = .ok (.aload_n 0, 1) := by decide +kernel
theorem dX6_isSame_66 : decode cX6_isSame 66 = .ok (.aload 4, 2) := by decide +kernel
theorem dX6_isSame_68 : decode cX6_isSame 68 = .ok (.invokevirtual 92, 3) := by decide +kernel
theorem dX6_isSame_71 : decode cX6_isSame 71 = .ok (.sipush 1000, 3) := by decide +kernel
theorem dX6_isSame_74 : decode cX6_isSame 74 = .ok (.idiv, 1) := by decide +kernel
theorem dX6_isSame_75 : decode cX6_isSame 75 = .ok (.iastore, 1) := by decide +kernel
theorem dX6_isSame_76 : decode cX6_isSame 76 = .ok (.astore 5, 2) := by decide +kernel
theorem dX6_isSame_78 : decode cX6_isSame 78 = .ok (.iconst 0, 1) := by decide +kernel
theorem dX6_isSame_79 : decode cX6_isSame 79 = .ok (.istore 6, 2) := by decide +kernel
theorem dX6_isSame_81 : decode cX6_isSame 81 = .ok (.iload 6, 2) := by decide +kernel
theorem dX6_isSame_83 : decode cX6_isSame 83 = .ok (.iconst 5, 1) := by decide +kernel
theorem dX6_isSame_84 : decode cX6_isSame 84 = .ok (.if_icmp .ge 26, 3) := by decide +kernel
theorem dX6_isSame_87 : decode cX6_isSame 87 = .ok (.aload_n 1, 1) := by decide +kernel
theorem dX6_isSame_88 : decode cX6_isSame 88 = .ok (.iload_n 3, 1) := by decide +kernel
theorem dX6_isSame_89 : decode cX6_isSame 89 = .ok (.iload 6, 2) := by decide +kernel
theorem dX6_isSame_91 : decode cX6_isSame 91 = .ok (.invokevirtual 100, 3) := by decide +kernel
theorem dX6_isSame_94 : decode cX6_isSame 94 = .ok (.aload 5, 2) := by decide +kernel
theorem dX6_isSame_96 : decode cX6_isSame 96 = .ok (.iload 6, 2) := by decide +kernel
theorem dX6_isSame_98 : decode cX6_isSame 98 = .ok (.iaload, 1) := by decide +kernel
theorem dX6_isSame_99 : decode cX6_isSame 99 = .ok (.if_icmp .eq 5, 3) := by decide +kernel
theorem dX6_isSame_102 : decode cX6_isSame 102 = .ok (.iconst 0, 1) := by decide +kernel
theorem dX6_isSame_103 : decode cX6_isSame 103 = .ok (.ireturn, 1) := by decide +kernel
theorem dX6_isSame_104 : decode cX6_isSame 104 = .ok (.iinc 6 1, 3) := by decide +kernel
theorem dX6_isSame_107 : decode cX6_isSame 107 = .ok (.goto (-26), 3) := by decide +kernel
theorem dX6_isSame_110 : decode cX6_isSame 110 = .ok (.iconst 2, 1) := by decide +kernel
theorem dX6_isSame_111 : decode cX6_isSame 111 = .ok (.istore 6, 2) := by decide +kernel
theorem dX6_isSame_113 : decode cX6_isSame 113 = .ok (.iload 6, 2) := by decide +kernel
theorem dX6_isSame_115 : decode cX6_isSame 115 = .ok (.aload 4, 2) := by decide +kernel
theorem dX6_isSame_117 : decode cX6_isSame 117 = .ok (.arraylength, 1) := by decide +kernel
theorem dX6_isSame_118 : decode cX6_isSame 118 = .ok (.if_icmp .ge 28, 3) := by decide +kernel
theorem dX6_isSame_121 : decode cX6_isSame 121 = .ok (.aload_n 1, 1) := by decide +kernel
theorem dX6_isSame_122 : decode cX6_isSame 122 = .ok (.iload_n 3, 1) := by decide +kernel
theorem dX6_isSame_123 : decode cX6_isSame 123 = .ok (.iload 6, 2) := by decide +kernel
theorem dX6_isSame_125 : decode cX6_isSame 125 = .ok (.iconst 2, 1) := by decide +kernel
theorem dX6_isSame_126 : decode cX6_isSame 126 = .ok (.isub, 1) := by decide +kernel
theorem dX6_isSame_127 : decode cX6_isSame 127 = .ok (.invokevirtual 105, 3) := by decide +kernel
theorem dX6_isSame_130 : decode cX6_isSame 130 = .ok (.aload 4, 2) := by decide +kernel
theorem dX6_isSame_132 : decode cX6_isSame 132 = .ok (.iload 6, 2) := by decide +kernel
theorem dX6_isSame_134 : decode cX6_isSame 134 = .ok (.iaload, 1) := by decide +kernel
theorem dX6_isSame_135 : decode cX6_isSame 135 = .ok (.if_icmp .eq 5, 3) := by decide +kernel
theorem dX6_isSame_138 : decode cX6_isSame 138 = .ok (.iconst 0, 1) := by decide +kernel
theorem dX6_isSame_139 : decode cX6_isSame 139 = .ok (.ireturn, 1) := by decide +kernel
theorem dX6_isSame_140 : decode cX6_isSame 140 = .ok (.iinc 6 1, 3) := by decide +kernel
theorem dX6_isSame_143 : decode cX6_isSame 143 = .ok (.goto (-30), 3) := by decide +kernel
theorem dX6_isSame_146 : decode cX6_isSame 146 = .ok (.iload_n 2, 1) := by decide +kernel
theorem dX6_isSame_147 : decode cX6_isSame 147 = .ok (.aload 5, 2) := by decide +kernel
theorem dX6_isSame_149 : decode cX6_isSame 149 = .ok (.iconst 3, 1) := by decide +kernel
theorem dX6_isSame_150 : decode cX6_isSame 150 = .ok (.iaload, 1) := by decide +kernel
theorem dX6_isSame_151 : decode cX6_isSame 151 = .ok (.iadd, 1) := by decide +kernel
theorem dX6_isSame_152 : decode cX6_isSame 152 = .ok (.istore_n 2, 1) := by decide +kernel
theorem dX6_isSame_153 : decode cX6_isSame 153 = .ok (.iinc 3 1, 3) := by decide +kernel
theorem dX6_isSame_156 : decode cX6_isSame 156 = .ok (.goto (-152), 3) := by decide +kernel
theorem dX6_isSame_159 : decode cX6_isSame 159 = .ok (.bipush 11, 2) := by decide +kernel
theorem dX6_isSame_161 : decode cX6_isSame 161 = .ok (.newarray .int, 2) := by decide +kernel
theorem dX6_isSame_163 : decode cX6_isSame 163 = .ok (.dup, 1) := by decide +kernel
theorem dX6_isSame_164 : decode cX6_isSame 164 = .ok (.iconst 0, 1) := by decide +kernel
theorem dX6_isSame_165 : decode cX6_isSame 165 = .ok (.aload_n 0, 1) := by decide +kernel
theorem dX6_isSame_166 : decode cX6_isSame 166 = .ok (.getfield 7, 3) := by decide +kernel
theorem dX6_isSame_169 : decode cX6_isSame 169 = .ok (.iastore, 1) := by decide +kernel
theorem dX6_isSame_170 : decode cX6_isSame 170 = .ok (.dup, 1) := by decide +kernel
theorem dX6_isSame_171 : decode cX6_isSame 171 = .ok (.iconst 1, 1) := by decide +kernel
theorem dX6_isSame_172 : decode cX6_isSame 172 = .ok (.aload_n 0, 1) := by decide +kernel
theorem dX6_isSame_173 : decode cX6_isSame 173 = .ok (.getfield 13, 3) := by decide +kernel
theorem dX6_isSame_176 : decode cX6_isSame 176 = .ok (.iastore, 1) := by decide +kernel
theorem dX6_isSame_177 : decode cX6_isSame 177 = .ok (.dup, 1) := by decide +kernel
theorem dX6_isSame_178 : decode cX6_isSame 178 = .ok (.iconst 2, 1) := by decide +kernel
theorem dX6_isSame_179 : decode cX6_isSame 179 = .ok (.aload_n 0, 1) := by decide +kernel
theorem dX6_isSame_180 : decode cX6_isSame 180 = .ok (.getfield 16, 3) := by decide +kernel
theorem dX6_isSame_183 : decode cX6_isSame 183 = .ok (.iastore, 1) := by decide +kernel
theorem dX6_isSame_184 : decode cX6_isSame 184 = .ok (.dup, 1) := by decide +kernel
theorem dX6_isSame_185 : decode cX6_isSame 185 = .ok (.iconst 3, 1) := by decide +kernel
theorem dX6_isSame_186 : decode cX6_isSame 186 = .ok (.aload_n 0, 1) := by decide +kernel
theorem dX6_isSame_187 : decode cX6_isSame 187 = .ok (.getfield 43, 3) := by decide +kernel
theorem dX6_isSame_190 : decode cX6_isSame 190 = .ok (.iastore, 1) := by decide +kernel
theorem dX6_isSame_191 : decode cX6_isSame 191 = .ok (.dup, 1) := by decide +kernel
theorem dX6_isSame_192 : decode cX6_isSame 192 = .ok (.iconst 4, 1) := by decide +kernel
theorem dX6_isSame_193 : decode cX6_isSame 193 = .ok (.aload_n 0, 1) := by decide +kernel
theorem dX6_isSame_194 : decode cX6_isSame 194 = .ok (.getfield 20, 3) := by decide +kernel
theorem dX6_isSame_197 : decode cX6_isSame 197 = .ok (.iastore, 1) := by decide +kernel
theorem dX6_isSame_198 : decode cX6_isSame 198 = .ok (.dup, 1) := by decide +kernel
theorem dX6_isSame_199 : decode cX6_isSame 199 = .ok (.iconst 5, 1) := by decide +kernel
theorem dX6_isSame_200 : decode cX6_isSame 200 = .ok (.aload_n 0, 1) := by decide +kernel
theorem dX6_isSame_201 : decode cX6_isSame 201 = .ok (.getfield 56, 3) := by decide +kernel
theorem dX6_isSame_204 : decode cX6_isSame 204 = .ok (.iastore, 1) := by decide +kernel
theorem dX6_isSame_205 : decode cX6_isSame 205 = .ok (.dup, 1) := by decide +kernel
theorem dX6_isSame_206 : decode cX6_isSame 206 = .ok (.bipush 6, 2) := by decide +kernel
theorem dX6_isSame_208 : decode cX6_isSame 208 = .ok (.aload_n 0, 1) := by decide +kernel
theorem dX6_isSame_209 : decode cX6_isSame 209 = .ok (.getfield 25, 3) := by decide +kernel
theorem dX6_isSame_212 : decode cX6_isSame 212 = .ok (.arraylength, 1) := by decide +kernel
theorem dX6_isSame_213 : decode cX6_isSame 213 = .ok (.iastore, 1) := by decide +kernel
theorem dX6_isSame_214 : decode cX6_isSame 214 = .ok (.dup, 1) := by decide +kernel
theorem dX6_isSame_215 : decode cX6_isSame 215 = .ok (.bipush 7, 2) := by decide +kernel
theorem dX6_isSame_217 : decode cX6_isSame 217 = .ok (.aload_n 0, 1) := by decide +kernel
theorem dX6_isSame_218 : decode cX6_isSame 218 = .ok (.getfield 29, 3) := by decide +kernel
theorem dX6_isSame_221 : decode cX6_isSame 221 = .ok (.arraylength, 1) := by decide +kernel
theorem dX6_isSame_222 : decode cX6_isSame 222 = .ok (.iastore, 1) := by decide +kernel
theorem dX6_isSame_223 : decode cX6_isSame 223 = .ok (.dup, 1) := by decide +kernel
theorem dX6_isSame_224 : decode cX6_isSame 224 = .ok (.bipush 8, 2) := by decide +kernel
theorem dX6_isSame_226 : decode cX6_isSame 226 = .ok (.iload_n 2, 1) := by decide +kernel
theorem dX6_isSame_227 : decode cX6_isSame 227 = .ok (.iastore, 1) := by decide +kernel
theorem dX6_isSame_228 : decode cX6_isSame 228 = .ok (.dup, 1) := by decide +kernel
theorem dX6_isSame_229 : decode cX6_isSame 229 = .ok (.bipush 9, 2) := by decide +kernel
theorem dX6_isSame_231 : decode cX6_isSame 231 = .ok (.aload_n 0, 1) := by decide +kernel
theorem dX6_isSame_232 : decode cX6_isSame 232 = .ok (.getfield 75, 3) := by decide +kernel
theorem dX6_isSame_235 : decode cX6_isSame 235 = .ok (.iastore, 1) := by decide +kernel
theorem dX6_isSame_236 : decode cX6_isSame 236 = .ok (.dup, 1) := by decide +kernel
theorem dX6_isSame_237 : decode cX6_isSame 237 = .ok (.bipush 10, 2) := by decide +kernel
theorem dX6_isSame_239 : decode cX6_isSame 239 = .ok (.aload_n 0, 1) := by decide +kernel
theorem dX6_isSame_240 : decode cX6_isSame 240 = .ok (.getfield 78, 3) := by decide +kernel
theorem dX6_isSame_243 : decode cX6_isSame 243 = .ok (.iastore, 1) := by decide +kernel
theorem dX6_isSame_244 : decode cX6_isSame 244 = .ok (.astore_n 3, 1) := by decide +kernel
theorem dX6_isSame_245 : decode cX6_isSame 245 = .ok (.iconst 0, 1) := by decide +kernel
theorem dX6_isSame_246 : decode cX6_isSame 246 = .ok (.istore 4, 2) := by decide +kernel
theorem dX6_isSame_248 : decode cX6_isSame 248 = .ok (.iload 4, 2) := by decide +kernel
theorem dX6_isSame_250 : decode cX6_isSame 250 = .ok (.bipush 11, 2) := by decide +kernel
theorem dX6_isSame_252 : decode cX6_isSame 252 = .ok (.if_icmp .ge 24, 3) := by decide +kernel
theorem dX6_isSame_255 : decode cX6_isSame 255 = .ok (.aload_n 1, 1) := by decide +kernel
theorem dX6_isSame_256 : decode cX6_isSame 256 = .ok (.iload 4, 2) := by decide +kernel
theorem dX6_isSame_258 : decode cX6_isSame 258 = .ok (.invokevirtual 108, 3) := by decide +kernel
theorem dX6_isSame_261 : decode cX6_isSame 261 = .ok (.aload_n 3, 1) := by decide +kernel
theorem dX6_isSame_262 : decode cX6_isSame 262 = .ok (.iload 4, 2) := by decide +kernel
theorem dX6_isSame_264 : decode cX6_isSame 264 = .ok (.iaload, 1) := by decide +kernel
theorem dX6_isSame_265 : decode cX6_isSame 265 = .ok (.if_icmp .eq 5, 3) := by decide +kernel
theorem dX6_isSame_268 : decode cX6_isSame 268 = .ok (.iconst 0, 1) := by decide +kernel
theorem dX6_isSame_269 : decode cX6_isSame 269 = .ok (.ireturn, 1) := by decide +kernel
theorem dX6_isSame_270 : decode cX6_isSame 270 = .ok (.iinc 4 1, 3) := by decide +kernel
theorem dX6_isSame_273 : decode cX6_isSame 273 = .ok (.goto (-25), 3) := by decide +kernel
theorem dX6_isSame_276 : decode cX6_isSame 276 = .ok (.aload_n 1, 1) := by decide +kernel
theorem dX6_isSame_277 : decode cX6_isSame 277 = .ok (.invokevirtual 111, 3) := by decide +kernel
theorem dX6_isSame_280 : decode cX6_isSame 280 = .ok (.ldc2_w 115, 3) := by decide +kernel
theorem dX6_isSame_283 : decode cX6_isSame 283 = .ok (.aload_n 0, 1) := by decide +kernel
theorem dX6_isSame_284 : decode cX6_isSame 284 = .ok (.getfield 13, 3) := by decide +kernel
theorem dX6_isSame_287 : decode cX6_isSame 287 = .ok (.i2d, 1) := by decide +kernel
theorem dX6_isSame_288 : decode cX6_isSame 288 = .ok (.aload_n 0, 1) := by decide +kernel
theorem dX6_isSame_289 : decode cX6_isSame 289 = .ok (.getfield 7, 3) := by decide +kernel
theorem dX6_isSame_292 : decode cX6_isSame 292 = .ok (.i2d, 1) := by decide +kernel
theorem dX6_isSame_293 : decode cX6_isSame 293 = .ok (.ddiv, 1) := by decide +kernel
theorem dX6_isSame_294 : decode cX6_isSame 294 = .ok (.dadd, 1) := by decide +kernel
theorem dX6_isSame_295 : decode cX6_isSame 295 = .ok (.dcmp .l, 1) := by decide +kernel
theorem dX6_isSame_296 : decode cX6_isSame 296 = .ok (.ifCond .ne 7, 3) := by decide +kernel
theorem dX6_isSame_299 : decode cX6_isSame 299 = .ok (.iconst 1, 1) := by decide +kernel
theorem dX6_isSame_300 : decode cX6_isSame 300 = .ok (.goto 4, 3) := by decide +kernel
theorem dX6_isSame_303 : decode cX6_isSame 303 = .ok (.iconst 0, 1) := by decide +kernel
theorem dX6_isSame_304 : decode cX6_isSame 304 = .ok (.ireturn, 1) := by decide +kernel
