theorem dX6_init_0 : decode cX6_init 0 = .ok (.aload_n 0, 1) := by decide +kernel
theorem dX6_init_1 : decode cX6_init 1 = .ok (.invokespecial 1, 3) := by decide +kernel
theorem dX6_init_4 : decode cX6_init 4 = .ok (.aload_n 0, 1) := by decide +kernel
theorem dX6_init_5 : decode cX6_init 5 = .ok (.iconst 4, 1) := by decide +kernel
theorem dX6_init_6 : decode cX6_init 6 = .ok (.putfield 7, 3) := by decide +kernel
theorem dX6_init_9 : decode cX6_init 9 = .ok (.aload_n 0, 1) := by decide +kernel
theorem dX6_init_10 : decode cX6_init 10 = .ok (.iconst 1, 1) := by decide +kernel
theorem dX6_init_11 : decode cX6_init 11 = .ok (.putfield 13, 3) := by decide +kernel
theorem dX6_init_14 : decode cX6_init 14 = .ok (.aload_n 0, 1) := by decide +kernel
theorem dX6_init_15 : decode cX6_init 15 = .ok (.sipush 29531, 3) := by decide +kernel
theorem dX6_init_18 : decode cX6_init 18 = .ok (.putfield 16, 3) := by decide +kernel
theorem dX6_init_21 : decode cX6_init 21 = .ok (.aload_n 0, 1) := by decide +kernel
theorem dX6_init_22 : decode cX6_init 22 = .ok (.ldc 19, 2) := by decide +kernel
theorem dX6_init_24 : decode cX6_init 24 = .ok (.putfield 20, 3) := by decide +kernel
theorem dX6_init_27 : decode cX6_init 27 = .ok (.aload_n 0, 1) := by decide +kernel
theorem dX6_init_28 : decode cX6_init 28 = .ok (.bipush 40, 2) := by decide +kernel
theorem dX6_init_30 : decode cX6_init 30 = .ok (.newarray .int, 2) := by decide +kernel
theorem dX6_init_32 : decode cX6_init 32 = .ok (.putfield 23, 3) := by decide +kernel
theorem dX6_init_35 : decode cX6_init 35 = .ok (.aload_n 0, 1) := by decide +kernel
theorem dX6_init_36 : decode cX6_init 36 = .ok (.bipush 110, 2) := by decide +kernel
theorem dX6_init_38 : decode cX6_init 38 = .ok (.newarray .int, 2) := by decide +kernel
theorem dX6_init_40 : decode cX6_init 40 = .ok (.putfield 27, 3) := by decide +kernel
theorem dX6_init_43 : decode cX6_init 43 = .ok (.return_, 1) := by decide +kernel
theorem dX6_thrown_0 : decode cX6_thrown 0 = .ok (.aload_n 0, 1) := by decide +kernel
theorem dX6_thrown_1 : decode cX6_thrown 1 = .ok (.getfield 30, 3) := by decide +kernel
theorem dX6_thrown_4 : decode cX6_thrown 4 = .ok (.ireturn, 1) := by decide +kernel
theorem dX6_fail_0 : decode cX6_fail 0 = .ok (.aload_n 0, 1) := by decide +kernel
theorem dX6_fail_1 : decode cX6_fail 1 = .ok (.iload_n 1, 1) := by decide +kernel
theorem dX6_fail_2 : decode cX6_fail 2 = .ok (.putfield 30, 3) := by decide +kernel
theorem dX6_fail_5 : decode cX6_fail 5 = .ok (.iconst 0, 1) := by decide +kernel
theorem dX6_fail_6 : decode cX6_fail 6 = .ok (.ireturn, 1) := by decide +kernel
theorem dX6_isIn_0 : decode cX6_isIn 0 = .ok (.iload_n 0, 1) := by decide +kernel
theorem dX6_isIn_1 : decode cX6_isIn 1 = .ok (.iload_n 1, 1) := by decide +kernel
theorem dX6_isIn_2 : decode cX6_isIn 2 = .ok (.if_icmp .lt 12, 3) := by decide +kernel
theorem dX6_isIn_5 : decode cX6_isIn 5 = .ok (.iload_n 0, 1) := by decide +kernel
theorem dX6_isIn_6 : decode cX6_isIn 6 = .ok (.iload_n 2, 1) := by decide +kernel
theorem dX6_isIn_7 : decode cX6_isIn 7 = .ok (.if_icmp .gt 7, 3) := by decide +kernel
theorem dX6_isIn_10 : decode cX6_isIn 10 = .ok (.iconst 1, 1) := by decide +kernel
theorem dX6_isIn_11 : decode cX6_isIn 11 = .ok (.goto 4, 3) := by decide +kernel
theorem dX6_isIn_14 : decode cX6_isIn 14 = .ok (.iconst 0, 1) := by decide +kernel
theorem dX6_isIn_15 : decode cX6_isIn 15 = .ok (.ireturn, 1) := by decide +kernel
set_option maxRecDepth 20000 in
theorem ggX6_isYear_X6_isIn : GoodIn wsX6_isYear wsX6_isIn := goodIn_r _ [4] (by decide +kernel) (by decide +kernel)
set_option maxRecDepth 20000 in
theorem gX6_isYear_X6_isIn : GoodIn wsX6_isYear (va_wsS RX6 33 yX6_isIn wsX6_isIn) := goodIn_app (goodIn_of _ (by decide +kernel)) ggX6_isYear_X6_isIn
theorem dX6_isYear_0 : decode cX6_isYear 0 = .ok (.iload_n 0, 1) := by decide +kernel
theorem dX6_isYear_1 : decode cX6_isYear 1 = .ok (.iconst 0, 1) := by decide +kernel
theorem dX6_isYear_2 : decode cX6_isYear 2 = .ok (.sipush 999, 3) := by decide +kernel
theorem dX6_isYear_5 : decode cX6_isYear 5 = .ok (.invokestatic 33, 3) := by decide +kernel
theorem dX6_isYear_8 : decode cX6_isYear 8 = .ok (.ireturn, 1) := by decide +kernel
set_option maxRecDepth 20000 in
theorem ggX6_setLeaps_X6_isIn : GoodIn wsX6_setLeaps wsX6_isIn := goodIn_r _ [7] (by decide +kernel) (by decide +kernel)
set_option maxRecDepth 20000 in
theorem gX6_setLeaps_X6_isIn : GoodIn wsX6_setLeaps (va_wsS RX6 33 yX6_isIn wsX6_isIn) := goodIn_app (goodIn_of _ (by decide +kernel)) ggX6_setLeaps_X6_isIn
set_option maxRecDepth 20000 in
theorem ggX6_setLeaps_X6_fail : GoodIn wsX6_setLeaps wsX6_fail := goodIn_r _ [11, 1, 12, 13, 14, 15, 16, 17, 18, 19, 20, 21, 22, 23, 24] (by decide +kernel) (by decide +kernel)
set_option maxRecDepth 20000 in
theorem gX6_setLeaps_X6_fail : GoodIn wsX6_setLeaps (wsV RX6 37 RX6 yX6_fail wsX6_fail) := goodIn_app (goodIn_of _ (by decide +kernel)) ggX6_setLeaps_X6_fail
theorem dX6_setLeaps_0 : decode cX6_setLeaps 0 = .ok (.aload_n 0, 1) := by decide +kernel
theorem dX6_setLeaps_1 : decode cX6_setLeaps 1 = .ok (.iconst 0, 1) := by decide +kernel
theorem dX6_setLeaps_2 : decode cX6_setLeaps 2 = .ok (.putfield 30, 3) := by decide +kernel
theorem dX6_setLeaps_5 : decode cX6_setLeaps 5 = .ok (.iload_n 1, 1) := by decide +kernel
theorem dX6_setLeaps_6 : decode cX6_setLeaps 6 = .ok (.iconst 1, 1) := by decide +kernel
theorem dX6_setLeaps_7 : decode cX6_setLeaps 7 = .ok (.sipush 400, 3) := by decide +kernel
theorem dX6_setLeaps_10 : decode cX6_setLeaps 10 = .ok (.invokestatic 33, 3) := by decide +kernel
theorem dX6_setLeaps_13 : decode cX6_setLeaps 13 = .ok (.ifCond .eq 12, 3) := by decide +kernel
theorem dX6_setLeaps_16 : decode cX6_setLeaps 16 = .ok (.iload_n 2, 1) := by decide +kernel
theorem dX6_setLeaps_17 : decode cX6_setLeaps 17 = .ok (.iconst 0, 1) := by decide +kernel
theorem dX6_setLeaps_18 : decode cX6_setLeaps 18 = .ok (.iload_n 1, 1) := by decide +kernel
theorem dX6_setLeaps_19 : decode cX6_setLeaps 19 = .ok (.invokestatic 33, 3) := by decide +kernel
theorem dX6_setLeaps_22 : decode cX6_setLeaps 22 = .ok (.ifCond .ne 9, 3) := by decide +kernel
theorem dX6_setLeaps_25 : decode cX6_setLeaps 25 = .ok (.aload_n 0, 1) := by decide +kernel
theorem dX6_setLeaps_26 : decode cX6_setLeaps 26 = .ok (.iconst 1, 1) := by decide +kernel
theorem dX6_setLeaps_27 : decode cX6_setLeaps 27 = .ok (.invokevirtual 37, 3) := by decide +kernel
theorem dX6_setLeaps_30 : decode cX6_setLeaps 30 = .ok (.ireturn, 1) := by decide +kernel
theorem dX6_setLeaps_31 : decode cX6_setLeaps 31 = .ok (.sipush 1000, 3) := by decide +kernel
theorem dX6_setLeaps_34 : decode cX6_setLeaps 34 = .ok (.aload_n 0, 1) := by decide +kernel
theorem dX6_setLeaps_35 : decode cX6_setLeaps 35 = .ok (.getfield 7, 3) := by decide +kernel
theorem dX6_setLeaps_38 : decode cX6_setLeaps 38 = .ok (.imul, 1) := by decide +kernel
theorem dX6_setLeaps_39 : decode cX6_setLeaps 39 = .ok (.aload_n 0, 1) := by decide +kernel
theorem dX6_setLeaps_40 : decode cX6_setLeaps 40 = .ok (.getfield 13, 3) := by decide +kernel
theorem dX6_setLeaps_43 : decode cX6_setLeaps 43 = .ok (.iadd, 1) := by decide +kernel
theorem dX6_setLeaps_44 : decode cX6_setLeaps 44 = .ok (.istore_n 3, 1) := by decide +kernel
theorem dX6_setLeaps_45 : decode cX6_setLeaps 45 = .ok (.aload_n 0, 1) := by decide +kernel
theorem dX6_setLeaps_46 : decode cX6_setLeaps 46 = .ok (.iload_n 1, 1) := by decide +kernel
theorem dX6_setLeaps_47 : decode cX6_setLeaps 47 = .ok (.putfield 7, 3) := by decide +kernel
theorem dX6_setLeaps_50 : decode cX6_setLeaps 50 = .ok (.aload_n 0, 1) := by decide +kernel
theorem dX6_setLeaps_51 : decode cX6_setLeaps 51 = .ok (.iload_n 2, 1) := by decide +kernel
theorem dX6_setLeaps_52 : decode cX6_setLeaps 52 = .ok (.putfield 13, 3) := by decide +kernel
theorem dX6_setLeaps_55 : decode cX6_setLeaps 55 = .ok (.iload_n 3, 1) := by decide +kernel
theorem dX6_setLeaps_56 : decode cX6_setLeaps 56 = .ok (.ireturn, 1) := by decide +kernel
set_option maxRecDepth 20000 in
theorem ggX6_setMoon_X6_isIn : GoodIn wsX6_setMoon wsX6_isIn := goodIn_r _ [9] (by decide +kernel) (by decide +kernel)
set_option maxRecDepth 20000 in
theorem gX6_setMoon_X6_isIn : GoodIn wsX6_setMoon (va_wsS RX6 33 yX6_isIn wsX6_isIn) := goodIn_app (goodIn_of _ (by decide +kernel)) ggX6_setMoon_X6_isIn
set_option maxRecDepth 20000 in
theorem ggX6_setMoon_X6_fail : GoodIn wsX6_setMoon wsX6_fail := goodIn_r _ [13, 1, 14, 15, 16, 17, 18, 19, 20, 21, 22, 23, 24, 25, 26] (by decide +kernel) (by decide +kernel)
set_option maxRecDepth 20000 in
theorem gX6_setMoon_X6_fail : GoodIn wsX6_setMoon (wsV RX6 37 RX6 yX6_fail wsX6_fail) := goodIn_app (goodIn_of _ (by decide +kernel)) ggX6_setMoon_X6_fail
theorem dX6_setMoon_0 : decode cX6_setMoon 0 = .ok (.aload_n 0, 1) := by decide +kernel
theorem dX6_setMoon_1 : decode cX6_setMoon 1 = .ok (.iconst 0, 1) := by decide +kernel
theorem dX6_setMoon_2 : decode cX6_setMoon 2 = .ok (.putfield 30, 3) := by decide +kernel
theorem dX6_setMoon_5 : decode cX6_setMoon 5 = .ok (.iload_n 1, 1) := by decide +kernel
theorem dX6_setMoon_6 : decode cX6_setMoon 6 = .ok (.sipush 20000, 3) := by decide +kernel
theorem dX6_setMoon_9 : decode cX6_setMoon 9 = .ok (.ldc 41, 2) := by decide +kernel
theorem dX6_setMoon_11 : decode cX6_setMoon 11 = .ok (.invokestatic 33, 3) := by decide +kernel
theorem dX6_setMoon_14 : decode cX6_setMoon 14 = .ok (.ifCond .eq 13, 3) := by decide +kernel
theorem dX6_setMoon_17 : decode cX6_setMoon 17 = .ok (.iload_n 2, 1) := by decide +kernel
theorem dX6_setMoon_18 : decode cX6_setMoon 18 = .ok (.iconst 0, 1) := by decide +kernel
theorem dX6_setMoon_19 : decode cX6_setMoon 19 = .ok (.ldc 42, 2) := by decide +kernel
theorem dX6_setMoon_21 : decode cX6_setMoon 21 = .ok (.invokestatic 33, 3) := by decide +kernel
theorem dX6_setMoon_24 : decode cX6_setMoon 24 = .ok (.ifCond .ne 9, 3) := by decide +kernel
theorem dX6_setMoon_27 : decode cX6_setMoon 27 = .ok (.aload_n 0, 1) := by decide +kernel
theorem dX6_setMoon_28 : decode cX6_setMoon 28 = .ok (.iconst 1, 1) := by decide +kernel
theorem dX6_setMoon_29 : decode cX6_setMoon 29 = .ok (.invokevirtual 37, 3) := by decide +kernel
theorem dX6_setMoon_32 : decode cX6_setMoon 32 = .ok (.ireturn, 1) := by decide +kernel
theorem dX6_setMoon_33 : decode cX6_setMoon 33 = .ok (.aload_n 0, 1) := by decide +kernel
theorem dX6_setMoon_34 : decode cX6_setMoon 34 = .ok (.getfield 16, 3) := by decide +kernel
theorem dX6_setMoon_37 : decode cX6_setMoon 37 = .ok (.istore_n 3, 1) := by decide +kernel
theorem dX6_setMoon_38 : decode cX6_setMoon 38 = .ok (.aload_n 0, 1) := by decide +kernel
theorem dX6_setMoon_39 : decode cX6_setMoon 39 = .ok (.iload_n 1, 1) := by decide +kernel
theorem dX6_setMoon_40 : decode cX6_setMoon 40 = .ok (.putfield 16, 3) := by decide +kernel
theorem dX6_setMoon_43 : decode cX6_setMoon 43 = .ok (.aload_n 0, 1) := by decide +kernel
theorem dX6_setMoon_44 : decode cX6_setMoon 44 = .ok (.iload_n 2, 1) := by decide +kernel
theorem dX6_setMoon_45 : decode cX6_setMoon 45 = .ok (.putfield 43, 3) := by decide +kernel
theorem dX6_setMoon_48 : decode cX6_setMoon 48 = .ok (.iload_n 3, 1) := by decide +kernel
theorem dX6_setMoon_49 : decode cX6_setMoon 49 = .ok (.ireturn, 1) := by decide +kernel
set_option maxRecDepth 20000 in
theorem ggX6_setNodes_X6_isIn : GoodIn wsX6_setNodes wsX6_isIn := goodIn_r _ [10] (by decide +kernel) (by decide +kernel)
set_option maxRecDepth 20000 in
theorem gX6_setNodes_X6_isIn : GoodIn wsX6_setNodes (va_wsS RX6 33 yX6_isIn wsX6_isIn) := goodIn_app (goodIn_of _ (by decide +kernel)) ggX6_setNodes_X6_isIn
set_option maxRecDepth 20000 in
theorem ggX6_setNodes_X6_fail : GoodIn wsX6_setNodes wsX6_fail := goodIn_r _ [14, 1, 15, 16, 17, 18, 19, 20, 21, 22, 23, 24, 25, 26, 27] (by decide +kernel) (by decide +kernel)
set_option maxRecDepth 20000 in
theorem gX6_setNodes_X6_fail : GoodIn wsX6_setNodes (wsV RX6 37 RX6 yX6_fail wsX6_fail) := goodIn_app (goodIn_of _ (by decide +kernel)) ggX6_setNodes_X6_fail
theorem dX6_setNodes_0 : decode cX6_setNodes 0 = .ok (.aload_n 0, 1) := by decide +kernel
theorem dX6_setNodes_1 : decode cX6_setNodes 1 = .ok (.iconst 0, 1) := by decide +kernel
theorem dX6_setNodes_2 : decode cX6_setNodes 2 = .ok (.putfield 30, 3) := by decide +kernel
theorem dX6_setNodes_5 : decode cX6_setNodes 5 = .ok (.iload_n 1, 1) := by decide +kernel
theorem dX6_setNodes_6 : decode cX6_setNodes 6 = .ok (.ldc 46, 2) := by decide +kernel
theorem dX6_setNodes_8 : decode cX6_setNodes 8 = .ok (.ldc 47, 2) := by decide +kernel
theorem dX6_setNodes_10 : decode cX6_setNodes 10 = .ok (.invokestatic 33, 3) := by decide +kernel
theorem dX6_setNodes_13 : decode cX6_setNodes 13 = .ok (.ifCond .eq 13, 3) := by decide +kernel
theorem dX6_setNodes_16 : decode cX6_setNodes 16 = .ok (.iload_n 2, 1) := by decide +kernel
theorem dX6_setNodes_17 : decode cX6_setNodes 17 = .ok (.iconst 0, 1) := by decide +kernel
theorem dX6_setNodes_18 : decode cX6_setNodes 18 = .ok (.ldc 48, 2) := by decide +kernel
theorem dX6_setNodes_20 : decode cX6_setNodes 20 = .ok (.invokestatic 33, 3) := by decide +kernel
theorem dX6_setNodes_23 : decode cX6_setNodes 23 = .ok (.ifCond .ne 9, 3) := by decide +kernel
theorem dX6_setNodes_26 : decode cX6_setNodes 26 = .ok (.aload_n 0, 1) := by decide +kernel
theorem dX6_setNodes_27 : decode cX6_setNodes 27 = .ok (.iconst 1, 1) := by decide +kernel
theorem dX6_setNodes_28 : decode cX6_setNodes 28 = .ok (.invokevirtual 37, 3) := by decide +kernel
theorem dX6_setNodes_31 : decode cX6_setNodes 31 = .ok (.ireturn, 1) := by decide +kernel
theorem dX6_setNodes_32 : decode cX6_setNodes 32 = .ok (.aload_n 0, 1) := by decide +kernel
theorem dX6_setNodes_33 : decode cX6_setNodes 33 = .ok (.getfield 20, 3) := by decide +kernel
theorem dX6_setNodes_36 : decode cX6_setNodes 36 = .ok (.istore_n 3, 1) := by decide +kernel
theorem dX6_setNodes_37 : decode cX6_setNodes 37 = .ok (.aload_n 0, 1) := by decide +kernel
theorem dX6_setNodes_38 : decode cX6_setNodes 38 = .ok (.iload_n 1, 1) := by decide +kernel
theorem dX6_setNodes_39 : decode cX6_setNodes 39 = .ok (.putfield 20, 3) := by decide +kernel
theorem dX6_setNodes_42 : decode cX6_setNodes 42 = .ok (.aload_n 0, 1) := by decide +kernel
theorem dX6_setNodes_43 : decode cX6_setNodes 43 = .ok (.iload_n 2, 1) := by decide +kernel
theorem dX6_setNodes_44 : decode cX6_setNodes 44 = .ok (.putfield 49, 3) := by decide +kernel
theorem dX6_setNodes_47 : decode cX6_setNodes 47 = .ok (.iload_n 3, 1) := by decide +kernel
theorem dX6_setNodes_48 : decode cX6_setNodes 48 = .ok (.ireturn, 1) := by decide +kernel
theorem dX6_isLeap_0 : decode cX6_isLeap 0 = .ok (.iload_n 1, 1) := by decide +kernel
theorem dX6_isLeap_1 : decode cX6_isLeap 1 = .ok (.aload_n 0, 1) := by decide +kernel
theorem dX6_isLeap_2 : decode cX6_isLeap 2 = .ok (.getfield 13, 3) := by decide +kernel
theorem dX6_isLeap_5 : decode cX6_isLeap 5 = .ok (.imul, 1) := by decide +kernel
theorem dX6_isLeap_6 : decode cX6_isLeap 6 = .ok (.aload_n 0, 1) := by decide +kernel
theorem dX6_isLeap_7 : decode cX6_isLeap 7 = .ok (.getfield 7, 3) := by decide +kernel
theorem dX6_isLeap_10 : decode cX6_isLeap 10 = .ok (.irem, 1) := by decide +kernel
theorem dX6_isLeap_11 : decode cX6_isLeap 11 = .ok (.aload_n 0, 1) := by decide +kernel
theorem dX6_isLeap_12 : decode cX6_isLeap 12 = .ok (.getfield 13, 3) := by decide +kernel
theorem dX6_isLeap_15 : decode cX6_isLeap 15 = .ok (.if_icmp .ge 7, 3) := by decide +kernel
theorem dX6_isLeap_18 : decode cX6_isLeap 18 = .ok (.iconst 1, 1) := by decide +kernel
theorem dX6_isLeap_19 : decode cX6_isLeap 19 = .ok (.goto 4, 3) := by decide +kernel
theorem dX6_isLeap_22 : decode cX6_isLeap 22 = .ok (.iconst 0, 1) := by decide +kernel
theorem dX6_isLeap_23 : decode cX6_isLeap 23 = .ok (.ireturn, 1) := by decide +kernel
set_option maxRecDepth 20000 in
theorem ggX6_begins_X6_isLeap : GoodIn wsX6_begins wsX6_isLeap := goodIn_r _ [5, 6, 7, 8, 9, 10, 11, 12, 13, 14, 15, 16, 17, 18, 19, 20] (by decide +kernel) (by decide +kernel)
set_option maxRecDepth 20000 in
theorem gX6_begins_X6_isLeap : GoodIn wsX6_begins (wsV RX6 52 RX6 yX6_isLeap wsX6_isLeap) := goodIn_app (goodIn_of _ (by decide +kernel)) ggX6_begins_X6_isLeap
theorem dX6_begins_0 : decode cX6_begins 0 = .ok (.sipush 365, 3) := by decide +kernel
theorem dX6_begins_3 : decode cX6_begins 3 = .ok (.iload_n 1, 1) := by decide +kernel
theorem dX6_begins_4 : decode cX6_begins 4 = .ok (.imul, 1) := by decide +kernel
theorem dX6_begins_5 : decode cX6_begins 5 = .ok (.istore_n 2, 1) := by decide +kernel
theorem dX6_begins_6 : decode cX6_begins 6 = .ok (.iconst 0, 1) := by decide +kernel
theorem dX6_begins_7 : decode cX6_begins 7 = .ok (.istore_n 3, 1) := by decide +kernel
theorem dX6_begins_8 : decode cX6_begins 8 = .ok (.iload_n 3, 1) := by decide +kernel
theorem dX6_begins_9 : decode cX6_begins 9 = .ok (.iload_n 1, 1) := by decide +kernel
theorem dX6_begins_10 : decode cX6_begins 10 = .ok (.if_icmp .ge 25, 3) := by decide +kernel
theorem dX6_begins_13 : decode cX6_begins 13 = .ok (.iload_n 2, 1) := by decide +kernel
theorem dX6_begins_14 : decode cX6_begins 14 = .ok (.aload_n 0, 1) := by decide +kernel
theorem dX6_begins_15 : decode cX6_begins 15 = .ok (.iload_n 3, 1) := by decide +kernel
theorem dX6_begins_16 : decode cX6_begins 16 = .ok (.invokevirtual 52, 3) := by decide +kernel
theorem dX6_begins_19 : decode cX6_begins 19 = .ok (.ifCond .eq 7, 3) := by decide +kernel
theorem dX6_begins_22 : decode cX6_begins 22 = .ok (.iconst 1, 1) := by decide +kernel
theorem dX6_begins_23 : decode cX6_begins 23 = .ok (.goto 4, 3) := by decide +kernel
theorem dX6_begins_26 : decode cX6_begins 26 = .ok (.iconst 0, 1) := by decide +kernel
theorem dX6_begins_27 : decode cX6_begins 27 = .ok (.iadd, 1) := by decide +kernel
theorem dX6_begins_28 : decode cX6_begins 28 = .ok (.istore_n 2, 1) := by decide +kernel
theorem dX6_begins_29 : decode cX6_begins 29 = .ok (.iinc 3 1, 3) := by decide +kernel
theorem dX6_begins_32 : decode cX6_begins 32 = .ok (.goto (-24), 3) := by decide +kernel
theorem dX6_begins_35 : decode cX6_begins 35 = .ok (.iload_n 2, 1) := by decide +kernel
theorem dX6_begins_36 : decode cX6_begins 36 = .ok (.ireturn, 1) := by decide +kernel
set_option maxRecDepth 20000 in
theorem ggX6_monthDays_X6_isLeap : GoodIn wsX6_monthDays wsX6_isLeap := goodIn_r _ [5, 6, 7, 8, 9, 10, 11, 12, 13, 14, 15, 16, 17, 18, 19, 20] (by decide +kernel) (by decide +kernel)
set_option maxRecDepth 20000 in
theorem gX6_monthDays_X6_isLeap : GoodIn wsX6_monthDays (wsV RX6 52 RX6 yX6_isLeap wsX6_isLeap) := goodIn_app (goodIn_of _ (by decide +kernel)) ggX6_monthDays_X6_isLeap
theorem dX6_monthDays_0 : decode cX6_monthDays 0 = .ok (.iload_n 2, 1) := by decide +kernel
theorem dX6_monthDays_1 : decode cX6_monthDays 1 = .ok (.iconst 2, 1) := by decide +kernel
theorem dX6_monthDays_2 : decode cX6_monthDays 2 = .ok (.irem, 1) := by decide +kernel
theorem dX6_monthDays_3 : decode cX6_monthDays 3 = .ok (.ifCond .eq 17, 3) := by decide +kernel
theorem dX6_monthDays_6 : decode cX6_monthDays 6 = .ok (.iload_n 2, 1) := by decide +kernel
theorem dX6_monthDays_7 : decode cX6_monthDays 7 = .ok (.bipush 11, 2) := by decide +kernel
theorem dX6_monthDays_9 : decode cX6_monthDays 9 = .ok (.if_icmp .ne 16, 3) := by decide +kernel
theorem dX6_monthDays_12 : decode cX6_monthDays 12 = .ok (.aload_n 0, 1) := by decide +kernel
theorem dX6_monthDays_13 : decode cX6_monthDays 13 = .ok (.iload_n 1, 1) := by decide +kernel
theorem dX6_monthDays_14 : decode cX6_monthDays 14 = .ok (.invokevirtual 52, 3) := by decide +kernel
theorem dX6_monthDays_17 : decode cX6_monthDays 17 = .ok (.ifCond .ne 8, 3) := by decide +kernel
theorem dX6_monthDays_20 : decode cX6_monthDays 20 = .ok (.bipush 30, 2) := by decide +kernel
theorem dX6_monthDays_22 : decode cX6_monthDays 22 = .ok (.goto 5, 3) := by decide +kernel
theorem dX6_monthDays_25 : decode cX6_monthDays 25 = .ok (.bipush 31, 2) := by decide +kernel
theorem dX6_monthDays_27 : decode cX6_monthDays 27 = .ok (.ireturn, 1) := by decide +kernel
set_option maxRecDepth 20000 in
theorem ggX6_leap_X6_isYear : GoodIn wsX6_leap wsX6_isYear := goodIn_r _ [5, 6, 7, 4, 8] (by decide +kernel) (by decide +kernel)
set_option maxRecDepth 20000 in
theorem gX6_leap_X6_isYear : GoodIn wsX6_leap (va_wsS RX6 56 yX6_isYear wsX6_isYear) := goodIn_app (goodIn_of _ (by decide +kernel)) ggX6_leap_X6_isYear
set_option maxRecDepth 20000 in
theorem ggX6_leap_X6_isLeap : GoodIn wsX6_leap wsX6_isLeap := goodIn_r _ [12, 13, 14, 15, 16, 17, 18, 19, 20, 21, 22, 23, 24, 25, 26, 27] (by decide +kernel) (by decide +kernel)
set_option maxRecDepth 20000 in
theorem gX6_leap_X6_isLeap : GoodIn wsX6_leap (wsV RX6 52 RX6 yX6_isLeap wsX6_isLeap) := goodIn_app (goodIn_of _ (by decide +kernel)) ggX6_leap_X6_isLeap
theorem dX6_leap_0 : decode cX6_leap 0 = .ok (.aload_n 0, 1) := by decide +kernel
theorem dX6_leap_1 : decode cX6_leap 1 = .ok (.iload_n 1, 1) := by decide +kernel
theorem dX6_leap_2 : decode cX6_leap 2 = .ok (.invokestatic 56, 3) := by decide +kernel
theorem dX6_leap_5 : decode cX6_leap 5 = .ok (.ifCond .eq 7, 3) := by decide +kernel
theorem dX6_leap_8 : decode cX6_leap 8 = .ok (.iconst 0, 1) := by decide +kernel
theorem dX6_leap_9 : decode cX6_leap 9 = .ok (.goto 4, 3) := by decide +kernel
theorem dX6_leap_12 : decode cX6_leap 12 = .ok (.iconst 1, 1) := by decide +kernel
theorem dX6_leap_13 : decode cX6_leap 13 = .ok (.putfield 30, 3) := by decide +kernel
theorem dX6_leap_16 : decode cX6_leap 16 = .ok (.aload_n 0, 1) := by decide +kernel
theorem dX6_leap_17 : decode cX6_leap 17 = .ok (.getfield 30, 3) := by decide +kernel
theorem dX6_leap_20 : decode cX6_leap 20 = .ok (.ifCond .ne 15, 3) := by decide +kernel
theorem dX6_leap_23 : decode cX6_leap 23 = .ok (.aload_n 0, 1) := by decide +kernel
theorem dX6_leap_24 : decode cX6_leap 24 = .ok (.iload_n 1, 1) := by decide +kernel
theorem dX6_leap_25 : decode cX6_leap 25 = .ok (.invokevirtual 52, 3) := by decide +kernel
theorem dX6_leap_28 : decode cX6_leap 28 = .ok (.ifCond .eq 7, 3) := by decide +kernel
theorem dX6_leap_31 : decode cX6_leap 31 = .ok (.iconst 1, 1) := by decide +kernel
theorem dX6_leap_32 : decode cX6_leap 32 = .ok (.goto 4, 3) := by decide +kernel
theorem dX6_leap_35 : decode cX6_leap 35 = .ok (.iconst 0, 1) := by decide +kernel
theorem dX6_leap_36 : decode cX6_leap 36 = .ok (.ireturn, 1) := by decide +kernel
set_option maxRecDepth 20000 in
theorem ggX6_dayOf_X6_begins : GoodIn wsX6_dayOf wsX6_begins := goodIn_r _ [5, 6, 7, 8, 4, 9, 10, 11, 16, 17, 18, 19, 20, 21, 22, 23, 24, 25, 26, 27, 28] (by decide +kernel) (by decide +kernel)
set_option maxRecDepth 20000 in
theorem gX6_dayOf_X6_begins : GoodIn wsX6_dayOf (wsV RX6 59 RX6 yX6_begins wsX6_begins) := goodIn_app (goodIn_of _ (by decide +kernel)) ggX6_dayOf_X6_begins
set_option maxRecDepth 20000 in
theorem ggX6_dayOf_X6_monthDays : GoodIn wsX6_dayOf wsX6_monthDays := goodIn_r _ [15, 6, 7, 8, 4, 9, 10, 11, 16, 17, 18, 19, 20, 21, 22, 23, 24, 25, 26, 27, 28] (by decide +kernel) (by decide +kernel)
set_option maxRecDepth 20000 in
theorem gX6_dayOf_X6_monthDays : GoodIn wsX6_dayOf (wsV RX6 62 RX6 yX6_monthDays wsX6_monthDays) := goodIn_app (goodIn_of _ (by decide +kernel)) ggX6_dayOf_X6_monthDays
theorem dX6_dayOf_0 : decode cX6_dayOf 0 = .ok (.aload_n 0, 1) := by decide +kernel
theorem dX6_dayOf_1 : decode cX6_dayOf 1 = .ok (.iload_n 1, 1) := by decide +kernel
theorem dX6_dayOf_2 : decode cX6_dayOf 2 = .ok (.invokevirtual 59, 3) := by decide +kernel
theorem dX6_dayOf_5 : decode cX6_dayOf 5 = .ok (.iload_n 3, 1) := by decide +kernel
theorem dX6_dayOf_6 : decode cX6_dayOf 6 = .ok (.iadd, 1) := by decide +kernel
theorem dX6_dayOf_7 : decode cX6_dayOf 7 = .ok (.istore 4, 2) := by decide +kernel
theorem dX6_dayOf_9 : decode cX6_dayOf 9 = .ok (.iconst 0, 1) := by decide +kernel
theorem dX6_dayOf_10 : decode cX6_dayOf 10 = .ok (.istore 5, 2) := by decide +kernel
theorem dX6_dayOf_12 : decode cX6_dayOf 12 = .ok (.iload 5, 2) := by decide +kernel
theorem dX6_dayOf_14 : decode cX6_dayOf 14 = .ok (.iload_n 2, 1) := by decide +kernel
theorem dX6_dayOf_15 : decode cX6_dayOf 15 = .ok (.if_icmp .ge 21, 3) := by decide +kernel
theorem dX6_dayOf_18 : decode cX6_dayOf 18 = .ok (.iload 4, 2) := by decide +kernel
theorem dX6_dayOf_20 : decode cX6_dayOf 20 = .ok (.aload_n 0, 1) := by decide +kernel
theorem dX6_dayOf_21 : decode cX6_dayOf 21 = .ok (.iload_n 1, 1) := by decide +kernel
theorem dX6_dayOf_22 : decode cX6_dayOf 22 = .ok (.iload 5, 2) := by decide +kernel
theorem dX6_dayOf_24 : decode cX6_dayOf 24 = .ok (.invokevirtual 62, 3) := by decide +kernel
theorem dX6_dayOf_27 : decode cX6_dayOf 27 = .ok (.iadd, 1) := by decide +kernel
theorem dX6_dayOf_28 : decode cX6_dayOf 28 = .ok (.istore 4, 2) := by decide +kernel
theorem dX6_dayOf_30 : decode cX6_dayOf 30 = .ok (.iinc 5 1, 3) := by decide +kernel
theorem dX6_dayOf_33 : decode cX6_dayOf 33 = .ok (.goto (-21), 3) := by decide +kernel
theorem dX6_dayOf_36 : decode cX6_dayOf 36 = .ok (.iload 4, 2) := by decide +kernel
theorem dX6_dayOf_38 : decode cX6_dayOf 38 = .ok (.ireturn, 1) := by decide +kernel
set_option maxRecDepth 20000 in
theorem ggX6_day_X6_isYear : GoodIn wsX6_day wsX6_isYear := goodIn_r _ [5, 6, 7, 4, 8] (by decide +kernel) (by decide +kernel)
set_option maxRecDepth 20000 in
theorem gX6_day_X6_isYear : GoodIn wsX6_day (va_wsS RX6 56 yX6_isYear wsX6_isYear) := goodIn_app (goodIn_of _ (by decide +kernel)) ggX6_day_X6_isYear
set_option maxRecDepth 20000 in
theorem ggX6_day_X6_isIn : GoodIn wsX6_day wsX6_isIn := goodIn_r _ [8] (by decide +kernel) (by decide +kernel)
set_option maxRecDepth 20000 in
theorem gX6_day_X6_isIn : GoodIn wsX6_day (va_wsS RX6 33 yX6_isIn wsX6_isIn) := goodIn_app (goodIn_of _ (by decide +kernel)) ggX6_day_X6_isIn
set_option maxRecDepth 20000 in
theorem ggX6_day_X6_monthDays : GoodIn wsX6_day wsX6_monthDays := goodIn_r _ [12, 13, 14, 15, 4, 16, 17, 18, 31, 32, 33, 34, 35, 36, 37, 38, 39, 40, 41, 42, 43] (by decide +kernel) (by decide +kernel)
set_option maxRecDepth 20000 in
theorem gX6_day_X6_monthDays : GoodIn wsX6_day (wsV RX6 62 RX6 yX6_monthDays wsX6_monthDays) := goodIn_app (goodIn_of _ (by decide +kernel)) ggX6_day_X6_monthDays
set_option maxRecDepth 20000 in
theorem ggX6_day_X6_fail : GoodIn wsX6_day wsX6_fail := goodIn_r _ [22, 1, 31, 32, 33, 34, 35, 36, 37, 38, 39, 40, 41, 42, 43] (by decide +kernel) (by decide +kernel)
set_option maxRecDepth 20000 in
theorem gX6_day_X6_fail : GoodIn wsX6_day (wsV RX6 37 RX6 yX6_fail wsX6_fail) := goodIn_app (goodIn_of _ (by decide +kernel)) ggX6_day_X6_fail
set_option maxRecDepth 20000 in
theorem ggX6_day_X6_dayOf : GoodIn wsX6_day wsX6_dayOf := goodIn_r _ [26, 27, 28, 29, 4, 30, 13, 14, 15, 16, 17, 18, 9, 10, 11, 12, 31, 32, 33, 34, 35, 36, 37, 38, 39, 40, 41, 42, 43] (by decide +kernel) (by decide +kernel)
set_option maxRecDepth 20000 in
theorem gX6_day_X6_dayOf : GoodIn wsX6_day (wsV RX6 66 RX6 yX6_dayOf wsX6_dayOf) := goodIn_app (goodIn_of _ (by decide +kernel)) ggX6_day_X6_dayOf
theorem dX6_day_0 : decode cX6_day 0 = .ok (.aload_n 0, 1) := by decide +kernel
theorem dX6_day_1 : decode cX6_day 1 = .ok (.iconst 0, 1) := by decide +kernel
theorem dX6_day_2 : decode cX6_day 2 = .ok (.putfield 30, 3) := by decide +kernel
theorem dX6_day_5 : decode cX6_day 5 = .ok (.iload_n 1, 1) := by decide +kernel
theorem dX6_day_6 : decode cX6_day 6 = .ok (.invokestatic 56, 3) := by decide +kernel
theorem dX6_day_9 : decode cX6_day 9 = .ok (.ifCond .eq 29, 3) := by decide +kernel
theorem dX6_day_12 : decode cX6_day 12 = .ok (.iload_n 2, 1) := by decide +kernel
theorem dX6_day_13 : decode cX6_day 13 = .ok (.iconst 0, 1) := by decide +kernel
theorem dX6_day_14 : decode cX6_day 14 = .ok (.bipush 11, 2) := by decide +kernel
theorem dX6_day_16 : decode cX6_day 16 = .ok (.invokestatic 33, 3) := by decide +kernel
theorem dX6_day_19 : decode cX6_day 19 = .ok (.ifCond .eq 19, 3) := by decide +kernel
theorem dX6_day_22 : decode cX6_day 22 = .ok (.iload_n 3, 1) := by decide +kernel
theorem dX6_day_23 : decode cX6_day 23 = .ok (.iconst 0, 1) := by decide +kernel
theorem dX6_day_24 : decode cX6_day 24 = .ok (.aload_n 0, 1) := by decide +kernel
theorem dX6_day_25 : decode cX6_day 25 = .ok (.iload_n 1, 1) := by decide +kernel
theorem dX6_day_26 : decode cX6_day 26 = .ok (.iload_n 2, 1) := by decide +kernel
theorem dX6_day_27 : decode cX6_day 27 = .ok (.invokevirtual 62, 3) := by decide +kernel
theorem dX6_day_30 : decode cX6_day 30 = .ok (.iconst 1, 1) := by decide +kernel
theorem dX6_day_31 : decode cX6_day 31 = .ok (.isub, 1) := by decide +kernel
theorem dX6_day_32 : decode cX6_day 32 = .ok (.invokestatic 33, 3) := by decide +kernel
theorem dX6_day_35 : decode cX6_day 35 = .ok (.ifCond .ne 9, 3) := by decide +kernel
theorem dX6_day_38 : decode cX6_day 38 = .ok (.aload_n 0, 1) := by decide +kernel
theorem dX6_day_39 : decode cX6_day 39 = .ok (.iconst 1, 1) := by decide +kernel
theorem dX6_day_40 : decode cX6_day 40 = .ok (.invokevirtual 37, 3) := by decide +kernel
theorem dX6_day_43 : decode cX6_day 43 = .ok (.ireturn, 1) := by decide +kernel
theorem dX6_day_44 : decode cX6_day 44 = .ok (.aload_n 0, 1) := by decide +kernel
theorem dX6_day_45 : decode cX6_day 45 = .ok (.iload_n 1, 1) := by decide +kernel
theorem dX6_day_46 : decode cX6_day 46 = .ok (.iload_n 2, 1) := by decide +kernel
theorem dX6_day_47 : decode cX6_day 47 = .ok (.iload_n 3, 1) := by decide +kernel
theorem dX6_day_48 : decode cX6_day 48 = .ok (.invokevirtual 66, 3) := by decide +kernel
theorem dX6_day_51 : decode cX6_day 51 = .ok (.ireturn, 1) := by decide +kernel
set_option maxRecDepth 20000 in
theorem ggX6_isDay_X6_begins : GoodIn wsX6_isDay wsX6_begins := goodIn_r _ [5, 6, 7, 8, 4, 9, 10, 11, 15, 16, 17, 18, 19, 20, 21, 22, 23, 24, 25, 26, 27] (by decide +kernel) (by decide +kernel)
set_option maxRecDepth 20000 in
theorem gX6_isDay_X6_begins : GoodIn wsX6_isDay (wsV RX6 59 RX6 yX6_begins wsX6_begins) := goodIn_app (goodIn_of _ (by decide +kernel)) ggX6_isDay_X6_begins
set_option maxRecDepth 20000 in
theorem ggX6_isDay_X6_isIn : GoodIn wsX6_isDay wsX6_isIn := goodIn_r _ [14] (by decide +kernel) (by decide +kernel)
set_option maxRecDepth 20000 in
theorem gX6_isDay_X6_isIn : GoodIn wsX6_isDay (va_wsS RX6 33 yX6_isIn wsX6_isIn) := goodIn_app (goodIn_of _ (by decide +kernel)) ggX6_isDay_X6_isIn
theorem dX6_isDay_0 : decode cX6_isDay 0 = .ok (.iload_n 1, 1) := by decide +kernel
theorem dX6_isDay_1 : decode cX6_isDay 1 = .ok (.iconst 0, 1) := by decide +kernel
theorem dX6_isDay_2 : decode cX6_isDay 2 = .ok (.aload_n 0, 1) := by decide +kernel
theorem dX6_isDay_3 : decode cX6_isDay 3 = .ok (.sipush 1000, 3) := by decide +kernel
theorem dX6_isDay_6 : decode cX6_isDay 6 = .ok (.invokevirtual 59, 3) := by decide +kernel
theorem dX6_isDay_9 : decode cX6_isDay 9 = .ok (.iconst 1, 1) := by decide +kernel
theorem dX6_isDay_10 : decode cX6_isDay 10 = .ok (.isub, 1) := by decide +kernel
theorem dX6_isDay_11 : decode cX6_isDay 11 = .ok (.invokestatic 33, 3) := by decide +kernel
theorem dX6_isDay_14 : decode cX6_isDay 14 = .ok (.ireturn, 1) := by decide +kernel
set_option maxRecDepth 20000 in
theorem ggX6_yearOf_X6_isLeap : GoodIn wsX6_yearOf wsX6_isLeap := goodIn_r _ [5, 6, 7, 8, 9, 10, 11, 12, 13, 14, 15, 16, 17, 18, 19, 20] (by decide +kernel) (by decide +kernel)
set_option maxRecDepth 20000 in
theorem gX6_yearOf_X6_isLeap : GoodIn wsX6_yearOf (wsV RX6 52 RX6 yX6_isLeap wsX6_isLeap) := goodIn_app (goodIn_of _ (by decide +kernel)) ggX6_yearOf_X6_isLeap
theorem dX6_yearOf_0 : decode cX6_yearOf 0 = .ok (.iconst 0, 1) := by decide +kernel
theorem dX6_yearOf_1 : decode cX6_yearOf 1 = .ok (.istore_n 2, 1) := by decide +kernel
theorem dX6_yearOf_2 : decode cX6_yearOf 2 = .ok (.iload_n 1, 1) := by decide +kernel
theorem dX6_yearOf_3 : decode cX6_yearOf 3 = .ok (.istore_n 3, 1) := by decide +kernel
theorem dX6_yearOf_4 : decode cX6_yearOf 4 = .ok (.sipush 365, 3) := by decide +kernel
theorem dX6_yearOf_7 : decode cX6_yearOf 7 = .ok (.aload_n 0, 1) := by decide +kernel
theorem dX6_yearOf_8 : decode cX6_yearOf 8 = .ok (.iconst 0, 1) := by decide +kernel
theorem dX6_yearOf_9 : decode cX6_yearOf 9 = .ok (.invokevirtual 52, 3) := by decide +kernel
theorem dX6_yearOf_12 : decode cX6_yearOf 12 = .ok (.ifCond .eq 7, 3) := by decide +kernel
theorem dX6_yearOf_15 : decode cX6_yearOf 15 = .ok (.iconst 1, 1) := by decide +kernel
theorem dX6_yearOf_16 : decode cX6_yearOf 16 = .ok (.goto 4, 3) := by decide +kernel
theorem dX6_yearOf_19 : decode cX6_yearOf 19 = .ok (.iconst 0, 1) := by decide +kernel
theorem dX6_yearOf_20 : decode cX6_yearOf 20 = .ok (.iadd, 1) := by decide +kernel
theorem dX6_yearOf_21 : decode cX6_yearOf 21 = .ok (.istore 4, 2) := by decide +kernel
theorem dX6_yearOf_23 : decode cX6_yearOf 23 = .ok (.iload_n 3, 1) := by decide +kernel
theorem dX6_yearOf_24 : decode cX6_yearOf 24 = .ok (.iload 4, 2) := by decide +kernel
theorem dX6_yearOf_26 : decode cX6_yearOf 26 = .ok (.if_icmp .lt 33, 3) := by decide +kernel
theorem dX6_yearOf_29 : decode cX6_yearOf 29 = .ok (.iload_n 3, 1) := by decide +kernel
theorem dX6_yearOf_30 : decode cX6_yearOf 30 = .ok (.iload 4, 2) := by decide +kernel
theorem dX6_yearOf_32 : decode cX6_yearOf 32 = .ok (.isub, 1) := by decide +kernel
theorem dX6_yearOf_33 : decode cX6_yearOf 33 = .ok (.istore_n 3, 1) := by decide +kernel
theorem dX6_yearOf_34 : decode cX6_yearOf 34 = .ok (.iinc 2 1, 3) := by decide +kernel
theorem dX6_yearOf_37 : decode cX6_yearOf 37 = .ok (.sipush 365, 3) := by decide +kernel
theorem dX6_yearOf_40 : decode cX6_yearOf 40 = .ok (.aload_n 0, 1) := by decide +kernel
theorem dX6_yearOf_41 : decode cX6_yearOf 41 = .ok (.iload_n 2, 1) := by decide +kernel
theorem dX6_yearOf_42 : decode cX6_yearOf 42 = .ok (.invokevirtual 52, 3) := by decide +kernel
theorem dX6_yearOf_45 : decode cX6_yearOf 45 = .ok (.ifCond .eq 7, 3) := by decide +kernel
theorem dX6_yearOf_48 : decode cX6_yearOf 48 = .ok (.iconst 1, 1) := by decide +kernel
theorem dX6_yearOf_49 : decode cX6_yearOf 49 = .ok (.goto 4, 3) := by decide +kernel
theorem dX6_yearOf_52 : decode cX6_yearOf 52 = .ok (.iconst 0, 1) := by decide +kernel
theorem dX6_yearOf_53 : decode cX6_yearOf 53 = .ok (.iadd, 1) := by decide +kernel
theorem dX6_yearOf_54 : decode cX6_yearOf 54 = .ok (.istore 4, 2) := by decide +kernel
theorem dX6_yearOf_56 : decode cX6_yearOf 56 = .ok (.goto (-33), 3) := by decide +kernel
theorem dX6_yearOf_59 : decode cX6_yearOf 59 = .ok (.iload_n 2, 1) := by decide +kernel
theorem dX6_yearOf_60 : decode cX6_yearOf 60 = .ok (.ireturn, 1) := by decide +kernel
set_option maxRecDepth 20000 in
theorem ggX6_inYear_X6_yearOf : GoodIn wsX6_inYear wsX6_yearOf := goodIn_r _ [5, 6, 7, 8, 4, 9, 10, 11, 20, 21, 22, 23, 24, 25, 26, 27, 28, 29, 30, 31, 32] (by decide +kernel) (by decide +kernel)
set_option maxRecDepth 20000 in
theorem gX6_inYear_X6_yearOf : GoodIn wsX6_inYear (wsV RX6 70 RX6 yX6_yearOf wsX6_yearOf) := goodIn_app (goodIn_of _ (by decide +kernel)) ggX6_inYear_X6_yearOf
set_option maxRecDepth 20000 in
theorem ggX6_inYear_X6_begins : GoodIn wsX6_inYear wsX6_begins := goodIn_r _ [15, 6, 7, 8, 4, 9, 10, 11, 20, 21, 22, 23, 24, 25, 26, 27, 28, 29, 30, 31, 32] (by decide +kernel) (by decide +kernel)
set_option maxRecDepth 20000 in
theorem gX6_inYear_X6_begins : GoodIn wsX6_inYear (wsV RX6 59 RX6 yX6_begins wsX6_begins) := goodIn_app (goodIn_of _ (by decide +kernel)) ggX6_inYear_X6_begins
set_option maxRecDepth 20000 in
theorem ggX6_inYear_X6_monthDays : GoodIn wsX6_inYear wsX6_monthDays := goodIn_r _ [19, 6, 7, 8, 4, 9, 10, 11, 20, 21, 22, 23, 24, 25, 26, 27, 28, 29, 30, 31, 32] (by decide +kernel) (by decide +kernel)
set_option maxRecDepth 20000 in
theorem gX6_inYear_X6_monthDays : GoodIn wsX6_inYear (wsV RX6 62 RX6 yX6_monthDays wsX6_monthDays) := goodIn_app (goodIn_of _ (by decide +kernel)) ggX6_inYear_X6_monthDays
theorem dX6_inYear_0 : decode cX6_inYear 0 = .ok (.aload_n 0, 1) := by decide +kernel
theorem dX6_inYear_1 : decode cX6_inYear 1 = .ok (.iload_n 1, 1) := by decide +kernel
theorem dX6_inYear_2 : decode cX6_inYear 2 = .ok (.invokevirtual 70, 3) := by decide +kernel
theorem dX6_inYear_5 : decode cX6_inYear 5 = .ok (.istore_n 3, 1) := by decide +kernel
theorem dX6_inYear_6 : decode cX6_inYear 6 = .ok (.iload_n 1, 1) := by decide +kernel
theorem dX6_inYear_7 : decode cX6_inYear 7 = .ok (.aload_n 0, 1) := by decide +kernel
theorem dX6_inYear_8 : decode cX6_inYear 8 = .ok (.iload_n 3, 1) := by decide +kernel
theorem dX6_inYear_9 : decode cX6_inYear 9 = .ok (.invokevirtual 59, 3) := by decide +kernel
theorem dX6_inYear_12 : decode cX6_inYear 12 = .ok (.isub, 1) := by decide +kernel
theorem dX6_inYear_13 : decode cX6_inYear 13 = .ok (.istore 4, 2) := by decide +kernel
theorem dX6_inYear_15 : decode cX6_inYear 15 = .ok (.iconst 0, 1) := by decide +kernel
theorem dX6_inYear_16 : decode cX6_inYear 16 = .ok (.istore 5, 2) := by decide +kernel
theorem dX6_inYear_18 : decode cX6_inYear 18 = .ok (.iload 4, 2) := by decide +kernel
theorem dX6_inYear_20 : decode cX6_inYear 20 = .ok (.aload_n 0, 1) := by decide +kernel
theorem dX6_inYear_21 : decode cX6_inYear 21 = .ok (.iload_n 3, 1) := by decide +kernel
theorem dX6_inYear_22 : decode cX6_inYear 22 = .ok (.iload 5, 2) := by decide +kernel
theorem dX6_inYear_24 : decode cX6_inYear 24 = .ok (.invokevirtual 62, 3) := by decide +kernel
theorem dX6_inYear_27 : decode cX6_inYear 27 = .ok (.if_icmp .lt 21, 3) := by decide +kernel
theorem dX6_inYear_30 : decode cX6_inYear 30 = .ok (.iload 4, 2) := by decide +kernel
theorem dX6_inYear_32 : decode cX6_inYear 32 = .ok (.aload_n 0, 1) := by decide +kernel
theorem dX6_inYear_33 : decode cX6_inYear 33 = .ok (.iload_n 3, 1) := by decide +kernel
theorem dX6_inYear_34 : decode cX6_inYear 34 = .ok (.iload 5, 2) := by decide +kernel
theorem dX6_inYear_36 : decode cX6_inYear 36 = .ok (.invokevirtual 62, 3) := by decide +kernel
theorem dX6_inYear_39 : decode cX6_inYear 39 = .ok (.isub, 1) := by decide +kernel
theorem dX6_inYear_40 : decode cX6_inYear 40 = .ok (.istore 4, 2) := by decide +kernel
theorem dX6_inYear_42 : decode cX6_inYear 42 = .ok (.iinc 5 1, 3) := by decide +kernel
theorem dX6_inYear_45 : decode cX6_inYear 45 = .ok (.goto (-27), 3) := by decide +kernel
theorem dX6_inYear_48 : decode cX6_inYear 48 = .ok (.iload_n 2, 1) := by decide +kernel
theorem dX6_inYear_49 : decode cX6_inYear 49 = .ok (.ifCond .eq 8, 3) := by decide +kernel
theorem dX6_inYear_52 : decode cX6_inYear 52 = .ok (.iload 5, 2) := by decide +kernel
theorem dX6_inYear_54 : decode cX6_inYear 54 = .ok (.goto 5, 3) := by decide +kernel
theorem dX6_inYear_57 : decode cX6_inYear 57 = .ok (.iload 4, 2) := by decide +kernel
theorem dX6_inYear_59 : decode cX6_inYear 59 = .ok (.ireturn, 1) := by decide +kernel
theorem dX6_time_0 : decode cX6_time 0 = .ok (.aload_n 0, 1) := by decide +kernel
theorem dX6_time_1 : decode cX6_time 1 = .ok (.getfield 43, 3) := by decide +kernel
theorem dX6_time_4 : decode cX6_time 4 = .ok (.iload_n 1, 1) := by decide +kernel
theorem dX6_time_5 : decode cX6_time 5 = .ok (.aload_n 0, 1) := by decide +kernel
theorem dX6_time_6 : decode cX6_time 6 = .ok (.getfield 16, 3) := by decide +kernel
theorem dX6_time_9 : decode cX6_time 9 = .ok (.imul, 1) := by decide +kernel
theorem dX6_time_10 : decode cX6_time 10 = .ok (.iadd, 1) := by decide +kernel
theorem dX6_time_11 : decode cX6_time 11 = .ok (.iload_n 2, 1) := by decide +kernel
theorem dX6_time_12 : decode cX6_time 12 = .ok (.ifCond .eq 12, 3) := by decide +kernel
theorem dX6_time_15 : decode cX6_time 15 = .ok (.aload_n 0, 1) := by decide +kernel
theorem dX6_time_16 : decode cX6_time 16 = .ok (.getfield 16, 3) := by decide +kernel
theorem dX6_time_19 : decode cX6_time 19 = .ok (.iconst 2, 1) := by decide +kernel
theorem dX6_time_20 : decode cX6_time 20 = .ok (.idiv, 1) := by decide +kernel
theorem dX6_time_21 : decode cX6_time 21 = .ok (.goto 4, 3) := by decide +kernel
theorem dX6_time_24 : decode cX6_time 24 = .ok (.iconst 0, 1) := by decide +kernel
theorem dX6_time_25 : decode cX6_time 25 = .ok (.iadd, 1) := by decide +kernel
theorem dX6_time_26 : decode cX6_time 26 = .ok (.ireturn, 1) := by decide +kernel
set_option maxRecDepth 20000 in
theorem ggX6_falls_X6_time : GoodIn wsX6_falls wsX6_time := goodIn_r _ [5, 6, 7, 8, 9, 10, 11, 12, 13, 14, 15, 16, 17, 18, 19, 20] (by decide +kernel) (by decide +kernel)
set_option maxRecDepth 20000 in
theorem gX6_falls_X6_time : GoodIn wsX6_falls (wsV RX6 73 RX6 yX6_time wsX6_time) := goodIn_app (goodIn_of _ (by decide +kernel)) ggX6_falls_X6_time
theorem dX6_falls_0 : decode cX6_falls 0 = .ok (.aload_n 0, 1) := by decide +kernel
theorem dX6_falls_1 : decode cX6_falls 1 = .ok (.iload_n 1, 1) := by decide +kernel
theorem dX6_falls_2 : decode cX6_falls 2 = .ok (.iload_n 2, 1) := by decide +kernel
theorem dX6_falls_3 : decode cX6_falls 3 = .ok (.invokevirtual 73, 3) := by decide +kernel
theorem dX6_falls_6 : decode cX6_falls 6 = .ok (.sipush 1000, 3) := by decide +kernel
theorem dX6_falls_9 : decode cX6_falls 9 = .ok (.idiv, 1) := by decide +kernel
theorem dX6_falls_10 : decode cX6_falls 10 = .ok (.ireturn, 1) := by decide +kernel
set_option maxRecDepth 20000 in
theorem ggX6_moonFrom_X6_falls : GoodIn wsX6_moonFrom wsX6_falls := goodIn_r _ [12, 13, 14, 15, 11, 16, 2, 3, 17, 18, 19, 20, 21, 22, 23, 24, 25, 26, 27, 28, 29] (by decide +kernel) (by decide +kernel)
set_option maxRecDepth 20000 in
theorem gX6_moonFrom_X6_falls : GoodIn wsX6_moonFrom (wsV RX6 84 RX6 yX6_falls wsX6_falls) := goodIn_app (goodIn_of _ (by decide +kernel)) ggX6_moonFrom_X6_falls
theorem dX6_moonFrom_0 : decode cX6_moonFrom 0 = .ok (.iconst 0, 1) := by decide +kernel
theorem dX6_moonFrom_1 : decode cX6_moonFrom 1 = .ok (.ldc2_w 77, 3) := by decide +kernel
theorem dX6_moonFrom_4 : decode cX6_moonFrom 4 = .ok (.iload_n 1, 1) := by decide +kernel
theorem dX6_moonFrom_5 : decode cX6_moonFrom 5 = .ok (.i2l, 1) := by decide +kernel
theorem dX6_moonFrom_6 : decode cX6_moonFrom 6 = .ok (.lmul, 1) := by decide +kernel
theorem dX6_moonFrom_7 : decode cX6_moonFrom 7 = .ok (.aload_n 0, 1) := by decide +kernel
theorem dX6_moonFrom_8 : decode cX6_moonFrom 8 = .ok (.getfield 43, 3) := by decide +kernel
theorem dX6_moonFrom_11 : decode cX6_moonFrom 11 = .ok (.i2l, 1) := by decide +kernel
theorem dX6_moonFrom_12 : decode cX6_moonFrom 12 = .ok (.lsub, 1) := by decide +kernel
theorem dX6_moonFrom_13 : decode cX6_moonFrom 13 = .ok (.aload_n 0, 1) := by decide +kernel
theorem dX6_moonFrom_14 : decode cX6_moonFrom 14 = .ok (.getfield 16, 3) := by decide +kernel
theorem dX6_moonFrom_17 : decode cX6_moonFrom 17 = .ok (.i2l, 1) := by decide +kernel
theorem dX6_moonFrom_18 : decode cX6_moonFrom 18 = .ok (.ldiv, 1) := by decide +kernel
theorem dX6_moonFrom_19 : decode cX6_moonFrom 19 = .ok (.l2i, 1) := by decide +kernel
theorem dX6_moonFrom_20 : decode cX6_moonFrom 20 = .ok (.iconst 2, 1) := by decide +kernel
theorem dX6_moonFrom_21 : decode cX6_moonFrom 21 = .ok (.isub, 1) := by decide +kernel
theorem dX6_moonFrom_22 : decode cX6_moonFrom 22 = .ok (.invokestatic 79, 3) := by decide +kernel
theorem dX6_moonFrom_25 : decode cX6_moonFrom 25 = .ok (.istore_n 3, 1) := by decide +kernel
theorem dX6_moonFrom_26 : decode cX6_moonFrom 26 = .ok (.aload_n 0, 1) := by decide +kernel
theorem dX6_moonFrom_27 : decode cX6_moonFrom 27 = .ok (.iload_n 3, 1) := by decide +kernel
theorem dX6_moonFrom_28 : decode cX6_moonFrom 28 = .ok (.iload_n 2, 1) := by decide +kernel
theorem dX6_moonFrom_29 : decode cX6_moonFrom 29 = .ok (.invokevirtual 84, 3) := by decide +kernel
theorem dX6_moonFrom_32 : decode cX6_moonFrom 32 = .ok (.iload_n 1, 1) := by decide +kernel
theorem dX6_moonFrom_33 : decode cX6_moonFrom 33 = .ok (.if_icmp .ge 9, 3) := by decide +kernel
theorem dX6_moonFrom_36 : decode cX6_moonFrom 36 = .ok (.iinc 3 1, 3) := by decide +kernel
theorem dX6_moonFrom_39 : decode cX6_moonFrom 39 = .ok (.goto (-13), 3) := by decide +kernel
theorem dX6_moonFrom_42 : decode cX6_moonFrom 42 = .ok (.iload_n 3, 1) := by decide +kernel
theorem dX6_moonFrom_43 : decode cX6_moonFrom 43 = .ok (.ireturn, 1) := by decide +kernel
set_option maxRecDepth 20000 in
theorem ggX6_dated_X6_yearOf : GoodIn wsX6_dated wsX6_yearOf := goodIn_r _ [5, 6, 7, 8, 4, 9, 10, 11, 43, 44, 45, 46, 47, 48, 49, 50, 51, 52, 53, 54, 55] (by decide +kernel) (by decide +kernel)
set_option maxRecDepth 20000 in
theorem gX6_dated_X6_yearOf : GoodIn wsX6_dated (wsV RX6 70 RX6 yX6_yearOf wsX6_yearOf) := goodIn_app (goodIn_of _ (by decide +kernel)) ggX6_dated_X6_yearOf
set_option maxRecDepth 20000 in
theorem ggX6_dated_X6_inYear : GoodIn wsX6_dated wsX6_inYear := goodIn_r _ [15, 1, 2, 3, 4, 5, 6, 7, 8, 9, 10, 11, 16, 17, 18, 19, 20, 21, 22, 23, 43, 44, 45, 46, 47, 48, 49, 50, 51, 52, 53, 54, 55] (by decide +kernel) (by decide +kernel)
set_option maxRecDepth 20000 in
theorem gX6_dated_X6_inYear : GoodIn wsX6_dated (wsV RX6 87 RX6 yX6_inYear wsX6_inYear) := goodIn_app (goodIn_of _ (by decide +kernel)) ggX6_dated_X6_inYear
set_option maxRecDepth 20000 in
theorem ggX6_dated_X6_moonFrom : GoodIn wsX6_dated wsX6_moonFrom := goodIn_r _ [27, 28, 29, 30, 31, 32, 33, 34, 35, 36, 37, 4, 38, 39, 40, 41, 42, 43, 44, 45, 46, 47, 48, 49, 50, 51, 52, 53, 54, 55] (by decide +kernel) (by decide +kernel)
set_option maxRecDepth 20000 in
theorem gX6_dated_X6_moonFrom : GoodIn wsX6_dated (wsV RX6 90 RX6 yX6_moonFrom wsX6_moonFrom) := goodIn_app (goodIn_of _ (by decide +kernel)) ggX6_dated_X6_moonFrom
set_option maxRecDepth 20000 in
theorem ggX6_dated_X6_falls : GoodIn wsX6_dated wsX6_falls := goodIn_r _ [38, 39, 40, 41, 4, 42, 29, 30, 43, 44, 45, 46, 47, 48, 49, 50, 51, 52, 53, 54, 55] (by decide +kernel) (by decide +kernel)
set_option maxRecDepth 20000 in
theorem gX6_dated_X6_falls : GoodIn wsX6_dated (wsV RX6 84 RX6 yX6_falls wsX6_falls) := goodIn_app (goodIn_of _ (by decide +kernel)) ggX6_dated_X6_falls
theorem dX6_dated_0 : decode cX6_dated 0 = .ok (.iload_n 2, 1) := by decide +kernel
theorem dX6_dated_1 : decode cX6_dated 1 = .ok (.tableswitch 56 0 3 #[31, 37, 44, 51], 31) := by decide +kernel
theorem dX6_dated_32 : decode cX6_dated 32 = .ok (.aload_n 0, 1) := by decide +kernel
theorem dX6_dated_33 : decode cX6_dated 33 = .ok (.iload_n 1, 1) := by decide +kernel
theorem dX6_dated_34 : decode cX6_dated 34 = .ok (.invokevirtual 70, 3) := by decide +kernel
theorem dX6_dated_37 : decode cX6_dated 37 = .ok (.ireturn, 1) := by decide +kernel
theorem dX6_dated_38 : decode cX6_dated 38 = .ok (.aload_n 0, 1) := by decide +kernel
theorem dX6_dated_39 : decode cX6_dated 39 = .ok (.iload_n 1, 1) := by decide +kernel
theorem dX6_dated_40 : decode cX6_dated 40 = .ok (.iconst 1, 1) := by decide +kernel
theorem dX6_dated_41 : decode cX6_dated 41 = .ok (.invokevirtual 87, 3) := by decide +kernel
theorem dX6_dated_44 : decode cX6_dated 44 = .ok (.ireturn, 1) := by decide +kernel
theorem dX6_dated_45 : decode cX6_dated 45 = .ok (.aload_n 0, 1) := by decide +kernel
theorem dX6_dated_46 : decode cX6_dated 46 = .ok (.iload_n 1, 1) := by decide +kernel
theorem dX6_dated_47 : decode cX6_dated 47 = .ok (.iconst 0, 1) := by decide +kernel
theorem dX6_dated_48 : decode cX6_dated 48 = .ok (.invokevirtual 87, 3) := by decide +kernel
theorem dX6_dated_51 : decode cX6_dated 51 = .ok (.ireturn, 1) := by decide +kernel
theorem dX6_dated_52 : decode cX6_dated 52 = .ok (.iload_n 1, 1) := by decide +kernel
theorem dX6_dated_53 : decode cX6_dated 53 = .ok (.bipush 7, 2) := by decide +kernel
theorem dX6_dated_55 : decode cX6_dated 55 = .ok (.irem, 1) := by decide +kernel
theorem dX6_dated_56 : decode cX6_dated 56 = .ok (.ireturn, 1) := by decide +kernel
theorem dX6_dated_57 : decode cX6_dated 57 = .ok (.aload_n 0, 1) := by decide +kernel
theorem dX6_dated_58 : decode cX6_dated 58 = .ok (.iload_n 1, 1) := by decide +kernel
theorem dX6_dated_59 : decode cX6_dated 59 = .ok (.iconst 1, 1) := by decide +kernel
theorem dX6_dated_60 : decode cX6_dated 60 = .ok (.iadd, 1) := by decide +kernel
theorem dX6_dated_61 : decode cX6_dated 61 = .ok (.iconst 0, 1) := by decide +kernel
theorem dX6_dated_62 : decode cX6_dated 62 = .ok (.invokevirtual 90, 3) := by decide +kernel
theorem dX6_dated_65 : decode cX6_dated 65 = .ok (.istore_n 3, 1) := by decide +kernel
theorem dX6_dated_66 : decode cX6_dated 66 = .ok (.iload_n 3, 1) := by decide +kernel
theorem dX6_dated_67 : decode cX6_dated 67 = .ok (.ifCond .ne 7, 3) := by decide +kernel
theorem dX6_dated_70 : decode cX6_dated 70 = .ok (.iconst (-1), 1) := by decide +kernel
theorem dX6_dated_71 : decode cX6_dated 71 = .ok (.goto 13, 3) := by decide +kernel
theorem dX6_dated_74 : decode cX6_dated 74 = .ok (.iload_n 1, 1) := by decide +kernel
theorem dX6_dated_75 : decode cX6_dated 75 = .ok (.aload_n 0, 1) := by decide +kernel
theorem dX6_dated_76 : decode cX6_dated 76 = .ok (.iload_n 3, 1) := by decide +kernel
theorem dX6_dated_77 : decode cX6_dated 77 = .ok (.iconst 1, 1) := by decide +kernel
theorem dX6_dated_78 : decode cX6_dated 78 = .ok (.isub, 1) := by decide +kernel
theorem dX6_dated_79 : decode cX6_dated 79 = .ok (.iconst 0, 1) := by decide +kernel
theorem dX6_dated_80 : decode cX6_dated 80 = .ok (.invokevirtual 84, 3) := by decide +kernel
theorem dX6_dated_83 : decode cX6_dated 83 = .ok (.isub, 1) := by decide +kernel
theorem dX6_dated_84 : decode cX6_dated 84 = .ok (.ireturn, 1) := by decide +kernel
set_option maxRecDepth 20000 in
theorem ggX6_date_X6_isDay : GoodIn wsX6_date wsX6_isDay := goodIn_r _ [6, 7, 8, 9, 5, 10, 11, 12, 13, 14, 15, 16, 17, 18, 19, 59, 60, 61, 62, 63, 64, 65, 66, 67, 68, 69, 70, 71] (by decide +kernel) (by decide +kernel)
set_option maxRecDepth 20000 in
theorem gX6_date_X6_isDay : GoodIn wsX6_date (wsV RX6 93 RX6 yX6_isDay wsX6_isDay) := goodIn_app (goodIn_of _ (by decide +kernel)) ggX6_date_X6_isDay
set_option maxRecDepth 20000 in
theorem ggX6_date_X6_fail : GoodIn wsX6_date wsX6_fail := goodIn_r _ [23, 1, 59, 60, 61, 62, 63, 64, 65, 66, 67, 68, 69, 70, 71] (by decide +kernel) (by decide +kernel)
set_option maxRecDepth 20000 in
theorem gX6_date_X6_fail : GoodIn wsX6_date (wsV RX6 37 RX6 yX6_fail wsX6_fail) := goodIn_app (goodIn_of _ (by decide +kernel)) ggX6_date_X6_fail
set_option maxRecDepth 20000 in
theorem ggX6_date_X6_isIn : GoodIn wsX6_date wsX6_isIn := goodIn_r _ [19] (by decide +kernel) (by decide +kernel)
set_option maxRecDepth 20000 in
theorem gX6_date_X6_isIn : GoodIn wsX6_date (va_wsS RX6 33 yX6_isIn wsX6_isIn) := goodIn_app (goodIn_of _ (by decide +kernel)) ggX6_date_X6_isIn
set_option maxRecDepth 20000 in
theorem ggX6_date_X6_dated : GoodIn wsX6_date wsX6_dated := goodIn_r _ [27, 28, 29, 30, 5, 31, 11, 12, 13, 14, 15, 16, 32, 33, 34, 35, 7, 8, 9, 10, 36, 37, 38, 39, 40, 41, 42, 43, 44, 45, 46, 47, 48, 49, 50, 51, 52, 53, 54, 55, 56, 57, 58, 59, 60, 61, 62, 63, 64, 65, 66, 67, 68, 69, 70, 71] (by decide +kernel) (by decide +kernel)
set_option maxRecDepth 20000 in
theorem gX6_date_X6_dated : GoodIn wsX6_date (wsV RX6 96 RX6 yX6_dated wsX6_dated) := goodIn_app (goodIn_of _ (by decide +kernel)) ggX6_date_X6_dated
theorem dX6_date_0 : decode cX6_date 0 = .ok (.aload_n 0, 1) := by decide +kernel
theorem dX6_date_1 : decode cX6_date 1 = .ok (.iconst 0, 1) := by decide +kernel
theorem dX6_date_2 : decode cX6_date 2 = .ok (.putfield 30, 3) := by decide +kernel
theorem dX6_date_5 : decode cX6_date 5 = .ok (.aload_n 0, 1) := by decide +kernel
theorem dX6_date_6 : decode cX6_date 6 = .ok (.iload_n 1, 1) := by decide +kernel
theorem dX6_date_7 : decode cX6_date 7 = .ok (.invokevirtual 93, 3) := by decide +kernel
theorem dX6_date_10 : decode cX6_date 10 = .ok (.ifCond .ne 9, 3) := by decide +kernel
theorem dX6_date_13 : decode cX6_date 13 = .ok (.aload_n 0, 1) := by decide +kernel
theorem dX6_date_14 : decode cX6_date 14 = .ok (.iconst 1, 1) := by decide +kernel
theorem dX6_date_15 : decode cX6_date 15 = .ok (.invokevirtual 37, 3) := by decide +kernel
theorem dX6_date_18 : decode cX6_date 18 = .ok (.ireturn, 1) := by decide +kernel
theorem dX6_date_19 : decode cX6_date 19 = .ok (.iload_n 2, 1) := by decide +kernel
theorem dX6_date_20 : decode cX6_date 20 = .ok (.iconst 0, 1) := by decide +kernel
theorem dX6_date_21 : decode cX6_date 21 = .ok (.iconst 4, 1) := by decide +kernel
theorem dX6_date_22 : decode cX6_date 22 = .ok (.invokestatic 33, 3) := by decide +kernel
theorem dX6_date_25 : decode cX6_date 25 = .ok (.ifCond .eq 12, 3) := by decide +kernel
theorem dX6_date_28 : decode cX6_date 28 = .ok (.aload_n 0, 1) := by decide +kernel
theorem dX6_date_29 : decode cX6_date 29 = .ok (.iload_n 1, 1) := by decide +kernel
theorem dX6_date_30 : decode cX6_date 30 = .ok (.iload_n 2, 1) := by decide +kernel
theorem dX6_date_31 : decode cX6_date 31 = .ok (.invokevirtual 96, 3) := by decide +kernel
theorem dX6_date_34 : decode cX6_date 34 = .ok (.goto 8, 3) := by decide +kernel
theorem dX6_date_37 : decode cX6_date 37 = .ok (.aload_n 0, 1) := by decide +kernel
theorem dX6_date_38 : decode cX6_date 38 = .ok (.iconst 2, 1) := by decide +kernel
theorem dX6_date_39 : decode cX6_date 39 = .ok (.invokevirtual 37, 3) := by decide +kernel
theorem dX6_date_42 : decode cX6_date 42 = .ok (.ireturn, 1) := by decide +kernel
set_option maxRecDepth 20000 in
theorem ggX6_line_X6_isDay : GoodIn wsX6_line wsX6_isDay := goodIn_r _ [9, 10, 11, 12, 8, 13, 14, 15, 16, 17, 18, 19, 20, 21, 22, 219, 220, 221, 222, 223, 224, 225, 226, 227, 228, 229, 230, 231] (by decide +kernel) (by decide +kernel)
set_option maxRecDepth 20000 in
theorem gX6_line_X6_isDay : GoodIn wsX6_line (wsV RX6 93 RX6 yX6_isDay wsX6_isDay) := goodIn_app (goodIn_of _ (by decide +kernel)) ggX6_line_X6_isDay
set_option maxRecDepth 20000 in
theorem ggX6_line_X6_fail : GoodIn wsX6_line wsX6_fail := goodIn_r _ [26, 1, 219, 220, 221, 222, 223, 224, 225, 226, 227, 228, 229, 230, 231] (by decide +kernel) (by decide +kernel)
set_option maxRecDepth 20000 in
theorem gX6_line_X6_fail : GoodIn wsX6_line (wsV RX6 37 RX6 yX6_fail wsX6_fail) := goodIn_app (goodIn_of _ (by decide +kernel)) ggX6_line_X6_fail
set_option maxRecDepth 20000 in
theorem ggX6_line_J4_init_da8c8 : GoodIn wsX6_line wsJ4_init_da8c8 := goodIn_r _ [29, 30, 31, 32, 33, 34, 35, 36, 37, 38, 39, 40, 41, 42, 43, 44, 45, 46, 47, 48, 232, 233, 234, 235] (by decide +kernel) (by decide +kernel)
set_option maxRecDepth 20000 in
theorem gX6_line_J4_init_da8c8 : GoodIn wsX6_line (wsJ4_init_da8c8) := ggX6_line_J4_init_da8c8
set_option maxRecDepth 20000 in
theorem ggX6_line_X6_yearOf : GoodIn wsX6_line wsX6_yearOf := goodIn_r _ [52, 14, 15, 16, 8, 17, 18, 19, 219, 220, 221, 222, 223, 224, 225, 226, 227, 228, 229, 230, 231] (by decide +kernel) (by decide +kernel)
set_option maxRecDepth 20000 in
theorem gX6_line_X6_yearOf : GoodIn wsX6_line (wsV RX6 70 RX6 yX6_yearOf wsX6_yearOf) := goodIn_app (goodIn_of _ (by decide +kernel)) ggX6_line_X6_yearOf
set_option maxRecDepth 20000 in
theorem ggX6_line_J4_append_bf812 : GoodIn wsX6_line wsJ4_append_bf812 := goodIn_r _ [56, 57, 58, 59, 60, 32, 61, 62, 39, 63, 64, 65, 66, 67, 68, 69, 70, 71, 40, 72, 73, 74, 75, 76, 77, 78, 79, 80, 81, 82, 83, 84, 85, 86, 87, 88, 89, 90, 91, 92, 93, 94, 95, 96, 97, 98, 99, 38, 100, 101, 102, 103, 104, 105, 106, 107, 108, 109, 110, 111, 37, 112, 113, 114, 115, 116, 117, 118, 43, 119, 120, 121, 122, 123, 124, 125, 126, 127, 128, 129, 130, 131, 132, 133, 134, 135, 136, 137, 138, 139, 140, 141, 142, 143, 144, 145, 232, 233, 234, 235] (by decide +kernel) (by decide +kernel)
set_option maxRecDepth 20000 in
theorem gX6_line_J4_append_bf812 : GoodIn wsX6_line (wsV RX6 102 RJ4 yJ4_append_bf812 wsJ4_append_bf812) := goodIn_app (goodIn_of _ (by decide +kernel)) ggX6_line_J4_append_bf812
set_option maxRecDepth 20000 in
theorem ggX6_line_J4_append_cf468 : GoodIn wsX6_line wsJ4_append_cf468 := goodIn_r _ [149, 150, 151, 59, 152, 32, 153, 62, 39, 67, 68, 69, 70, 71, 40, 72, 73, 74, 75, 76, 77, 78, 79, 80, 81, 82, 83, 84, 85, 86, 87, 88, 89, 90, 91, 92, 93, 94, 95, 96, 97, 98, 99, 38, 100, 101, 102, 103, 104, 105, 106, 107, 108, 109, 110, 111, 37, 154, 155, 156, 157, 158, 159, 160, 161, 162, 41, 42, 43, 44, 45, 46, 47, 48, 163, 164, 165, 166, 167, 168, 169, 170, 171, 124, 125, 126, 172, 173, 129, 174, 131, 175, 176, 134, 177, 141, 142, 143, 120, 144, 145, 178, 179, 180, 181, 182, 183, 184, 185, 186, 187, 188, 189, 232, 233, 234, 235] (by decide +kernel) (by decide +kernel)
set_option maxRecDepth 20000 in
theorem gX6_line_J4_append_cf468 : GoodIn wsX6_line (wsV RX6 106 RJ4 yJ4_append_cf468 wsJ4_append_cf468) := goodIn_app (goodIn_of _ (by decide +kernel)) ggX6_line_J4_append_cf468
set_option maxRecDepth 20000 in
theorem ggX6_line_X6_inYear : GoodIn wsX6_line wsX6_inYear := goodIn_r _ [193, 49, 50, 51, 8, 52, 14, 15, 16, 17, 18, 19, 10, 11, 12, 13, 194, 195, 196, 197, 219, 220, 221, 222, 223, 224, 225, 226, 227, 228, 229, 230, 231] (by decide +kernel) (by decide +kernel)
set_option maxRecDepth 20000 in
theorem gX6_line_X6_inYear : GoodIn wsX6_line (wsV RX6 87 RX6 yX6_inYear wsX6_inYear) := goodIn_app (goodIn_of _ (by decide +kernel)) ggX6_line_X6_inYear
set_option maxRecDepth 20000 in
theorem ggX6_line_J4_length_8abf5 : GoodIn wsX6_line wsJ4_length_8abf5 := goodIn_r _ [201, 202, 203, 59, 204, 32, 205, 62, 232, 233, 234, 235] (by decide +kernel) (by decide +kernel)
set_option maxRecDepth 20000 in
theorem gX6_line_J4_length_8abf5 : GoodIn wsX6_line (wsV RX6 109 RJ4 yJ4_length_8abf5 wsJ4_length_8abf5) := goodIn_app (goodIn_of _ (by decide +kernel)) ggX6_line_J4_length_8abf5
set_option maxRecDepth 20000 in
theorem ggX6_line_J4_charAt_5068e : GoodIn wsX6_line wsJ4_charAt_5068e := goodIn_r _ [209, 210, 211, 59, 212, 32, 213, 40, 39, 62, 214, 101, 84, 102, 215, 185, 129, 186, 131, 187, 188, 134, 189, 216, 217, 43, 218, 120, 144, 145, 124, 125, 126, 232, 233, 234, 235] (by decide +kernel) (by decide +kernel)
set_option maxRecDepth 20000 in
theorem gX6_line_J4_charAt_5068e : GoodIn wsX6_line (wsV RX6 112 RJ4 yJ4_charAt_5068e wsJ4_charAt_5068e) := goodIn_app (goodIn_of _ (by decide +kernel)) ggX6_line_J4_charAt_5068e
theorem dX6_line_0 : decode cX6_line 0 = .ok (.aload_n 0, 1) := by decide +kernel
theorem dX6_line_1 : decode cX6_line 1 = .ok (.iconst 0, 1) := by decide +kernel
theorem dX6_line_2 : decode cX6_line 2 = .ok (.putfield 30, 3) := by decide +kernel
theorem dX6_line_5 : decode cX6_line 5 = .ok (.aload_n 0, 1) := by decide +kernel
theorem dX6_line_6 : decode cX6_line 6 = .ok (.iload_n 1, 1) := by decide +kernel
theorem dX6_line_7 : decode cX6_line 7 = .ok (.invokevirtual 93, 3) := by decide +kernel
theorem dX6_line_10 : decode cX6_line 10 = .ok (.ifCond .ne 9, 3) := by decide +kernel
theorem dX6_line_13 : decode cX6_line 13 = .ok (.aload_n 0, 1) := by decide +kernel
theorem dX6_line_14 : decode cX6_line 14 = .ok (.iconst 1, 1) := by decide +kernel
theorem dX6_line_15 : decode cX6_line 15 = .ok (.invokevirtual 37, 3) := by decide +kernel
theorem dX6_line_18 : decode cX6_line 18 = .ok (.ireturn, 1) := by decide +kernel
theorem dX6_line_19 : decode cX6_line 19 = .ok (.new 99, 3) := by decide +kernel
theorem dX6_line_22 : decode cX6_line 22 = .ok (.dup, 1) := by decide +kernel
theorem dX6_line_23 : decode cX6_line 23 = .ok (.invokespecial 101, 3) := by decide +kernel
theorem dX6_line_26 : decode cX6_line 26 = .ok (.aload_n 0, 1) := by decide +kernel
theorem dX6_line_27 : decode cX6_line 27 = .ok (.iload_n 1, 1) := by decide +kernel
theorem dX6_line_28 : decode cX6_line 28 = .ok (.invokevirtual 70, 3) := by decide +kernel
theorem dX6_line_31 : decode cX6_line 31 = .ok (.invokevirtual 102, 3) := by decide +kernel
theorem dX6_line_34 : decode cX6_line 34 = .ok (.bipush 45, 2) := by decide +kernel
theorem dX6_line_36 : decode cX6_line 36 = .ok (.invokevirtual 106, 3) := by decide +kernel
theorem dX6_line_39 : decode cX6_line 39 = .ok (.aload_n 0, 1) := by decide +kernel
theorem dX6_line_40 : decode cX6_line 40 = .ok (.iload_n 1, 1) := by decide +kernel
theorem dX6_line_41 : decode cX6_line 41 = .ok (.iconst 1, 1) := by decide +kernel
theorem dX6_line_42 : decode cX6_line 42 = .ok (.invokevirtual 87, 3) := by decide +kernel
theorem dX6_line_45 : decode cX6_line 45 = .ok (.invokevirtual 102, 3) := by decide +kernel
theorem dX6_line_48 : decode cX6_line 48 = .ok (.bipush 45, 2) := by decide +kernel
theorem dX6_line_50 : decode cX6_line 50 = .ok (.invokevirtual 106, 3) := by decide +kernel
theorem dX6_line_53 : decode cX6_line 53 = .ok (.aload_n 0, 1) := by decide +kernel
theorem dX6_line_54 : decode cX6_line 54 = .ok (.iload_n 1, 1) := by decide +kernel
theorem dX6_line_55 : decode cX6_line 55 = .ok (.iconst 0, 1) := by decide +kernel
theorem dX6_line_56 : decode cX6_line 56 = .ok (.invokevirtual 87, 3) := by decide +kernel
theorem dX6_line_59 : decode cX6_line 59 = .ok (.invokevirtual 102, 3) := by decide +kernel
theorem dX6_line_62 : decode cX6_line 62 = .ok (.astore_n 2, 1) := by decide +kernel
theorem dX6_line_63 : decode cX6_line 63 = .ok (.iconst 0, 1) := by decide +kernel
theorem dX6_line_64 : decode cX6_line 64 = .ok (.istore_n 3, 1) := by decide +kernel
theorem dX6_line_65 : decode cX6_line 65 = .ok (.iconst 0, 1) := by decide +kernel
theorem dX6_line_66 : decode cX6_line 66 = .ok (.istore 4, 2) := by decide +kernel
theorem dX6_line_68 : decode cX6_line 68 = .ok (.iload 4, 2) := by decide +kernel
theorem dX6_line_70 : decode cX6_line 70 = .ok (.aload_n 2, 1) := by decide +kernel
theorem dX6_line_71 : decode cX6_line 71 = .ok (.invokevirtual 109, 3) := by decide +kernel
theorem dX6_line_74 : decode cX6_line 74 = .ok (.if_icmp .ge 21, 3) := by decide +kernel
theorem dX6_line_77 : decode cX6_line 77 = .ok (.iload_n 3, 1) := by decide +kernel
theorem dX6_line_78 : decode cX6_line 78 = .ok (.bipush 31, 2) := by decide +kernel
theorem dX6_line_80 : decode cX6_line 80 = .ok (.imul, 1) := by decide +kernel
theorem dX6_line_81 : decode cX6_line 81 = .ok (.aload_n 2, 1) := by decide +kernel
theorem dX6_line_82 : decode cX6_line 82 = .ok (.iload 4, 2) := by decide +kernel
theorem dX6_line_84 : decode cX6_line 84 = .ok (.invokevirtual 112, 3) := by decide +kernel
theorem dX6_line_87 : decode cX6_line 87 = .ok (.iadd, 1) := by decide +kernel
theorem dX6_line_88 : decode cX6_line 88 = .ok (.istore_n 3, 1) := by decide +kernel
theorem dX6_line_89 : decode cX6_line 89 = .ok (.iinc 4 1, 3) := by decide +kernel
theorem dX6_line_92 : decode cX6_line 92 = .ok (.goto (-24), 3) := by decide +kernel
theorem dX6_line_95 : decode cX6_line 95 = .ok (.iload_n 3, 1) := by decide +kernel
theorem dX6_line_96 : decode cX6_line 96 = .ok (.ireturn, 1) := by decide +kernel
set_option maxRecDepth 20000 in
theorem ggX6_moon_X6_isIn : GoodIn wsX6_moon wsX6_isIn := goodIn_r _ [5] (by decide +kernel) (by decide +kernel)
set_option maxRecDepth 20000 in
theorem gX6_moon_X6_isIn : GoodIn wsX6_moon (va_wsS RX6 33 yX6_isIn wsX6_isIn) := goodIn_app (goodIn_of _ (by decide +kernel)) ggX6_moon_X6_isIn
set_option maxRecDepth 20000 in
theorem ggX6_moon_X6_falls : GoodIn wsX6_moon wsX6_falls := goodIn_r _ [9, 10, 11, 12, 4, 13, 14, 15, 20, 21, 22, 23, 24, 25, 26, 27, 28, 29, 30, 31, 32] (by decide +kernel) (by decide +kernel)
set_option maxRecDepth 20000 in
theorem gX6_moon_X6_falls : GoodIn wsX6_moon (wsV RX6 84 RX6 yX6_falls wsX6_falls) := goodIn_app (goodIn_of _ (by decide +kernel)) ggX6_moon_X6_falls
set_option maxRecDepth 20000 in
theorem ggX6_moon_X6_fail : GoodIn wsX6_moon wsX6_fail := goodIn_r _ [19, 1, 20, 21, 22, 23, 24, 25, 26, 27, 28, 29, 30, 31, 32] (by decide +kernel) (by decide +kernel)
set_option maxRecDepth 20000 in
theorem gX6_moon_X6_fail : GoodIn wsX6_moon (wsV RX6 37 RX6 yX6_fail wsX6_fail) := goodIn_app (goodIn_of _ (by decide +kernel)) ggX6_moon_X6_fail
theorem dX6_moon_0 : decode cX6_moon 0 = .ok (.aload_n 0, 1) := by decide +kernel
theorem dX6_moon_1 : decode cX6_moon 1 = .ok (.iconst 0, 1) := by decide +kernel
theorem dX6_moon_2 : decode cX6_moon 2 = .ok (.putfield 30, 3) := by decide +kernel
theorem dX6_moon_5 : decode cX6_moon 5 = .ok (.iload_n 1, 1) := by decide +kernel
theorem dX6_moon_6 : decode cX6_moon 6 = .ok (.iconst 0, 1) := by decide +kernel
theorem dX6_moon_7 : decode cX6_moon 7 = .ok (.sipush 10000, 3) := by decide +kernel
theorem dX6_moon_10 : decode cX6_moon 10 = .ok (.invokestatic 33, 3) := by decide +kernel
theorem dX6_moon_13 : decode cX6_moon 13 = .ok (.ifCond .eq 12, 3) := by decide +kernel
theorem dX6_moon_16 : decode cX6_moon 16 = .ok (.aload_n 0, 1) := by decide +kernel
theorem dX6_moon_17 : decode cX6_moon 17 = .ok (.iload_n 1, 1) := by decide +kernel
theorem dX6_moon_18 : decode cX6_moon 18 = .ok (.iload_n 2, 1) := by decide +kernel
theorem dX6_moon_19 : decode cX6_moon 19 = .ok (.invokevirtual 84, 3) := by decide +kernel
theorem dX6_moon_22 : decode cX6_moon 22 = .ok (.goto 8, 3) := by decide +kernel
theorem dX6_moon_25 : decode cX6_moon 25 = .ok (.aload_n 0, 1) := by decide +kernel
theorem dX6_moon_26 : decode cX6_moon 26 = .ok (.iconst 1, 1) := by decide +kernel
theorem dX6_moon_27 : decode cX6_moon 27 = .ok (.invokevirtual 37, 3) := by decide +kernel
theorem dX6_moon_30 : decode cX6_moon 30 = .ok (.ireturn, 1) := by decide +kernel
set_option maxRecDepth 20000 in
theorem ggX6_isEclipse_X6_time : GoodIn wsX6_isEclipse wsX6_time := goodIn_r _ [11, 12, 13, 14, 15, 16, 17, 18, 19, 20, 21, 22, 23, 24, 25, 26] (by decide +kernel) (by decide +kernel)
set_option maxRecDepth 20000 in
theorem gX6_isEclipse_X6_time : GoodIn wsX6_isEclipse (wsV RX6 73 RX6 yX6_time wsX6_time) := goodIn_app (goodIn_of _ (by decide +kernel)) ggX6_isEclipse_X6_time
theorem dX6_isEclipse_0 : decode cX6_isEclipse 0 = .ok (.aload_n 0, 1) := by decide +kernel
theorem dX6_isEclipse_1 : decode cX6_isEclipse 1 = .ok (.iload_n 1, 1) := by decide +kernel
theorem dX6_isEclipse_2 : decode cX6_isEclipse 2 = .ok (.iload_n 2, 1) := by decide +kernel
theorem dX6_isEclipse_3 : decode cX6_isEclipse 3 = .ok (.invokevirtual 73, 3) := by decide +kernel
theorem dX6_isEclipse_6 : decode cX6_isEclipse 6 = .ok (.aload_n 0, 1) := by decide +kernel
theorem dX6_isEclipse_7 : decode cX6_isEclipse 7 = .ok (.getfield 49, 3) := by decide +kernel
theorem dX6_isEclipse_10 : decode cX6_isEclipse 10 = .ok (.isub, 1) := by decide +kernel
theorem dX6_isEclipse_11 : decode cX6_isEclipse 11 = .ok (.istore_n 3, 1) := by decide +kernel
theorem dX6_isEclipse_12 : decode cX6_isEclipse 12 = .ok (.iload_n 3, 1) := by decide +kernel
theorem dX6_isEclipse_13 : decode cX6_isEclipse 13 = .ok (.ifCond .ge 27, 3) := by decide +kernel
theorem dX6_isEclipse_16 : decode cX6_isEclipse 16 = .ok (.iload_n 3, 1) := by decide +kernel
theorem dX6_isEclipse_17 : decode cX6_isEclipse 17 = .ok (.ineg, 1) := by decide +kernel
theorem dX6_isEclipse_18 : decode cX6_isEclipse 18 = .ok (.iload_n 2, 1) := by decide +kernel
theorem dX6_isEclipse_19 : decode cX6_isEclipse 19 = .ok (.ifCond .eq 9, 3) := by decide +kernel
theorem dX6_isEclipse_22 : decode cX6_isEclipse 22 = .ok (.sipush 11000, 3) := by decide +kernel
theorem dX6_isEclipse_25 : decode cX6_isEclipse 25 = .ok (.goto 6, 3) := by decide +kernel
theorem dX6_isEclipse_28 : decode cX6_isEclipse 28 = .ok (.sipush 15000, 3) := by decide +kernel
theorem dX6_isEclipse_31 : decode cX6_isEclipse 31 = .ok (.if_icmp .gt 7, 3) := by decide +kernel
theorem dX6_isEclipse_34 : decode cX6_isEclipse 34 = .ok (.iconst 1, 1) := by decide +kernel
theorem dX6_isEclipse_35 : decode cX6_isEclipse 35 = .ok (.goto 4, 3) := by decide +kernel
theorem dX6_isEclipse_38 : decode cX6_isEclipse 38 = .ok (.iconst 0, 1) := by decide +kernel
theorem dX6_isEclipse_39 : decode cX6_isEclipse 39 = .ok (.ireturn, 1) := by decide +kernel
theorem dX6_isEclipse_40 : decode cX6_isEclipse 40 = .ok (.iload_n 3, 1) := by decide +kernel
theorem dX6_isEclipse_41 : decode cX6_isEclipse 41 = .ok (.aload_n 0, 1) := by decide +kernel
theorem dX6_isEclipse_42 : decode cX6_isEclipse 42 = .ok (.getfield 20, 3) := by decide +kernel
theorem dX6_isEclipse_45 : decode cX6_isEclipse 45 = .ok (.irem, 1) := by decide +kernel
theorem dX6_isEclipse_46 : decode cX6_isEclipse 46 = .ok (.istore 4, 2) := by decide +kernel
theorem dX6_isEclipse_48 : decode cX6_isEclipse 48 = .ok (.iload 4, 2) := by decide +kernel
theorem dX6_isEclipse_50 : decode cX6_isEclipse 50 = .ok (.aload_n 0, 1) := by decide +kernel
theorem dX6_isEclipse_51 : decode cX6_isEclipse 51 = .ok (.getfield 20, 3) := by decide +kernel
theorem dX6_isEclipse_54 : decode cX6_isEclipse 54 = .ok (.iload 4, 2) := by decide +kernel
theorem dX6_isEclipse_56 : decode cX6_isEclipse 56 = .ok (.isub, 1) := by decide +kernel
theorem dX6_isEclipse_57 : decode cX6_isEclipse 57 = .ok (.invokestatic 116, 3) := by decide +kernel
theorem dX6_isEclipse_60 : decode cX6_isEclipse 60 = .ok (.iload_n 2, 1) := by decide +kernel
theorem dX6_isEclipse_61 : decode cX6_isEclipse 61 = .ok (.ifCond .eq 9, 3) := by decide +kernel
theorem dX6_isEclipse_64 : decode cX6_isEclipse 64 = .ok (.sipush 11000, 3) := by decide +kernel
theorem dX6_isEclipse_67 : decode cX6_isEclipse 67 = .ok (.goto 6, 3) := by decide +kernel
theorem dX6_isEclipse_70 : decode cX6_isEclipse 70 = .ok (.sipush 15000, 3) := by decide +kernel
theorem dX6_isEclipse_73 : decode cX6_isEclipse 73 = .ok (.if_icmp .gt 7, 3) := by decide +kernel
theorem dX6_isEclipse_76 : decode cX6_isEclipse 76 = .ok (.iconst 1, 1) := by decide +kernel
theorem dX6_isEclipse_77 : decode cX6_isEclipse 77 = .ok (.goto 4, 3) := by decide +kernel
theorem dX6_isEclipse_80 : decode cX6_isEclipse 80 = .ok (.iconst 0, 1) := by decide +kernel
theorem dX6_isEclipse_81 : decode cX6_isEclipse 81 = .ok (.ireturn, 1) := by decide +kernel
set_option maxRecDepth 20000 in
theorem ggX6_eclipsesIn_X6_moonFrom : GoodIn wsX6_eclipsesIn wsX6_moonFrom := goodIn_r _ [5, 6, 7, 8, 9, 10, 11, 12, 13, 14, 15, 4, 16, 17, 18, 19, 20, 30, 31, 32, 33, 34, 35, 36, 37, 38, 39, 40, 41, 42] (by decide +kernel) (by decide +kernel)
set_option maxRecDepth 20000 in
theorem gX6_eclipsesIn_X6_moonFrom : GoodIn wsX6_eclipsesIn (wsV RX6 90 RX6 yX6_moonFrom wsX6_moonFrom) := goodIn_app (goodIn_of _ (by decide +kernel)) ggX6_eclipsesIn_X6_moonFrom
set_option maxRecDepth 20000 in
theorem ggX6_eclipsesIn_X6_falls : GoodIn wsX6_eclipsesIn wsX6_falls := goodIn_r _ [16, 17, 18, 19, 4, 20, 7, 8, 30, 31, 32, 33, 34, 35, 36, 37, 38, 39, 40, 41, 42] (by decide +kernel) (by decide +kernel)
set_option maxRecDepth 20000 in
theorem gX6_eclipsesIn_X6_falls : GoodIn wsX6_eclipsesIn (wsV RX6 84 RX6 yX6_falls wsX6_falls) := goodIn_app (goodIn_of _ (by decide +kernel)) ggX6_eclipsesIn_X6_falls
set_option maxRecDepth 20000 in
theorem ggX6_eclipsesIn_X6_isEclipse : GoodIn wsX6_eclipsesIn wsX6_isEclipse := goodIn_r _ [24, 25, 26, 27, 28, 11, 29, 17, 18, 19, 4, 20, 7, 8, 30, 31, 32, 33, 34, 35, 36, 37, 38, 39, 40, 41, 42] (by decide +kernel) (by decide +kernel)
set_option maxRecDepth 20000 in
theorem gX6_eclipsesIn_X6_isEclipse : GoodIn wsX6_eclipsesIn (wsV RX6 119 RX6 yX6_isEclipse wsX6_isEclipse) := goodIn_app (goodIn_of _ (by decide +kernel)) ggX6_eclipsesIn_X6_isEclipse
theorem dX6_eclipsesIn_0 : decode cX6_eclipsesIn 0 = .ok (.iconst 0, 1) := by decide +kernel
theorem dX6_eclipsesIn_1 : decode cX6_eclipsesIn 1 = .ok (.istore 4, 2) := by decide +kernel
theorem dX6_eclipsesIn_3 : decode cX6_eclipsesIn 3 = .ok (.aload_n 0, 1) := by decide +kernel
theorem dX6_eclipsesIn_4 : decode cX6_eclipsesIn 4 = .ok (.iload_n 1, 1) := by decide +kernel
theorem dX6_eclipsesIn_5 : decode cX6_eclipsesIn 5 = .ok (.iload_n 3, 1) := by decide +kernel
theorem dX6_eclipsesIn_6 : decode cX6_eclipsesIn 6 = .ok (.invokevirtual 90, 3) := by decide +kernel
theorem dX6_eclipsesIn_9 : decode cX6_eclipsesIn 9 = .ok (.istore 5, 2) := by decide +kernel
theorem dX6_eclipsesIn_11 : decode cX6_eclipsesIn 11 = .ok (.aload_n 0, 1) := by decide +kernel
theorem dX6_eclipsesIn_12 : decode cX6_eclipsesIn 12 = .ok (.iload 5, 2) := by decide +kernel
theorem dX6_eclipsesIn_14 : decode cX6_eclipsesIn 14 = .ok (.iload_n 3, 1) := by decide +kernel
theorem dX6_eclipsesIn_15 : decode cX6_eclipsesIn 15 = .ok (.invokevirtual 84, 3) := by decide +kernel
theorem dX6_eclipsesIn_18 : decode cX6_eclipsesIn 18 = .ok (.iload_n 2, 1) := by decide +kernel
theorem dX6_eclipsesIn_19 : decode cX6_eclipsesIn 19 = .ok (.if_icmp .ge 29, 3) := by decide +kernel
theorem dX6_eclipsesIn_22 : decode cX6_eclipsesIn 22 = .ok (.iload 4, 2) := by decide +kernel
theorem dX6_eclipsesIn_24 : decode cX6_eclipsesIn 24 = .ok (.aload_n 0, 1) := by decide +kernel
theorem dX6_eclipsesIn_25 : decode cX6_eclipsesIn 25 = .ok (.iload 5, 2) := by decide +kernel
theorem dX6_eclipsesIn_27 : decode cX6_eclipsesIn 27 = .ok (.iload_n 3, 1) := by decide +kernel
theorem dX6_eclipsesIn_28 : decode cX6_eclipsesIn 28 = .ok (.invokevirtual 119, 3) := by decide +kernel
theorem dX6_eclipsesIn_31 : decode cX6_eclipsesIn 31 = .ok (.ifCond .eq 7, 3) := by decide +kernel
theorem dX6_eclipsesIn_34 : decode cX6_eclipsesIn 34 = .ok (.iconst 1, 1) := by decide +kernel
theorem dX6_eclipsesIn_35 : decode cX6_eclipsesIn 35 = .ok (.goto 4, 3) := by decide +kernel
theorem dX6_eclipsesIn_38 : decode cX6_eclipsesIn 38 = .ok (.iconst 0, 1) := by decide +kernel
theorem dX6_eclipsesIn_39 : decode cX6_eclipsesIn 39 = .ok (.iadd, 1) := by decide +kernel
theorem dX6_eclipsesIn_40 : decode cX6_eclipsesIn 40 = .ok (.istore 4, 2) := by decide +kernel
theorem dX6_eclipsesIn_42 : decode cX6_eclipsesIn 42 = .ok (.iinc 5 1, 3) := by decide +kernel
theorem dX6_eclipsesIn_45 : decode cX6_eclipsesIn 45 = .ok (.goto (-34), 3) := by decide +kernel
theorem dX6_eclipsesIn_48 : decode cX6_eclipsesIn 48 = .ok (.iload 4, 2) := by decide +kernel
theorem dX6_eclipsesIn_50 : decode cX6_eclipsesIn 50 = .ok (.ireturn, 1) := by decide +kernel
set_option maxRecDepth 20000 in
theorem ggX6_eclipsesOf_X6_begins : GoodIn wsX6_eclipsesOf wsX6_begins := goodIn_r _ [5, 6, 7, 8, 4, 9, 10, 11, 44, 45, 46, 47, 48, 49, 50, 51, 52, 53, 54, 55, 56] (by decide +kernel) (by decide +kernel)
set_option maxRecDepth 20000 in
theorem gX6_eclipsesOf_X6_begins : GoodIn wsX6_eclipsesOf (wsV RX6 59 RX6 yX6_begins wsX6_begins) := goodIn_app (goodIn_of _ (by decide +kernel)) ggX6_eclipsesOf_X6_begins
set_option maxRecDepth 20000 in
theorem ggX6_eclipsesOf_X6_eclipsesIn : GoodIn wsX6_eclipsesOf wsX6_eclipsesIn := goodIn_r _ [15, 16, 17, 18, 4, 19, 20, 21, 22, 23, 24, 25, 26, 27, 28, 29, 30, 31, 32, 33, 34, 35, 36, 37, 38, 39, 40, 41, 42, 43, 44, 45, 46, 47, 48, 49, 50, 51, 52, 53, 54, 55, 56] (by decide +kernel) (by decide +kernel)
set_option maxRecDepth 20000 in
theorem gX6_eclipsesOf_X6_eclipsesIn : GoodIn wsX6_eclipsesOf (wsV RX6 123 RX6 yX6_eclipsesIn wsX6_eclipsesIn) := goodIn_app (goodIn_of _ (by decide +kernel)) ggX6_eclipsesOf_X6_eclipsesIn
theorem dX6_eclipsesOf_0 : decode cX6_eclipsesOf 0 = .ok (.aload_n 0, 1) := by decide +kernel
theorem dX6_eclipsesOf_1 : decode cX6_eclipsesOf 1 = .ok (.aload_n 0, 1) := by decide +kernel
theorem dX6_eclipsesOf_2 : decode cX6_eclipsesOf 2 = .ok (.iload_n 1, 1) := by decide +kernel
theorem dX6_eclipsesOf_3 : decode cX6_eclipsesOf 3 = .ok (.invokevirtual 59, 3) := by decide +kernel
theorem dX6_eclipsesOf_6 : decode cX6_eclipsesOf 6 = .ok (.aload_n 0, 1) := by decide +kernel
theorem dX6_eclipsesOf_7 : decode cX6_eclipsesOf 7 = .ok (.iload_n 1, 1) := by decide +kernel
theorem dX6_eclipsesOf_8 : decode cX6_eclipsesOf 8 = .ok (.iconst 1, 1) := by decide +kernel
theorem dX6_eclipsesOf_9 : decode cX6_eclipsesOf 9 = .ok (.iadd, 1) := by decide +kernel
theorem dX6_eclipsesOf_10 : decode cX6_eclipsesOf 10 = .ok (.invokevirtual 59, 3) := by decide +kernel
theorem dX6_eclipsesOf_13 : decode cX6_eclipsesOf 13 = .ok (.iload_n 2, 1) := by decide +kernel
theorem dX6_eclipsesOf_14 : decode cX6_eclipsesOf 14 = .ok (.invokevirtual 123, 3) := by decide +kernel
theorem dX6_eclipsesOf_17 : decode cX6_eclipsesOf 17 = .ok (.ireturn, 1) := by decide +kernel
set_option maxRecDepth 20000 in
theorem ggX6_eclipses_X6_isYear : GoodIn wsX6_eclipses wsX6_isYear := goodIn_r _ [5, 6, 7, 4, 8] (by decide +kernel) (by decide +kernel)
set_option maxRecDepth 20000 in
theorem gX6_eclipses_X6_isYear : GoodIn wsX6_eclipses (va_wsS RX6 56 yX6_isYear wsX6_isYear) := goodIn_app (goodIn_of _ (by decide +kernel)) ggX6_eclipses_X6_isYear
set_option maxRecDepth 20000 in
theorem ggX6_eclipses_X6_eclipsesOf : GoodIn wsX6_eclipses wsX6_eclipsesOf := goodIn_r _ [12, 13, 14, 15, 4, 16, 17, 18, 19, 20, 21, 22, 23, 24, 25, 26, 27, 28, 29, 30, 31, 32, 33, 34, 35, 36, 37, 38, 39, 40, 41, 42, 43, 44, 45, 46, 47, 48, 49, 50, 51, 52, 53, 54, 59, 60, 61, 62, 63, 64, 65, 66, 67, 68, 69, 70, 71] (by decide +kernel) (by decide +kernel)
set_option maxRecDepth 20000 in
theorem gX6_eclipses_X6_eclipsesOf : GoodIn wsX6_eclipses (wsV RX6 127 RX6 yX6_eclipsesOf wsX6_eclipsesOf) := goodIn_app (goodIn_of _ (by decide +kernel)) ggX6_eclipses_X6_eclipsesOf
set_option maxRecDepth 20000 in
theorem ggX6_eclipses_X6_fail : GoodIn wsX6_eclipses wsX6_fail := goodIn_r _ [58, 1, 59, 60, 61, 62, 63, 64, 65, 66, 67, 68, 69, 70, 71] (by decide +kernel) (by decide +kernel)
set_option maxRecDepth 20000 in
theorem gX6_eclipses_X6_fail : GoodIn wsX6_eclipses (wsV RX6 37 RX6 yX6_fail wsX6_fail) := goodIn_app (goodIn_of _ (by decide +kernel)) ggX6_eclipses_X6_fail
theorem dX6_eclipses_0 : decode cX6_eclipses 0 = .ok (.aload_n 0, 1) := by decide +kernel
theorem dX6_eclipses_1 : decode cX6_eclipses 1 = .ok (.iconst 0, 1) := by decide +kernel
theorem dX6_eclipses_2 : decode cX6_eclipses 2 = .ok (.putfield 30, 3) := by decide +kernel
theorem dX6_eclipses_5 : decode cX6_eclipses 5 = .ok (.iload_n 1, 1) := by decide +kernel
theorem dX6_eclipses_6 : decode cX6_eclipses 6 = .ok (.invokestatic 56, 3) := by decide +kernel
theorem dX6_eclipses_9 : decode cX6_eclipses 9 = .ok (.ifCond .eq 20, 3) := by decide +kernel
theorem dX6_eclipses_12 : decode cX6_eclipses 12 = .ok (.aload_n 0, 1) := by decide +kernel
theorem dX6_eclipses_13 : decode cX6_eclipses 13 = .ok (.iload_n 1, 1) := by decide +kernel
theorem dX6_eclipses_14 : decode cX6_eclipses 14 = .ok (.iload_n 2, 1) := by decide +kernel
theorem dX6_eclipses_15 : decode cX6_eclipses 15 = .ok (.ifCond .ne 7, 3) := by decide +kernel
theorem dX6_eclipses_18 : decode cX6_eclipses 18 = .ok (.iconst 1, 1) := by decide +kernel
theorem dX6_eclipses_19 : decode cX6_eclipses 19 = .ok (.goto 4, 3) := by decide +kernel
theorem dX6_eclipses_22 : decode cX6_eclipses 22 = .ok (.iconst 0, 1) := by decide +kernel
theorem dX6_eclipses_23 : decode cX6_eclipses 23 = .ok (.invokevirtual 127, 3) := by decide +kernel
theorem dX6_eclipses_26 : decode cX6_eclipses 26 = .ok (.goto 8, 3) := by decide +kernel
theorem dX6_eclipses_29 : decode cX6_eclipses 29 = .ok (.aload_n 0, 1) := by decide +kernel
theorem dX6_eclipses_30 : decode cX6_eclipses 30 = .ok (.iconst 1, 1) := by decide +kernel
theorem dX6_eclipses_31 : decode cX6_eclipses 31 = .ok (.invokevirtual 37, 3) := by decide +kernel
theorem dX6_eclipses_34 : decode cX6_eclipses 34 = .ok (.ireturn, 1) := by decide +kernel
set_option maxRecDepth 20000 in
theorem ggX6_nextOf_X6_moonFrom : GoodIn wsX6_nextOf wsX6_moonFrom := goodIn_r _ [5, 6, 7, 8, 9, 10, 11, 12, 13, 14, 15, 4, 16, 17, 18, 19, 20, 30, 31, 32, 33, 34, 35, 36, 37, 38, 39, 40, 41, 42] (by decide +kernel) (by decide +kernel)
set_option maxRecDepth 20000 in
theorem gX6_nextOf_X6_moonFrom : GoodIn wsX6_nextOf (wsV RX6 90 RX6 yX6_moonFrom wsX6_moonFrom) := goodIn_app (goodIn_of _ (by decide +kernel)) ggX6_nextOf_X6_moonFrom
set_option maxRecDepth 20000 in
theorem ggX6_nextOf_X6_falls : GoodIn wsX6_nextOf wsX6_falls := goodIn_r _ [16, 17, 18, 19, 4, 20, 7, 8, 30, 31, 32, 33, 34, 35, 36, 37, 38, 39, 40, 41, 42] (by decide +kernel) (by decide +kernel)
set_option maxRecDepth 20000 in
theorem gX6_nextOf_X6_falls : GoodIn wsX6_nextOf (wsV RX6 84 RX6 yX6_falls wsX6_falls) := goodIn_app (goodIn_of _ (by decide +kernel)) ggX6_nextOf_X6_falls
set_option maxRecDepth 20000 in
theorem ggX6_nextOf_X6_isEclipse : GoodIn wsX6_nextOf wsX6_isEclipse := goodIn_r _ [24, 25, 26, 27, 28, 11, 29, 17, 18, 19, 4, 20, 7, 8, 30, 31, 32, 33, 34, 35, 36, 37, 38, 39, 40, 41, 42] (by decide +kernel) (by decide +kernel)
set_option maxRecDepth 20000 in
theorem gX6_nextOf_X6_isEclipse : GoodIn wsX6_nextOf (wsV RX6 119 RX6 yX6_isEclipse wsX6_isEclipse) := goodIn_app (goodIn_of _ (by decide +kernel)) ggX6_nextOf_X6_isEclipse
theorem dX6_nextOf_0 : decode cX6_nextOf 0 = .ok (.aload_n 0, 1) := by decide +kernel
theorem dX6_nextOf_1 : decode cX6_nextOf 1 = .ok (.iload_n 1, 1) := by decide +kernel
theorem dX6_nextOf_2 : decode cX6_nextOf 2 = .ok (.iload_n 2, 1) := by decide +kernel
theorem dX6_nextOf_3 : decode cX6_nextOf 3 = .ok (.invokevirtual 90, 3) := by decide +kernel
theorem dX6_nextOf_6 : decode cX6_nextOf 6 = .ok (.istore_n 3, 1) := by decide +kernel
theorem dX6_nextOf_7 : decode cX6_nextOf 7 = .ok (.aload_n 0, 1) := by decide +kernel
theorem dX6_nextOf_8 : decode cX6_nextOf 8 = .ok (.iload_n 3, 1) := by decide +kernel
theorem dX6_nextOf_9 : decode cX6_nextOf 9 = .ok (.iload_n 2, 1) := by decide +kernel
theorem dX6_nextOf_10 : decode cX6_nextOf 10 = .ok (.invokevirtual 84, 3) := by decide +kernel
theorem dX6_nextOf_13 : decode cX6_nextOf 13 = .ok (.iload_n 1, 1) := by decide +kernel
theorem dX6_nextOf_14 : decode cX6_nextOf 14 = .ok (.sipush 2999, 3) := by decide +kernel
theorem dX6_nextOf_17 : decode cX6_nextOf 17 = .ok (.iadd, 1) := by decide +kernel
theorem dX6_nextOf_18 : decode cX6_nextOf 18 = .ok (.if_icmp .gt 18, 3) := by decide +kernel
theorem dX6_nextOf_21 : decode cX6_nextOf 21 = .ok (.aload_n 0, 1) := by decide +kernel
theorem dX6_nextOf_22 : decode cX6_nextOf 22 = .ok (.iload_n 3, 1) := by decide +kernel
theorem dX6_nextOf_23 : decode cX6_nextOf 23 = .ok (.iload_n 2, 1) := by decide +kernel
theorem dX6_nextOf_24 : decode cX6_nextOf 24 = .ok (.invokevirtual 119, 3) := by decide +kernel
theorem dX6_nextOf_27 : decode cX6_nextOf 27 = .ok (.ifCond .ne 9, 3) := by decide +kernel
theorem dX6_nextOf_30 : decode cX6_nextOf 30 = .ok (.iinc 3 1, 3) := by decide +kernel
theorem dX6_nextOf_33 : decode cX6_nextOf 33 = .ok (.goto (-26), 3) := by decide +kernel
theorem dX6_nextOf_36 : decode cX6_nextOf 36 = .ok (.aload_n 0, 1) := by decide +kernel
theorem dX6_nextOf_37 : decode cX6_nextOf 37 = .ok (.iload_n 3, 1) := by decide +kernel
theorem dX6_nextOf_38 : decode cX6_nextOf 38 = .ok (.iload_n 2, 1) := by decide +kernel
theorem dX6_nextOf_39 : decode cX6_nextOf 39 = .ok (.invokevirtual 84, 3) := by decide +kernel
theorem dX6_nextOf_42 : decode cX6_nextOf 42 = .ok (.ireturn, 1) := by decide +kernel
set_option maxRecDepth 20000 in
theorem ggX6_next_X6_isDay : GoodIn wsX6_next wsX6_isDay := goodIn_r _ [10, 11, 12, 13, 9, 14, 15, 16, 17, 18, 19, 20, 21, 22, 23, 56, 57, 58, 59, 60, 61, 62, 63, 64, 65, 66, 67, 68] (by decide +kernel) (by decide +kernel)
set_option maxRecDepth 20000 in
theorem gX6_next_X6_isDay : GoodIn wsX6_next (wsV RX6 93 RX6 yX6_isDay wsX6_isDay) := goodIn_app (goodIn_of _ (by decide +kernel)) ggX6_next_X6_isDay
set_option maxRecDepth 20000 in
theorem ggX6_next_X6_fail : GoodIn wsX6_next wsX6_fail := goodIn_r _ [27, 1, 56, 57, 58, 59, 60, 61, 62, 63, 64, 65, 66, 67, 68] (by decide +kernel) (by decide +kernel)
set_option maxRecDepth 20000 in
theorem gX6_next_X6_fail : GoodIn wsX6_next (wsV RX6 37 RX6 yX6_fail wsX6_fail) := goodIn_app (goodIn_of _ (by decide +kernel)) ggX6_next_X6_fail
set_option maxRecDepth 20000 in
theorem ggX6_next_X6_nextOf : GoodIn wsX6_next wsX6_nextOf := goodIn_r _ [31, 32, 33, 34, 9, 35, 36, 37, 38, 39, 40, 4, 41, 42, 43, 44, 45, 46, 47, 48, 49, 50, 51, 52, 53, 54, 55, 2, 3, 5, 56, 57, 58, 59, 60, 61, 62, 63, 64, 65, 66, 67, 68] (by decide +kernel) (by decide +kernel)
set_option maxRecDepth 20000 in
theorem gX6_next_X6_nextOf : GoodIn wsX6_next (wsV RX6 130 RX6 yX6_nextOf wsX6_nextOf) := goodIn_app (goodIn_of _ (by decide +kernel)) ggX6_next_X6_nextOf
theorem dX6_next_0 : decode cX6_next 0 = .ok (.aload_n 0, 1) := by decide +kernel
theorem dX6_next_1 : decode cX6_next 1 = .ok (.iconst 0, 1) := by decide +kernel
theorem dX6_next_2 : decode cX6_next 2 = .ok (.putfield 30, 3) := by decide +kernel
theorem dX6_next_5 : decode cX6_next 5 = .ok (.aload_n 0, 1) := by decide +kernel
theorem dX6_next_6 : decode cX6_next 6 = .ok (.iload_n 1, 1) := by decide +kernel
theorem dX6_next_7 : decode cX6_next 7 = .ok (.invokevirtual 93, 3) := by decide +kernel
theorem dX6_next_10 : decode cX6_next 10 = .ok (.ifCond .ne 9, 3) := by decide +kernel
theorem dX6_next_13 : decode cX6_next 13 = .ok (.aload_n 0, 1) := by decide +kernel
theorem dX6_next_14 : decode cX6_next 14 = .ok (.iconst 1, 1) := by decide +kernel
theorem dX6_next_15 : decode cX6_next 15 = .ok (.invokevirtual 37, 3) := by decide +kernel
theorem dX6_next_18 : decode cX6_next 18 = .ok (.ireturn, 1) := by decide +kernel
theorem dX6_next_19 : decode cX6_next 19 = .ok (.aload_n 0, 1) := by decide +kernel
theorem dX6_next_20 : decode cX6_next 20 = .ok (.iload_n 1, 1) := by decide +kernel
theorem dX6_next_21 : decode cX6_next 21 = .ok (.iconst 0, 1) := by decide +kernel
theorem dX6_next_22 : decode cX6_next 22 = .ok (.invokevirtual 130, 3) := by decide +kernel
theorem dX6_next_25 : decode cX6_next 25 = .ok (.aload_n 0, 1) := by decide +kernel
theorem dX6_next_26 : decode cX6_next 26 = .ok (.iload_n 1, 1) := by decide +kernel
theorem dX6_next_27 : decode cX6_next 27 = .ok (.iconst 1, 1) := by decide +kernel
theorem dX6_next_28 : decode cX6_next 28 = .ok (.invokevirtual 130, 3) := by decide +kernel
theorem dX6_next_31 : decode cX6_next 31 = .ok (.invokestatic 116, 3) := by decide +kernel
theorem dX6_next_34 : decode cX6_next 34 = .ok (.istore_n 2, 1) := by decide +kernel
theorem dX6_next_35 : decode cX6_next 35 = .ok (.iload_n 2, 1) := by decide +kernel
theorem dX6_next_36 : decode cX6_next 36 = .ok (.iload_n 1, 1) := by decide +kernel
theorem dX6_next_37 : decode cX6_next 37 = .ok (.sipush 2999, 3) := by decide +kernel
theorem dX6_next_40 : decode cX6_next 40 = .ok (.iadd, 1) := by decide +kernel
theorem dX6_next_41 : decode cX6_next 41 = .ok (.if_icmp .le 7, 3) := by decide +kernel
theorem dX6_next_44 : decode cX6_next 44 = .ok (.iconst (-1), 1) := by decide +kernel
theorem dX6_next_45 : decode cX6_next 45 = .ok (.goto 4, 3) := by decide +kernel
theorem dX6_next_48 : decode cX6_next 48 = .ok (.iload_n 2, 1) := by decide +kernel
theorem dX6_next_49 : decode cX6_next 49 = .ok (.ireturn, 1) := by decide +kernel
set_option maxRecDepth 20000 in
theorem ggX6_observe_X6_isIn : GoodIn wsX6_observe wsX6_isIn := goodIn_r _ [18] (by decide +kernel) (by decide +kernel)
set_option maxRecDepth 20000 in
theorem gX6_observe_X6_isIn : GoodIn wsX6_observe (va_wsS RX6 33 yX6_isIn wsX6_isIn) := goodIn_app (goodIn_of _ (by decide +kernel)) ggX6_observe_X6_isIn
set_option maxRecDepth 20000 in
theorem ggX6_observe_X6_fail : GoodIn wsX6_observe wsX6_fail := goodIn_r _ [22, 1, 36, 37, 38, 39, 40, 41, 42, 43, 44, 45, 46, 47, 48] (by decide +kernel) (by decide +kernel)
set_option maxRecDepth 20000 in
theorem gX6_observe_X6_fail : GoodIn wsX6_observe (wsV RX6 37 RX6 yX6_fail wsX6_fail) := goodIn_app (goodIn_of _ (by decide +kernel)) ggX6_observe_X6_fail
set_option maxRecDepth 20000 in
theorem ggX6_observe_X6_moonFrom : GoodIn wsX6_observe wsX6_moonFrom := goodIn_r _ [26, 27, 5, 14, 11, 12, 9, 13, 28, 29, 30, 17, 31, 32, 33, 34, 35, 36, 37, 38, 39, 40, 41, 42, 43, 44, 45, 46, 47, 48] (by decide +kernel) (by decide +kernel)
set_option maxRecDepth 20000 in
theorem gX6_observe_X6_moonFrom : GoodIn wsX6_observe (wsV RX6 90 RX6 yX6_moonFrom wsX6_moonFrom) := goodIn_app (goodIn_of _ (by decide +kernel)) ggX6_observe_X6_moonFrom
set_option maxRecDepth 20000 in
theorem ggX6_observe_X6_falls : GoodIn wsX6_observe wsX6_falls := goodIn_r _ [31, 32, 33, 34, 17, 35, 5, 14, 36, 37, 38, 39, 40, 41, 42, 43, 44, 45, 46, 47, 48] (by decide +kernel) (by decide +kernel)
set_option maxRecDepth 20000 in
theorem gX6_observe_X6_falls : GoodIn wsX6_observe (wsV RX6 84 RX6 yX6_falls wsX6_falls) := goodIn_app (goodIn_of _ (by decide +kernel)) ggX6_observe_X6_falls
theorem dX6_observe_0 : decode cX6_observe 0 = .ok (.aload_n 0, 1) := by decide +kernel
theorem dX6_observe_1 : decode cX6_observe 1 = .ok (.iconst 0, 1) := by decide +kernel
theorem dX6_observe_2 : decode cX6_observe 2 = .ok (.putfield 30, 3) := by decide +kernel
theorem dX6_observe_5 : decode cX6_observe 5 = .ok (.iload_n 1, 1) := by decide +kernel
theorem dX6_observe_6 : decode cX6_observe 6 = .ok (.iconst 0, 1) := by decide +kernel
theorem dX6_observe_7 : decode cX6_observe 7 = .ok (.ldc 133, 2) := by decide +kernel
theorem dX6_observe_9 : decode cX6_observe 9 = .ok (.invokestatic 33, 3) := by decide +kernel
theorem dX6_observe_12 : decode cX6_observe 12 = .ok (.ifCond .ne 9, 3) := by decide +kernel
theorem dX6_observe_15 : decode cX6_observe 15 = .ok (.aload_n 0, 1) := by decide +kernel
theorem dX6_observe_16 : decode cX6_observe 16 = .ok (.iconst 1, 1) := by decide +kernel
theorem dX6_observe_17 : decode cX6_observe 17 = .ok (.invokevirtual 37, 3) := by decide +kernel
theorem dX6_observe_20 : decode cX6_observe 20 = .ok (.ireturn, 1) := by decide +kernel
theorem dX6_observe_21 : decode cX6_observe 21 = .ok (.aload_n 0, 1) := by decide +kernel
theorem dX6_observe_22 : decode cX6_observe 22 = .ok (.iload_n 1, 1) := by decide +kernel
theorem dX6_observe_23 : decode cX6_observe 23 = .ok (.iload_n 2, 1) := by decide +kernel
theorem dX6_observe_24 : decode cX6_observe 24 = .ok (.invokevirtual 90, 3) := by decide +kernel
theorem dX6_observe_27 : decode cX6_observe 27 = .ok (.istore_n 3, 1) := by decide +kernel
theorem dX6_observe_28 : decode cX6_observe 28 = .ok (.iload_n 3, 1) := by decide +kernel
theorem dX6_observe_29 : decode cX6_observe 29 = .ok (.ifCond .le 27, 3) := by decide +kernel
theorem dX6_observe_32 : decode cX6_observe 32 = .ok (.iload_n 1, 1) := by decide +kernel
theorem dX6_observe_33 : decode cX6_observe 33 = .ok (.aload_n 0, 1) := by decide +kernel
theorem dX6_observe_34 : decode cX6_observe 34 = .ok (.iload_n 3, 1) := by decide +kernel
theorem dX6_observe_35 : decode cX6_observe 35 = .ok (.iconst 1, 1) := by decide +kernel
theorem dX6_observe_36 : decode cX6_observe 36 = .ok (.isub, 1) := by decide +kernel
theorem dX6_observe_37 : decode cX6_observe 37 = .ok (.iload_n 2, 1) := by decide +kernel
theorem dX6_observe_38 : decode cX6_observe 38 = .ok (.invokevirtual 84, 3) := by decide +kernel
theorem dX6_observe_41 : decode cX6_observe 41 = .ok (.isub, 1) := by decide +kernel
theorem dX6_observe_42 : decode cX6_observe 42 = .ok (.aload_n 0, 1) := by decide +kernel
theorem dX6_observe_43 : decode cX6_observe 43 = .ok (.iload_n 3, 1) := by decide +kernel
theorem dX6_observe_44 : decode cX6_observe 44 = .ok (.iload_n 2, 1) := by decide +kernel
theorem dX6_observe_45 : decode cX6_observe 45 = .ok (.invokevirtual 84, 3) := by decide +kernel
theorem dX6_observe_48 : decode cX6_observe 48 = .ok (.iload_n 1, 1) := by decide +kernel
theorem dX6_observe_49 : decode cX6_observe 49 = .ok (.isub, 1) := by decide +kernel
theorem dX6_observe_50 : decode cX6_observe 50 = .ok (.if_icmp .gt 6, 3) := by decide +kernel
theorem dX6_observe_53 : decode cX6_observe 53 = .ok (.iinc 3 (-1), 3) := by decide +kernel
theorem dX6_observe_56 : decode cX6_observe 56 = .ok (.iload_n 1, 1) := by decide +kernel
theorem dX6_observe_57 : decode cX6_observe 57 = .ok (.aload_n 0, 1) := by decide +kernel
theorem dX6_observe_58 : decode cX6_observe 58 = .ok (.iload_n 3, 1) := by decide +kernel
theorem dX6_observe_59 : decode cX6_observe 59 = .ok (.iload_n 2, 1) := by decide +kernel
theorem dX6_observe_60 : decode cX6_observe 60 = .ok (.invokevirtual 84, 3) := by decide +kernel
theorem dX6_observe_63 : decode cX6_observe 63 = .ok (.isub, 1) := by decide +kernel
theorem dX6_observe_64 : decode cX6_observe 64 = .ok (.istore 4, 2) := by decide +kernel
theorem dX6_observe_66 : decode cX6_observe 66 = .ok (.aload_n 0, 1) := by decide +kernel
theorem dX6_observe_67 : decode cX6_observe 67 = .ok (.dup, 1) := by decide +kernel
theorem dX6_observe_68 : decode cX6_observe 68 = .ok (.getfield 134, 3) := by decide +kernel
theorem dX6_observe_71 : decode cX6_observe 71 = .ok (.iconst 1, 1) := by decide +kernel
theorem dX6_observe_72 : decode cX6_observe 72 = .ok (.iadd, 1) := by decide +kernel
theorem dX6_observe_73 : decode cX6_observe 73 = .ok (.putfield 134, 3) := by decide +kernel
theorem dX6_observe_76 : decode cX6_observe 76 = .ok (.iload 4, 2) := by decide +kernel
theorem dX6_observe_78 : decode cX6_observe 78 = .ok (.ifCond .eq 11, 3) := by decide +kernel
theorem dX6_observe_81 : decode cX6_observe 81 = .ok (.iload_n 2, 1) := by decide +kernel
theorem dX6_observe_82 : decode cX6_observe 82 = .ok (.ifCond .ne 10, 3) := by decide +kernel
theorem dX6_observe_85 : decode cX6_observe 85 = .ok (.iload_n 3, 1) := by decide +kernel
theorem dX6_observe_86 : decode cX6_observe 86 = .ok (.ifCond .ne 6, 3) := by decide +kernel
theorem dX6_observe_89 : decode cX6_observe 89 = .ok (.iload 4, 2) := by decide +kernel
theorem dX6_observe_91 : decode cX6_observe 91 = .ok (.ireturn, 1) := by decide +kernel
theorem dX6_observe_92 : decode cX6_observe 92 = .ok (.aload_n 0, 1) := by decide +kernel
theorem dX6_observe_93 : decode cX6_observe 93 = .ok (.dup, 1) := by decide +kernel
theorem dX6_observe_94 : decode cX6_observe 94 = .ok (.getfield 137, 3) := by decide +kernel
theorem dX6_observe_97 : decode cX6_observe 97 = .ok (.iconst 1, 1) := by decide +kernel
theorem dX6_observe_98 : decode cX6_observe 98 = .ok (.iadd, 1) := by decide +kernel
theorem dX6_observe_99 : decode cX6_observe 99 = .ok (.putfield 137, 3) := by decide +kernel
theorem dX6_observe_102 : decode cX6_observe 102 = .ok (.iload_n 2, 1) := by decide +kernel
theorem dX6_observe_103 : decode cX6_observe 103 = .ok (.ifCond .eq 28, 3) := by decide +kernel
theorem dX6_observe_106 : decode cX6_observe 106 = .ok (.iconst 2, 1) := by decide +kernel
theorem dX6_observe_107 : decode cX6_observe 107 = .ok (.sipush 1000, 3) := by decide +kernel
theorem dX6_observe_110 : decode cX6_observe 110 = .ok (.iload_n 1, 1) := by decide +kernel
theorem dX6_observe_111 : decode cX6_observe 111 = .ok (.imul, 1) := by decide +kernel
theorem dX6_observe_112 : decode cX6_observe 112 = .ok (.sipush 500, 3) := by decide +kernel
theorem dX6_observe_115 : decode cX6_observe 115 = .ok (.iadd, 1) := by decide +kernel
theorem dX6_observe_116 : decode cX6_observe 116 = .ok (.aload_n 0, 1) := by decide +kernel
theorem dX6_observe_117 : decode cX6_observe 117 = .ok (.getfield 43, 3) := by decide +kernel
theorem dX6_observe_120 : decode cX6_observe 120 = .ok (.isub, 1) := by decide +kernel
theorem dX6_observe_121 : decode cX6_observe 121 = .ok (.imul, 1) := by decide +kernel
theorem dX6_observe_122 : decode cX6_observe 122 = .ok (.iconst 2, 1) := by decide +kernel
theorem dX6_observe_123 : decode cX6_observe 123 = .ok (.iload_n 3, 1) := by decide +kernel
theorem dX6_observe_124 : decode cX6_observe 124 = .ok (.imul, 1) := by decide +kernel
theorem dX6_observe_125 : decode cX6_observe 125 = .ok (.iconst 1, 1) := by decide +kernel
theorem dX6_observe_126 : decode cX6_observe 126 = .ok (.iadd, 1) := by decide +kernel
theorem dX6_observe_127 : decode cX6_observe 127 = .ok (.idiv, 1) := by decide +kernel
theorem dX6_observe_128 : decode cX6_observe 128 = .ok (.goto 19, 3) := by decide +kernel
theorem dX6_observe_131 : decode cX6_observe 131 = .ok (.sipush 1000, 3) := by decide +kernel
theorem dX6_observe_134 : decode cX6_observe 134 = .ok (.iload_n 1, 1) := by decide +kernel
theorem dX6_observe_135 : decode cX6_observe 135 = .ok (.imul, 1) := by decide +kernel
theorem dX6_observe_136 : decode cX6_observe 136 = .ok (.sipush 500, 3) := by decide +kernel
theorem dX6_observe_139 : decode cX6_observe 139 = .ok (.iadd, 1) := by decide +kernel
theorem dX6_observe_140 : decode cX6_observe 140 = .ok (.aload_n 0, 1) := by decide +kernel
theorem dX6_observe_141 : decode cX6_observe 141 = .ok (.getfield 43, 3) := by decide +kernel
theorem dX6_observe_144 : decode cX6_observe 144 = .ok (.isub, 1) := by decide +kernel
theorem dX6_observe_145 : decode cX6_observe 145 = .ok (.iload_n 3, 1) := by decide +kernel
theorem dX6_observe_146 : decode cX6_observe 146 = .ok (.idiv, 1) := by decide +kernel
theorem dX6_observe_147 : decode cX6_observe 147 = .ok (.istore 5, 2) := by decide +kernel
theorem dX6_observe_149 : decode cX6_observe 149 = .ok (.aload_n 0, 1) := by decide +kernel
theorem dX6_observe_150 : decode cX6_observe 150 = .ok (.sipush 20000, 3) := by decide +kernel
theorem dX6_observe_153 : decode cX6_observe 153 = .ok (.ldc 41, 2) := by decide +kernel
theorem dX6_observe_155 : decode cX6_observe 155 = .ok (.iload 5, 2) := by decide +kernel
theorem dX6_observe_157 : decode cX6_observe 157 = .ok (.invokestatic 116, 3) := by decide +kernel
theorem dX6_observe_160 : decode cX6_observe 160 = .ok (.invokestatic 79, 3) := by decide +kernel
theorem dX6_observe_163 : decode cX6_observe 163 = .ok (.putfield 16, 3) := by decide +kernel
theorem dX6_observe_166 : decode cX6_observe 166 = .ok (.iload 4, 2) := by decide +kernel
theorem dX6_observe_168 : decode cX6_observe 168 = .ok (.ireturn, 1) := by decide +kernel
set_option maxRecDepth 20000 in
theorem ggX6_addFeast_X6_isIn : GoodIn wsX6_addFeast wsX6_isIn := goodIn_r _ [12] (by decide +kernel) (by decide +kernel)
set_option maxRecDepth 20000 in
theorem gX6_addFeast_X6_isIn : GoodIn wsX6_addFeast (va_wsS RX6 33 yX6_isIn wsX6_isIn) := goodIn_app (goodIn_of _ (by decide +kernel)) ggX6_addFeast_X6_isIn
set_option maxRecDepth 20000 in
theorem ggX6_addFeast_X6_fail : GoodIn wsX6_addFeast wsX6_fail := goodIn_r _ [16, 1, 17, 18, 19, 20, 21, 22, 23, 24, 25, 26, 27, 28, 29] (by decide +kernel) (by decide +kernel)
set_option maxRecDepth 20000 in
theorem gX6_addFeast_X6_fail : GoodIn wsX6_addFeast (wsV RX6 37 RX6 yX6_fail wsX6_fail) := goodIn_app (goodIn_of _ (by decide +kernel)) ggX6_addFeast_X6_fail
theorem dX6_addFeast_0 : decode cX6_addFeast 0 = .ok (.aload_n 0, 1) := by decide +kernel
theorem dX6_addFeast_1 : decode cX6_addFeast 1 = .ok (.iconst 0, 1) := by decide +kernel
theorem dX6_addFeast_2 : decode cX6_addFeast 2 = .ok (.putfield 30, 3) := by decide +kernel
theorem dX6_addFeast_5 : decode cX6_addFeast 5 = .ok (.iload_n 1, 1) := by decide +kernel
theorem dX6_addFeast_6 : decode cX6_addFeast 6 = .ok (.iconst 0, 1) := by decide +kernel
theorem dX6_addFeast_7 : decode cX6_addFeast 7 = .ok (.bipush 11, 2) := by decide +kernel
theorem dX6_addFeast_9 : decode cX6_addFeast 9 = .ok (.invokestatic 33, 3) := by decide +kernel
theorem dX6_addFeast_12 : decode cX6_addFeast 12 = .ok (.ifCond .eq 45, 3) := by decide +kernel
theorem dX6_addFeast_15 : decode cX6_addFeast 15 = .ok (.iload_n 2, 1) := by decide +kernel
theorem dX6_addFeast_16 : decode cX6_addFeast 16 = .ok (.iconst 0, 1) := by decide +kernel
theorem dX6_addFeast_17 : decode cX6_addFeast 17 = .ok (.bipush 29, 2) := by decide +kernel
theorem dX6_addFeast_19 : decode cX6_addFeast 19 = .ok (.invokestatic 33, 3) := by decide +kernel
theorem dX6_addFeast_22 : decode cX6_addFeast 22 = .ok (.ifCond .eq 35, 3) := by decide +kernel
theorem dX6_addFeast_25 : decode cX6_addFeast 25 = .ok (.iload_n 3, 1) := by decide +kernel
theorem dX6_addFeast_26 : decode cX6_addFeast 26 = .ok (.iconst 0, 1) := by decide +kernel
theorem dX6_addFeast_27 : decode cX6_addFeast 27 = .ok (.iconst 3, 1) := by decide +kernel
theorem dX6_addFeast_28 : decode cX6_addFeast 28 = .ok (.invokestatic 33, 3) := by decide +kernel
theorem dX6_addFeast_31 : decode cX6_addFeast 31 = .ok (.ifCond .eq 26, 3) := by decide +kernel
theorem dX6_addFeast_34 : decode cX6_addFeast 34 = .ok (.iload 4, 2) := by decide +kernel
theorem dX6_addFeast_36 : decode cX6_addFeast 36 = .ok (.iconst (-1), 1) := by decide +kernel
theorem dX6_addFeast_37 : decode cX6_addFeast 37 = .ok (.bipush 6, 2) := by decide +kernel
theorem dX6_addFeast_39 : decode cX6_addFeast 39 = .ok (.invokestatic 33, 3) := by decide +kernel
theorem dX6_addFeast_42 : decode cX6_addFeast 42 = .ok (.ifCond .eq 15, 3) := by decide +kernel
theorem dX6_addFeast_45 : decode cX6_addFeast 45 = .ok (.iload 5, 2) := by decide +kernel
theorem dX6_addFeast_47 : decode cX6_addFeast 47 = .ok (.bipush (-60), 2) := by decide +kernel
theorem dX6_addFeast_49 : decode cX6_addFeast 49 = .ok (.bipush 60, 2) := by decide +kernel
theorem dX6_addFeast_51 : decode cX6_addFeast 51 = .ok (.invokestatic 33, 3) := by decide +kernel
theorem dX6_addFeast_54 : decode cX6_addFeast 54 = .ok (.ifCond .ne 9, 3) := by decide +kernel
theorem dX6_addFeast_57 : decode cX6_addFeast 57 = .ok (.aload_n 0, 1) := by decide +kernel
theorem dX6_addFeast_58 : decode cX6_addFeast 58 = .ok (.iconst 1, 1) := by decide +kernel
theorem dX6_addFeast_59 : decode cX6_addFeast 59 = .ok (.invokevirtual 37, 3) := by decide +kernel
theorem dX6_addFeast_62 : decode cX6_addFeast 62 = .ok (.ireturn, 1) := by decide +kernel
theorem dX6_addFeast_63 : decode cX6_addFeast 63 = .ok (.aload_n 0, 1) := by decide +kernel
theorem dX6_addFeast_64 : decode cX6_addFeast 64 = .ok (.getfield 140, 3) := by decide +kernel
theorem dX6_addFeast_67 : decode cX6_addFeast 67 = .ok (.bipush 8, 2) := by decide +kernel
theorem dX6_addFeast_69 : decode cX6_addFeast 69 = .ok (.if_icmp .ne 9, 3) := by decide +kernel
theorem dX6_addFeast_72 : decode cX6_addFeast 72 = .ok (.aload_n 0, 1) := by decide +kernel
theorem dX6_addFeast_73 : decode cX6_addFeast 73 = .ok (.iconst 2, 1) := by decide +kernel
theorem dX6_addFeast_74 : decode cX6_addFeast 74 = .ok (.invokevirtual 37, 3) := by decide +kernel
theorem dX6_addFeast_77 : decode cX6_addFeast 77 = .ok (.ireturn, 1) := by decide +kernel
theorem dX6_addFeast_78 : decode cX6_addFeast 78 = .ok (.iconst 5, 1) := by decide +kernel
theorem dX6_addFeast_79 : decode cX6_addFeast 79 = .ok (.newarray .int, 2) := by decide +kernel
theorem dX6_addFeast_81 : decode cX6_addFeast 81 = .ok (.dup, 1) := by decide +kernel
theorem dX6_addFeast_82 : decode cX6_addFeast 82 = .ok (.iconst 0, 1) := by decide +kernel
theorem dX6_addFeast_83 : decode cX6_addFeast 83 = .ok (.iload_n 1, 1) := by decide +kernel
theorem dX6_addFeast_84 : decode cX6_addFeast 84 = .ok (.iastore, 1) := by decide +kernel
theorem dX6_addFeast_85 : decode cX6_addFeast 85 = .ok (.dup, 1) := by decide +kernel
theorem dX6_addFeast_86 : decode cX6_addFeast 86 = .ok (.iconst 1, 1) := by decide +kernel
theorem dX6_addFeast_87 : decode cX6_addFeast 87 = .ok (.iload_n 2, 1) := by decide +kernel
theorem dX6_addFeast_88 : decode cX6_addFeast 88 = .ok (.iastore, 1) := by decide +kernel
theorem dX6_addFeast_89 : decode cX6_addFeast 89 = .ok (.dup, 1) := by decide +kernel
theorem dX6_addFeast_90 : decode cX6_addFeast 90 = .ok (.iconst 2, 1) := by decide +kernel
theorem dX6_addFeast_91 : decode cX6_addFeast 91 = .ok (.iload_n 3, 1) := by decide +kernel
theorem dX6_addFeast_92 : decode cX6_addFeast 92 = .ok (.iastore, 1) := by decide +kernel
theorem dX6_addFeast_93 : decode cX6_addFeast 93 = .ok (.dup, 1) := by decide +kernel
theorem dX6_addFeast_94 : decode cX6_addFeast 94 = .ok (.iconst 3, 1) := by decide +kernel
theorem dX6_addFeast_95 : decode cX6_addFeast 95 = .ok (.iload 4, 2) := by decide +kernel
theorem dX6_addFeast_97 : decode cX6_addFeast 97 = .ok (.iastore, 1) := by decide +kernel
theorem dX6_addFeast_98 : decode cX6_addFeast 98 = .ok (.dup, 1) := by decide +kernel
theorem dX6_addFeast_99 : decode cX6_addFeast 99 = .ok (.iconst 4, 1) := by decide +kernel
theorem dX6_addFeast_100 : decode cX6_addFeast 100 = .ok (.iload 5, 2) := by decide +kernel
theorem dX6_addFeast_102 : decode cX6_addFeast 102 = .ok (.iastore, 1) := by decide +kernel
theorem dX6_addFeast_103 : decode cX6_addFeast 103 = .ok (.astore 6, 2) := by decide +kernel
theorem dX6_addFeast_105 : decode cX6_addFeast 105 = .ok (.aload 6, 2) := by decide +kernel
theorem dX6_addFeast_107 : decode cX6_addFeast 107 = .ok (.iconst 0, 1) := by decide +kernel
theorem dX6_addFeast_108 : decode cX6_addFeast 108 = .ok (.aload_n 0, 1) := by decide +kernel
theorem dX6_addFeast_109 : decode cX6_addFeast 109 = .ok (.getfield 23, 3) := by decide +kernel
theorem dX6_addFeast_112 : decode cX6_addFeast 112 = .ok (.iconst 5, 1) := by decide +kernel
theorem dX6_addFeast_113 : decode cX6_addFeast 113 = .ok (.aload_n 0, 1) := by decide +kernel
theorem dX6_addFeast_114 : decode cX6_addFeast 114 = .ok (.getfield 140, 3) := by decide +kernel
theorem dX6_addFeast_117 : decode cX6_addFeast 117 = .ok (.imul, 1) := by decide +kernel
theorem dX6_addFeast_118 : decode cX6_addFeast 118 = .ok (.iconst 5, 1) := by decide +kernel
theorem dX6_addFeast_119 : decode cX6_addFeast 119 = .ok (.invokestatic 143, 3) := by decide +kernel
theorem dX6_addFeast_122 : decode cX6_addFeast 122 = .ok (.aload_n 0, 1) := by decide +kernel
theorem dX6_addFeast_123 : decode cX6_addFeast 123 = .ok (.dup, 1) := by decide +kernel
theorem dX6_addFeast_124 : decode cX6_addFeast 124 = .ok (.getfield 140, 3) := by decide +kernel
theorem dX6_addFeast_127 : decode cX6_addFeast 127 = .ok (.iconst 1, 1) := by decide +kernel
theorem dX6_addFeast_128 : decode cX6_addFeast 128 = .ok (.iadd, 1) := by decide +kernel
theorem dX6_addFeast_129 : decode cX6_addFeast 129 = .ok (.putfield 140, 3) := by decide +kernel
theorem dX6_addFeast_132 : decode cX6_addFeast 132 = .ok (.aload_n 0, 1) := by decide +kernel
theorem dX6_addFeast_133 : decode cX6_addFeast 133 = .ok (.getfield 140, 3) := by decide +kernel
theorem dX6_addFeast_136 : decode cX6_addFeast 136 = .ok (.iconst 1, 1) := by decide +kernel
theorem dX6_addFeast_137 : decode cX6_addFeast 137 = .ok (.isub, 1) := by decide +kernel
theorem dX6_addFeast_138 : decode cX6_addFeast 138 = .ok (.ireturn, 1) := by decide +kernel
theorem dX6_fe_0 : decode cX6_fe 0 = .ok (.aload_n 0, 1) := by decide +kernel
theorem dX6_fe_1 : decode cX6_fe 1 = .ok (.getfield 23, 3) := by decide +kernel
theorem dX6_fe_4 : decode cX6_fe 4 = .ok (.iconst 5, 1) := by decide +kernel
theorem dX6_fe_5 : decode cX6_fe 5 = .ok (.iload_n 1, 1) := by decide +kernel
theorem dX6_fe_6 : decode cX6_fe 6 = .ok (.imul, 1) := by decide +kernel
theorem dX6_fe_7 : decode cX6_fe 7 = .ok (.iload_n 2, 1) := by decide +kernel
theorem dX6_fe_8 : decode cX6_fe 8 = .ok (.iadd, 1) := by decide +kernel
theorem dX6_fe_9 : decode cX6_fe 9 = .ok (.iaload, 1) := by decide +kernel
theorem dX6_fe_10 : decode cX6_fe 10 = .ok (.ireturn, 1) := by decide +kernel
set_option maxRecDepth 20000 in
theorem ggX6_feastDay_X6_fe : GoodIn wsX6_feastDay wsX6_fe := goodIn_r _ [5, 6, 44, 45, 46, 47, 48, 49, 50, 51, 52, 53, 54, 55, 56] (by decide +kernel) (by decide +kernel)
set_option maxRecDepth 20000 in
theorem gX6_feastDay_X6_fe : GoodIn wsX6_feastDay (wsV RX6 149 RX6 yX6_fe wsX6_fe) := goodIn_app (goodIn_of _ (by decide +kernel)) ggX6_feastDay_X6_fe
set_option maxRecDepth 20000 in
theorem ggX6_feastDay_X6_dayOf : GoodIn wsX6_feastDay wsX6_dayOf := goodIn_r _ [10, 11, 12, 13, 4, 14, 15, 16, 17, 18, 19, 20, 21, 22, 23, 24, 44, 45, 46, 47, 48, 49, 50, 51, 52, 53, 54, 55, 56] (by decide +kernel) (by decide +kernel)
set_option maxRecDepth 20000 in
theorem gX6_feastDay_X6_dayOf : GoodIn wsX6_feastDay (wsV RX6 66 RX6 yX6_dayOf wsX6_dayOf) := goodIn_app (goodIn_of _ (by decide +kernel)) ggX6_feastDay_X6_dayOf
set_option maxRecDepth 20000 in
theorem ggX6_feastDay_X6_moonFrom : GoodIn wsX6_feastDay wsX6_moonFrom := goodIn_r _ [28, 29, 30, 31, 32, 33, 34, 35, 36, 37, 38, 4, 39, 40, 41, 42, 43, 44, 45, 46, 47, 48, 49, 50, 51, 52, 53, 54, 55, 56] (by decide +kernel) (by decide +kernel)
set_option maxRecDepth 20000 in
theorem gX6_feastDay_X6_moonFrom : GoodIn wsX6_feastDay (wsV RX6 90 RX6 yX6_moonFrom wsX6_moonFrom) := goodIn_app (goodIn_of _ (by decide +kernel)) ggX6_feastDay_X6_moonFrom
set_option maxRecDepth 20000 in
theorem ggX6_feastDay_X6_falls : GoodIn wsX6_feastDay wsX6_falls := goodIn_r _ [39, 40, 41, 42, 4, 43, 30, 31, 44, 45, 46, 47, 48, 49, 50, 51, 52, 53, 54, 55, 56] (by decide +kernel) (by decide +kernel)
set_option maxRecDepth 20000 in
theorem gX6_feastDay_X6_falls : GoodIn wsX6_feastDay (wsV RX6 84 RX6 yX6_falls wsX6_falls) := goodIn_app (goodIn_of _ (by decide +kernel)) ggX6_feastDay_X6_falls
theorem dX6_feastDay_0 : decode cX6_feastDay 0 = .ok (.aload_n 0, 1) := by decide +kernel
theorem dX6_feastDay_1 : decode cX6_feastDay 1 = .ok (.iload_n 2, 1) := by decide +kernel
theorem dX6_feastDay_2 : decode cX6_feastDay 2 = .ok (.aload_n 0, 1) := by decide +kernel
theorem dX6_feastDay_3 : decode cX6_feastDay 3 = .ok (.iload_n 1, 1) := by decide +kernel
theorem dX6_feastDay_4 : decode cX6_feastDay 4 = .ok (.iconst 0, 1) := by decide +kernel
theorem dX6_feastDay_5 : decode cX6_feastDay 5 = .ok (.invokevirtual 149, 3) := by decide +kernel
theorem dX6_feastDay_8 : decode cX6_feastDay 8 = .ok (.aload_n 0, 1) := by decide +kernel
theorem dX6_feastDay_9 : decode cX6_feastDay 9 = .ok (.iload_n 1, 1) := by decide +kernel
theorem dX6_feastDay_10 : decode cX6_feastDay 10 = .ok (.iconst 1, 1) := by decide +kernel
theorem dX6_feastDay_11 : decode cX6_feastDay 11 = .ok (.invokevirtual 149, 3) := by decide +kernel
theorem dX6_feastDay_14 : decode cX6_feastDay 14 = .ok (.invokevirtual 66, 3) := by decide +kernel
theorem dX6_feastDay_17 : decode cX6_feastDay 17 = .ok (.istore_n 3, 1) := by decide +kernel
theorem dX6_feastDay_18 : decode cX6_feastDay 18 = .ok (.aload_n 0, 1) := by decide +kernel
theorem dX6_feastDay_19 : decode cX6_feastDay 19 = .ok (.iload_n 1, 1) := by decide +kernel
theorem dX6_feastDay_20 : decode cX6_feastDay 20 = .ok (.iconst 2, 1) := by decide +kernel
theorem dX6_feastDay_21 : decode cX6_feastDay 21 = .ok (.invokevirtual 149, 3) := by decide +kernel
theorem dX6_feastDay_24 : decode cX6_feastDay 24 = .ok (.ifCond .le 24, 3) := by decide +kernel
theorem dX6_feastDay_27 : decode cX6_feastDay 27 = .ok (.aload_n 0, 1) := by decide +kernel
theorem dX6_feastDay_28 : decode cX6_feastDay 28 = .ok (.aload_n 0, 1) := by decide +kernel
theorem dX6_feastDay_29 : decode cX6_feastDay 29 = .ok (.iload_n 3, 1) := by decide +kernel
theorem dX6_feastDay_30 : decode cX6_feastDay 30 = .ok (.iconst 1, 1) := by decide +kernel
theorem dX6_feastDay_31 : decode cX6_feastDay 31 = .ok (.invokevirtual 90, 3) := by decide +kernel
theorem dX6_feastDay_34 : decode cX6_feastDay 34 = .ok (.aload_n 0, 1) := by decide +kernel
theorem dX6_feastDay_35 : decode cX6_feastDay 35 = .ok (.iload_n 1, 1) := by decide +kernel
theorem dX6_feastDay_36 : decode cX6_feastDay 36 = .ok (.iconst 2, 1) := by decide +kernel
theorem dX6_feastDay_37 : decode cX6_feastDay 37 = .ok (.invokevirtual 149, 3) := by decide +kernel
theorem dX6_feastDay_40 : decode cX6_feastDay 40 = .ok (.iadd, 1) := by decide +kernel
theorem dX6_feastDay_41 : decode cX6_feastDay 41 = .ok (.iconst 1, 1) := by decide +kernel
theorem dX6_feastDay_42 : decode cX6_feastDay 42 = .ok (.isub, 1) := by decide +kernel
theorem dX6_feastDay_43 : decode cX6_feastDay 43 = .ok (.iconst 1, 1) := by decide +kernel
theorem dX6_feastDay_44 : decode cX6_feastDay 44 = .ok (.invokevirtual 84, 3) := by decide +kernel
theorem dX6_feastDay_47 : decode cX6_feastDay 47 = .ok (.istore_n 3, 1) := by decide +kernel
theorem dX6_feastDay_48 : decode cX6_feastDay 48 = .ok (.aload_n 0, 1) := by decide +kernel
theorem dX6_feastDay_49 : decode cX6_feastDay 49 = .ok (.iload_n 1, 1) := by decide +kernel
theorem dX6_feastDay_50 : decode cX6_feastDay 50 = .ok (.iconst 3, 1) := by decide +kernel
theorem dX6_feastDay_51 : decode cX6_feastDay 51 = .ok (.invokevirtual 149, 3) := by decide +kernel
theorem dX6_feastDay_54 : decode cX6_feastDay 54 = .ok (.iconst (-1), 1) := by decide +kernel
theorem dX6_feastDay_55 : decode cX6_feastDay 55 = .ok (.if_icmp .eq 23, 3) := by decide +kernel
theorem dX6_feastDay_58 : decode cX6_feastDay 58 = .ok (.iload_n 3, 1) := by decide +kernel
theorem dX6_feastDay_59 : decode cX6_feastDay 59 = .ok (.aload_n 0, 1) := by decide +kernel
theorem dX6_feastDay_60 : decode cX6_feastDay 60 = .ok (.iload_n 1, 1) := by decide +kernel
theorem dX6_feastDay_61 : decode cX6_feastDay 61 = .ok (.iconst 3, 1) := by decide +kernel
theorem dX6_feastDay_62 : decode cX6_feastDay 62 = .ok (.invokevirtual 149, 3) := by decide +kernel
theorem dX6_feastDay_65 : decode cX6_feastDay 65 = .ok (.iload_n 3, 1) := by decide +kernel
theorem dX6_feastDay_66 : decode cX6_feastDay 66 = .ok (.bipush 7, 2) := by decide +kernel
theorem dX6_feastDay_68 : decode cX6_feastDay 68 = .ok (.irem, 1) := by decide +kernel
theorem dX6_feastDay_69 : decode cX6_feastDay 69 = .ok (.isub, 1) := by decide +kernel
theorem dX6_feastDay_70 : decode cX6_feastDay 70 = .ok (.bipush 7, 2) := by decide +kernel
theorem dX6_feastDay_72 : decode cX6_feastDay 72 = .ok (.iadd, 1) := by decide +kernel
theorem dX6_feastDay_73 : decode cX6_feastDay 73 = .ok (.bipush 7, 2) := by decide +kernel
theorem dX6_feastDay_75 : decode cX6_feastDay 75 = .ok (.irem, 1) := by decide +kernel
theorem dX6_feastDay_76 : decode cX6_feastDay 76 = .ok (.iadd, 1) := by decide +kernel
theorem dX6_feastDay_77 : decode cX6_feastDay 77 = .ok (.istore_n 3, 1) := by decide +kernel
theorem dX6_feastDay_78 : decode cX6_feastDay 78 = .ok (.iload_n 3, 1) := by decide +kernel
theorem dX6_feastDay_79 : decode cX6_feastDay 79 = .ok (.aload_n 0, 1) := by decide +kernel
theorem dX6_feastDay_80 : decode cX6_feastDay 80 = .ok (.iload_n 1, 1) := by decide +kernel
theorem dX6_feastDay_81 : decode cX6_feastDay 81 = .ok (.iconst 4, 1) := by decide +kernel
theorem dX6_feastDay_82 : decode cX6_feastDay 82 = .ok (.invokevirtual 149, 3) := by decide +kernel
theorem dX6_feastDay_85 : decode cX6_feastDay 85 = .ok (.iadd, 1) := by decide +kernel
theorem dX6_feastDay_86 : decode cX6_feastDay 86 = .ok (.ireturn, 1) := by decide +kernel
set_option maxRecDepth 20000 in
theorem ggX6_isFeast_X6_isIn : GoodIn wsX6_isFeast wsX6_isIn := goodIn_r _ [5] (by decide +kernel) (by decide +kernel)
set_option maxRecDepth 20000 in
theorem gX6_isFeast_X6_isIn : GoodIn wsX6_isFeast (va_wsS RX6 33 yX6_isIn wsX6_isIn) := goodIn_app (goodIn_of _ (by decide +kernel)) ggX6_isFeast_X6_isIn
theorem dX6_isFeast_0 : decode cX6_isFeast 0 = .ok (.iload_n 1, 1) := by decide +kernel
theorem dX6_isFeast_1 : decode cX6_isFeast 1 = .ok (.iconst 0, 1) := by decide +kernel
theorem dX6_isFeast_2 : decode cX6_isFeast 2 = .ok (.aload_n 0, 1) := by decide +kernel
theorem dX6_isFeast_3 : decode cX6_isFeast 3 = .ok (.getfield 140, 3) := by decide +kernel
theorem dX6_isFeast_6 : decode cX6_isFeast 6 = .ok (.iconst 1, 1) := by decide +kernel
theorem dX6_isFeast_7 : decode cX6_isFeast 7 = .ok (.isub, 1) := by decide +kernel
theorem dX6_isFeast_8 : decode cX6_isFeast 8 = .ok (.invokestatic 33, 3) := by decide +kernel
theorem dX6_isFeast_11 : decode cX6_isFeast 11 = .ok (.ireturn, 1) := by decide +kernel
set_option maxRecDepth 20000 in
theorem ggX6_feast_X6_isFeast : GoodIn wsX6_feast wsX6_isFeast := goodIn_r _ [6, 7, 8, 9, 5, 10, 64, 65, 66, 67, 68, 69, 70, 71, 72, 73, 74, 75, 76] (by decide +kernel) (by decide +kernel)
set_option maxRecDepth 20000 in
theorem gX6_feast_X6_isFeast : GoodIn wsX6_feast (wsV RX6 152 RX6 yX6_isFeast wsX6_isFeast) := goodIn_app (goodIn_of _ (by decide +kernel)) ggX6_feast_X6_isFeast
set_option maxRecDepth 20000 in
theorem ggX6_feast_X6_fail : GoodIn wsX6_feast wsX6_fail := goodIn_r _ [14, 1, 64, 65, 66, 67, 68, 69, 70, 71, 72, 73, 74, 75, 76] (by decide +kernel) (by decide +kernel)
set_option maxRecDepth 20000 in
theorem gX6_feast_X6_fail : GoodIn wsX6_feast (wsV RX6 37 RX6 yX6_fail wsX6_fail) := goodIn_app (goodIn_of _ (by decide +kernel)) ggX6_feast_X6_fail
set_option maxRecDepth 20000 in
theorem ggX6_feast_X6_isYear : GoodIn wsX6_feast wsX6_isYear := goodIn_r _ [17, 8, 9, 5, 10] (by decide +kernel) (by decide +kernel)
set_option maxRecDepth 20000 in
theorem gX6_feast_X6_isYear : GoodIn wsX6_feast (va_wsS RX6 56 yX6_isYear wsX6_isYear) := goodIn_app (goodIn_of _ (by decide +kernel)) ggX6_feast_X6_isYear
set_option maxRecDepth 20000 in
theorem ggX6_feast_X6_feastDay : GoodIn wsX6_feast wsX6_feastDay := goodIn_r _ [21, 22, 23, 24, 5, 25, 26, 27, 28, 29, 30, 31, 32, 33, 34, 35, 36, 37, 38, 39, 40, 41, 42, 43, 44, 45, 46, 47, 48, 49, 50, 51, 52, 53, 54, 55, 56, 57, 58, 59, 60, 61, 62, 63, 64, 65, 66, 67, 68, 69, 70, 71, 72, 73, 74, 75, 76] (by decide +kernel) (by decide +kernel)
set_option maxRecDepth 20000 in
theorem gX6_feast_X6_feastDay : GoodIn wsX6_feast (wsV RX6 155 RX6 yX6_feastDay wsX6_feastDay) := goodIn_app (goodIn_of _ (by decide +kernel)) ggX6_feast_X6_feastDay
theorem dX6_feast_0 : decode cX6_feast 0 = .ok (.aload_n 0, 1) := by decide +kernel
theorem dX6_feast_1 : decode cX6_feast 1 = .ok (.iconst 0, 1) := by decide +kernel
theorem dX6_feast_2 : decode cX6_feast 2 = .ok (.putfield 30, 3) := by decide +kernel
theorem dX6_feast_5 : decode cX6_feast 5 = .ok (.aload_n 0, 1) := by decide +kernel
theorem dX6_feast_6 : decode cX6_feast 6 = .ok (.iload_n 1, 1) := by decide +kernel
theorem dX6_feast_7 : decode cX6_feast 7 = .ok (.invokevirtual 152, 3) := by decide +kernel
theorem dX6_feast_10 : decode cX6_feast 10 = .ok (.ifCond .ne 9, 3) := by decide +kernel
theorem dX6_feast_13 : decode cX6_feast 13 = .ok (.aload_n 0, 1) := by decide +kernel
theorem dX6_feast_14 : decode cX6_feast 14 = .ok (.iconst 1, 1) := by decide +kernel
theorem dX6_feast_15 : decode cX6_feast 15 = .ok (.invokevirtual 37, 3) := by decide +kernel
theorem dX6_feast_18 : decode cX6_feast 18 = .ok (.ireturn, 1) := by decide +kernel
theorem dX6_feast_19 : decode cX6_feast 19 = .ok (.iload_n 2, 1) := by decide +kernel
theorem dX6_feast_20 : decode cX6_feast 20 = .ok (.invokestatic 56, 3) := by decide +kernel
theorem dX6_feast_23 : decode cX6_feast 23 = .ok (.ifCond .eq 12, 3) := by decide +kernel
theorem dX6_feast_26 : decode cX6_feast 26 = .ok (.aload_n 0, 1) := by decide +kernel
theorem dX6_feast_27 : decode cX6_feast 27 = .ok (.iload_n 1, 1) := by decide +kernel
theorem dX6_feast_28 : decode cX6_feast 28 = .ok (.iload_n 2, 1) := by decide +kernel
theorem dX6_feast_29 : decode cX6_feast 29 = .ok (.invokevirtual 155, 3) := by decide +kernel
theorem dX6_feast_32 : decode cX6_feast 32 = .ok (.goto 8, 3) := by decide +kernel
theorem dX6_feast_35 : decode cX6_feast 35 = .ok (.aload_n 0, 1) := by decide +kernel
theorem dX6_feast_36 : decode cX6_feast 36 = .ok (.iconst 2, 1) := by decide +kernel
theorem dX6_feast_37 : decode cX6_feast 37 = .ok (.invokevirtual 37, 3) := by decide +kernel
theorem dX6_feast_40 : decode cX6_feast 40 = .ok (.ireturn, 1) := by decide +kernel
set_option maxRecDepth 20000 in
theorem ggX6_clashes_X6_isYear : GoodIn wsX6_clashes wsX6_isYear := goodIn_r _ [6, 7, 8, 5, 9] (by decide +kernel) (by decide +kernel)
set_option maxRecDepth 20000 in
theorem gX6_clashes_X6_isYear : GoodIn wsX6_clashes (va_wsS RX6 56 yX6_isYear wsX6_isYear) := goodIn_app (goodIn_of _ (by decide +kernel)) ggX6_clashes_X6_isYear
set_option maxRecDepth 20000 in
theorem ggX6_clashes_X6_fail : GoodIn wsX6_clashes wsX6_fail := goodIn_r _ [13, 1, 60, 61, 62, 63, 64, 65, 66, 67, 68, 69, 70, 71, 72] (by decide +kernel) (by decide +kernel)
set_option maxRecDepth 20000 in
theorem gX6_clashes_X6_fail : GoodIn wsX6_clashes (wsV RX6 37 RX6 yX6_fail wsX6_fail) := goodIn_app (goodIn_of _ (by decide +kernel)) ggX6_clashes_X6_fail
set_option maxRecDepth 20000 in
theorem ggX6_clashes_X6_feastDay : GoodIn wsX6_clashes wsX6_feastDay := goodIn_r _ [17, 18, 19, 20, 5, 21, 22, 23, 24, 25, 26, 27, 28, 29, 30, 31, 32, 33, 34, 35, 36, 37, 38, 39, 40, 41, 42, 43, 44, 45, 46, 47, 48, 49, 50, 51, 52, 53, 54, 55, 56, 57, 58, 59, 60, 61, 62, 63, 64, 65, 66, 67, 68, 69, 70, 71, 72] (by decide +kernel) (by decide +kernel)
set_option maxRecDepth 20000 in
theorem gX6_clashes_X6_feastDay : GoodIn wsX6_clashes (wsV RX6 155 RX6 yX6_feastDay wsX6_feastDay) := goodIn_app (goodIn_of _ (by decide +kernel)) ggX6_clashes_X6_feastDay
theorem dX6_clashes_0 : decode cX6_clashes 0 = .ok (.aload_n 0, 1) := by decide +kernel
theorem dX6_clashes_1 : decode cX6_clashes 1 = .ok (.iconst 0, 1) := by decide +kernel
theorem dX6_clashes_2 : decode cX6_clashes 2 = .ok (.putfield 30, 3) := by decide +kernel
theorem dX6_clashes_5 : decode cX6_clashes 5 = .ok (.iload_n 1, 1) := by decide +kernel
theorem dX6_clashes_6 : decode cX6_clashes 6 = .ok (.invokestatic 56, 3) := by decide +kernel
theorem dX6_clashes_9 : decode cX6_clashes 9 = .ok (.ifCond .ne 9, 3) := by decide +kernel
theorem dX6_clashes_12 : decode cX6_clashes 12 = .ok (.aload_n 0, 1) := by decide +kernel
theorem dX6_clashes_13 : decode cX6_clashes 13 = .ok (.iconst 1, 1) := by decide +kernel
theorem dX6_clashes_14 : decode cX6_clashes 14 = .ok (.invokevirtual 37, 3) := by decide +kernel
theorem dX6_clashes_17 : decode cX6_clashes 17 = .ok (.ireturn, 1) := by decide +kernel
theorem dX6_clashes_18 : decode cX6_clashes 18 = .ok (.iconst 0, 1) := by decide +kernel
theorem dX6_clashes_19 : decode cX6_clashes 19 = .ok (.istore_n 2, 1) := by decide +kernel
theorem dX6_clashes_20 : decode cX6_clashes 20 = .ok (.iconst 0, 1) := by decide +kernel
theorem dX6_clashes_21 : decode cX6_clashes 21 = .ok (.istore_n 3, 1) := by decide +kernel
theorem dX6_clashes_22 : decode cX6_clashes 22 = .ok (.iload_n 3, 1) := by decide +kernel
theorem dX6_clashes_23 : decode cX6_clashes 23 = .ok (.aload_n 0, 1) := by decide +kernel
theorem dX6_clashes_24 : decode cX6_clashes 24 = .ok (.getfield 140, 3) := by decide +kernel
theorem dX6_clashes_27 : decode cX6_clashes 27 = .ok (.if_icmp .ge 48, 3) := by decide +kernel
theorem dX6_clashes_30 : decode cX6_clashes 30 = .ok (.iconst 0, 1) := by decide +kernel
theorem dX6_clashes_31 : decode cX6_clashes 31 = .ok (.istore 4, 2) := by decide +kernel
theorem dX6_clashes_33 : decode cX6_clashes 33 = .ok (.iload 4, 2) := by decide +kernel
theorem dX6_clashes_35 : decode cX6_clashes 35 = .ok (.iload_n 3, 1) := by decide +kernel
theorem dX6_clashes_36 : decode cX6_clashes 36 = .ok (.if_icmp .ge 33, 3) := by decide +kernel
theorem dX6_clashes_39 : decode cX6_clashes 39 = .ok (.iload_n 2, 1) := by decide +kernel
theorem dX6_clashes_40 : decode cX6_clashes 40 = .ok (.aload_n 0, 1) := by decide +kernel
theorem dX6_clashes_41 : decode cX6_clashes 41 = .ok (.iload_n 3, 1) := by decide +kernel
theorem dX6_clashes_42 : decode cX6_clashes 42 = .ok (.iload_n 1, 1) := by decide +kernel
theorem dX6_clashes_43 : decode cX6_clashes 43 = .ok (.invokevirtual 155, 3) := by decide +kernel
theorem dX6_clashes_46 : decode cX6_clashes 46 = .ok (.aload_n 0, 1) := by decide +kernel
theorem dX6_clashes_47 : decode cX6_clashes 47 = .ok (.iload 4, 2) := by decide +kernel
theorem dX6_clashes_49 : decode cX6_clashes 49 = .ok (.iload_n 1, 1) := by decide +kernel
theorem dX6_clashes_50 : decode cX6_clashes 50 = .ok (.invokevirtual 155, 3) := by decide +kernel
theorem dX6_clashes_53 : decode cX6_clashes 53 = .ok (.if_icmp .ne 7, 3) := by decide +kernel
theorem dX6_clashes_56 : decode cX6_clashes 56 = .ok (.iconst 1, 1) := by decide +kernel
theorem dX6_clashes_57 : decode cX6_clashes 57 = .ok (.goto 4, 3) := by decide +kernel
theorem dX6_clashes_60 : decode cX6_clashes 60 = .ok (.iconst 0, 1) := by decide +kernel
theorem dX6_clashes_61 : decode cX6_clashes 61 = .ok (.iadd, 1) := by decide +kernel
theorem dX6_clashes_62 : decode cX6_clashes 62 = .ok (.istore_n 2, 1) := by decide +kernel
theorem dX6_clashes_63 : decode cX6_clashes 63 = .ok (.iinc 4 1, 3) := by decide +kernel
theorem dX6_clashes_66 : decode cX6_clashes 66 = .ok (.goto (-33), 3) := by decide +kernel
theorem dX6_clashes_69 : decode cX6_clashes 69 = .ok (.iinc 3 1, 3) := by decide +kernel
theorem dX6_clashes_72 : decode cX6_clashes 72 = .ok (.goto (-50), 3) := by decide +kernel
theorem dX6_clashes_75 : decode cX6_clashes 75 = .ok (.iload_n 2, 1) := by decide +kernel
theorem dX6_clashes_76 : decode cX6_clashes 76 = .ok (.ireturn, 1) := by decide +kernel
set_option maxRecDepth 20000 in
theorem ggX6_again_X6_isFeast : GoodIn wsX6_again wsX6_isFeast := goodIn_r _ [10, 11, 12, 13, 9, 14, 67, 68, 69, 70, 71, 72, 73, 74, 75, 76, 77, 78, 79] (by decide +kernel) (by decide +kernel)
set_option maxRecDepth 20000 in
theorem gX6_again_X6_isFeast : GoodIn wsX6_again (wsV RX6 152 RX6 yX6_isFeast wsX6_isFeast) := goodIn_app (goodIn_of _ (by decide +kernel)) ggX6_again_X6_isFeast
set_option maxRecDepth 20000 in
theorem ggX6_again_X6_fail : GoodIn wsX6_again wsX6_fail := goodIn_r _ [18, 1, 67, 68, 69, 70, 71, 72, 73, 74, 75, 76, 77, 78, 79] (by decide +kernel) (by decide +kernel)
set_option maxRecDepth 20000 in
theorem gX6_again_X6_fail : GoodIn wsX6_again (wsV RX6 37 RX6 yX6_fail wsX6_fail) := goodIn_app (goodIn_of _ (by decide +kernel)) ggX6_again_X6_fail
set_option maxRecDepth 20000 in
theorem ggX6_again_X6_isYear : GoodIn wsX6_again wsX6_isYear := goodIn_r _ [21, 12, 13, 9, 14] (by decide +kernel) (by decide +kernel)
set_option maxRecDepth 20000 in
theorem gX6_again_X6_isYear : GoodIn wsX6_again (va_wsS RX6 56 yX6_isYear wsX6_isYear) := goodIn_app (goodIn_of _ (by decide +kernel)) ggX6_again_X6_isYear
set_option maxRecDepth 20000 in
theorem ggX6_again_X6_feastDay : GoodIn wsX6_again wsX6_feastDay := goodIn_r _ [25, 26, 27, 28, 9, 29, 30, 31, 32, 33, 34, 35, 36, 37, 38, 39, 40, 41, 42, 43, 44, 45, 46, 47, 48, 49, 50, 51, 52, 53, 54, 55, 56, 57, 4, 58, 59, 60, 61, 62, 63, 64, 65, 66, 67, 68, 69, 70, 71, 72, 73, 74, 75, 76, 77, 78, 79] (by decide +kernel) (by decide +kernel)
set_option maxRecDepth 20000 in
theorem gX6_again_X6_feastDay : GoodIn wsX6_again (wsV RX6 155 RX6 yX6_feastDay wsX6_feastDay) := goodIn_app (goodIn_of _ (by decide +kernel)) ggX6_again_X6_feastDay
set_option maxRecDepth 20000 in
theorem ggX6_again_X6_begins : GoodIn wsX6_again wsX6_begins := goodIn_r _ [38, 39, 40, 41, 9, 42, 43, 44, 67, 68, 69, 70, 71, 72, 73, 74, 75, 76, 77, 78, 79] (by decide +kernel) (by decide +kernel)
set_option maxRecDepth 20000 in
theorem gX6_again_X6_begins : GoodIn wsX6_again (wsV RX6 59 RX6 yX6_begins wsX6_begins) := goodIn_app (goodIn_of _ (by decide +kernel)) ggX6_again_X6_begins
theorem dX6_again_0 : decode cX6_again 0 = .ok (.aload_n 0, 1) := by decide +kernel
theorem dX6_again_1 : decode cX6_again 1 = .ok (.iconst 0, 1) := by decide +kernel
theorem dX6_again_2 : decode cX6_again 2 = .ok (.putfield 30, 3) := by decide +kernel
theorem dX6_again_5 : decode cX6_again 5 = .ok (.aload_n 0, 1) := by decide +kernel
theorem dX6_again_6 : decode cX6_again 6 = .ok (.iload_n 1, 1) := by decide +kernel
theorem dX6_again_7 : decode cX6_again 7 = .ok (.invokevirtual 152, 3) := by decide +kernel
theorem dX6_again_10 : decode cX6_again 10 = .ok (.ifCond .ne 9, 3) := by decide +kernel
theorem dX6_again_13 : decode cX6_again 13 = .ok (.aload_n 0, 1) := by decide +kernel
theorem dX6_again_14 : decode cX6_again 14 = .ok (.iconst 1, 1) := by decide +kernel
theorem dX6_again_15 : decode cX6_again 15 = .ok (.invokevirtual 37, 3) := by decide +kernel
theorem dX6_again_18 : decode cX6_again 18 = .ok (.ireturn, 1) := by decide +kernel
theorem dX6_again_19 : decode cX6_again 19 = .ok (.iload_n 2, 1) := by decide +kernel
theorem dX6_again_20 : decode cX6_again 20 = .ok (.invokestatic 56, 3) := by decide +kernel
theorem dX6_again_23 : decode cX6_again 23 = .ok (.ifCond .ne 9, 3) := by decide +kernel
theorem dX6_again_26 : decode cX6_again 26 = .ok (.aload_n 0, 1) := by decide +kernel
theorem dX6_again_27 : decode cX6_again 27 = .ok (.iconst 2, 1) := by decide +kernel
theorem dX6_again_28 : decode cX6_again 28 = .ok (.invokevirtual 37, 3) := by decide +kernel
theorem dX6_again_31 : decode cX6_again 31 = .ok (.ireturn, 1) := by decide +kernel
theorem dX6_again_32 : decode cX6_again 32 = .ok (.aload_n 0, 1) := by decide +kernel
theorem dX6_again_33 : decode cX6_again 33 = .ok (.iload_n 1, 1) := by decide +kernel
theorem dX6_again_34 : decode cX6_again 34 = .ok (.iload_n 2, 1) := by decide +kernel
theorem dX6_again_35 : decode cX6_again 35 = .ok (.invokevirtual 155, 3) := by decide +kernel
theorem dX6_again_38 : decode cX6_again 38 = .ok (.aload_n 0, 1) := by decide +kernel
theorem dX6_again_39 : decode cX6_again 39 = .ok (.iload_n 2, 1) := by decide +kernel
theorem dX6_again_40 : decode cX6_again 40 = .ok (.invokevirtual 59, 3) := by decide +kernel
theorem dX6_again_43 : decode cX6_again 43 = .ok (.isub, 1) := by decide +kernel
theorem dX6_again_44 : decode cX6_again 44 = .ok (.istore_n 3, 1) := by decide +kernel
theorem dX6_again_45 : decode cX6_again 45 = .ok (.iload_n 2, 1) := by decide +kernel
theorem dX6_again_46 : decode cX6_again 46 = .ok (.iconst 1, 1) := by decide +kernel
theorem dX6_again_47 : decode cX6_again 47 = .ok (.iadd, 1) := by decide +kernel
theorem dX6_again_48 : decode cX6_again 48 = .ok (.istore 4, 2) := by decide +kernel
theorem dX6_again_50 : decode cX6_again 50 = .ok (.iload 4, 2) := by decide +kernel
theorem dX6_again_52 : decode cX6_again 52 = .ok (.iload_n 2, 1) := by decide +kernel
theorem dX6_again_53 : decode cX6_again 53 = .ok (.bipush 100, 2) := by decide +kernel
theorem dX6_again_55 : decode cX6_again 55 = .ok (.iadd, 1) := by decide +kernel
theorem dX6_again_56 : decode cX6_again 56 = .ok (.sipush 999, 3) := by decide +kernel
theorem dX6_again_59 : decode cX6_again 59 = .ok (.invokestatic 116, 3) := by decide +kernel
theorem dX6_again_62 : decode cX6_again 62 = .ok (.if_icmp .gt 30, 3) := by decide +kernel
theorem dX6_again_65 : decode cX6_again 65 = .ok (.aload_n 0, 1) := by decide +kernel
theorem dX6_again_66 : decode cX6_again 66 = .ok (.iload_n 1, 1) := by decide +kernel
theorem dX6_again_67 : decode cX6_again 67 = .ok (.iload 4, 2) := by decide +kernel
theorem dX6_again_69 : decode cX6_again 69 = .ok (.invokevirtual 155, 3) := by decide +kernel
theorem dX6_again_72 : decode cX6_again 72 = .ok (.aload_n 0, 1) := by decide +kernel
theorem dX6_again_73 : decode cX6_again 73 = .ok (.iload 4, 2) := by decide +kernel
theorem dX6_again_75 : decode cX6_again 75 = .ok (.invokevirtual 59, 3) := by decide +kernel
theorem dX6_again_78 : decode cX6_again 78 = .ok (.isub, 1) := by decide +kernel
theorem dX6_again_79 : decode cX6_again 79 = .ok (.iload_n 3, 1) := by decide +kernel
theorem dX6_again_80 : decode cX6_again 80 = .ok (.if_icmp .ne 6, 3) := by decide +kernel
theorem dX6_again_83 : decode cX6_again 83 = .ok (.iload 4, 2) := by decide +kernel
theorem dX6_again_85 : decode cX6_again 85 = .ok (.ireturn, 1) := by decide +kernel
theorem dX6_again_86 : decode cX6_again 86 = .ok (.iinc 4 1, 3) := by decide +kernel
theorem dX6_again_89 : decode cX6_again 89 = .ok (.goto (-39), 3) := by decide +kernel
theorem dX6_again_92 : decode cX6_again 92 = .ok (.iconst (-1), 1) := by decide +kernel
theorem dX6_again_93 : decode cX6_again 93 = .ok (.ireturn, 1) := by decide +kernel
theorem dX6_pa_0 : decode cX6_pa 0 = .ok (.aload_n 0, 1) := by decide +kernel
theorem dX6_pa_1 : decode cX6_pa 1 = .ok (.getfield 27, 3) := by decide +kernel
theorem dX6_pa_4 : decode cX6_pa 4 = .ok (.bipush 11, 2) := by decide +kernel
theorem dX6_pa_6 : decode cX6_pa 6 = .ok (.iload_n 1, 1) := by decide +kernel
theorem dX6_pa_7 : decode cX6_pa 7 = .ok (.imul, 1) := by decide +kernel
theorem dX6_pa_8 : decode cX6_pa 8 = .ok (.iload_n 2, 1) := by decide +kernel
theorem dX6_pa_9 : decode cX6_pa 9 = .ok (.iadd, 1) := by decide +kernel
theorem dX6_pa_10 : decode cX6_pa 10 = .ok (.iaload, 1) := by decide +kernel
theorem dX6_pa_11 : decode cX6_pa 11 = .ok (.ireturn, 1) := by decide +kernel
set_option maxRecDepth 20000 in
theorem ggX6_allEclipses_X6_eclipsesOf : GoodIn wsX6_allEclipses wsX6_eclipsesOf := goodIn_r _ [5, 6, 7, 8, 4, 9, 10, 11, 12, 13, 14, 15, 16, 17, 18, 19, 20, 21, 22, 23, 24, 25, 26, 27, 28, 29, 30, 31, 32, 33, 34, 35, 36, 37, 38, 39, 40, 41, 42, 43, 44, 45, 46, 47, 48, 49, 50, 51, 52, 53, 54, 55, 56, 57, 58, 59, 60] (by decide +kernel) (by decide +kernel)
set_option maxRecDepth 20000 in
theorem gX6_allEclipses_X6_eclipsesOf : GoodIn wsX6_allEclipses (wsV RX6 127 RX6 yX6_eclipsesOf wsX6_eclipsesOf) := goodIn_app (goodIn_of _ (by decide +kernel)) ggX6_allEclipses_X6_eclipsesOf
theorem dX6_allEclipses_0 : decode cX6_allEclipses 0 = .ok (.aload_n 0, 1) := by decide +kernel
theorem dX6_allEclipses_1 : decode cX6_allEclipses 1 = .ok (.iload_n 1, 1) := by decide +kernel
theorem dX6_allEclipses_2 : decode cX6_allEclipses 2 = .ok (.iconst 0, 1) := by decide +kernel
theorem dX6_allEclipses_3 : decode cX6_allEclipses 3 = .ok (.invokevirtual 127, 3) := by decide +kernel
theorem dX6_allEclipses_6 : decode cX6_allEclipses 6 = .ok (.aload_n 0, 1) := by decide +kernel
theorem dX6_allEclipses_7 : decode cX6_allEclipses 7 = .ok (.iload_n 1, 1) := by decide +kernel
theorem dX6_allEclipses_8 : decode cX6_allEclipses 8 = .ok (.iconst 1, 1) := by decide +kernel
theorem dX6_allEclipses_9 : decode cX6_allEclipses 9 = .ok (.invokevirtual 127, 3) := by decide +kernel
theorem dX6_allEclipses_12 : decode cX6_allEclipses 12 = .ok (.iadd, 1) := by decide +kernel
theorem dX6_allEclipses_13 : decode cX6_allEclipses 13 = .ok (.ireturn, 1) := by decide +kernel
set_option maxRecDepth 20000 in
theorem ggX6_fill_X6_allEclipses : GoodIn wsX6_fill wsX6_allEclipses := goodIn_r _ [7, 8, 9, 10, 6, 11, 12, 13, 14, 15, 16, 17, 18, 19, 20, 21, 22, 23, 24, 25, 26, 27, 28, 29, 30, 31, 32, 33, 34, 35, 36, 37, 38, 39, 40, 41, 42, 43, 44, 45, 46, 47, 48, 49, 50, 51, 52, 53, 71, 72, 73, 74, 75, 76, 77, 78, 79, 80, 81, 82, 83] (by decide +kernel) (by decide +kernel)
set_option maxRecDepth 20000 in
theorem gX6_fill_X6_allEclipses : GoodIn wsX6_fill (wsV RX6 158 RX6 yX6_allEclipses wsX6_allEclipses) := goodIn_app (goodIn_of _ (by decide +kernel)) ggX6_fill_X6_allEclipses
set_option maxRecDepth 20000 in
theorem ggX6_fill_X6_feastDay : GoodIn wsX6_fill wsX6_feastDay := goodIn_r _ [57, 58, 59, 60, 6, 61, 62, 63, 64, 65, 66, 12, 13, 14, 15, 16, 17, 18, 19, 20, 21, 67, 68, 69, 70, 26, 27, 28, 29, 30, 31, 32, 33, 34, 35, 36, 37, 38, 39, 40, 41, 42, 43, 44, 71, 72, 73, 74, 75, 76, 77, 78, 79, 80, 81, 82, 83] (by decide +kernel) (by decide +kernel)
set_option maxRecDepth 20000 in
theorem gX6_fill_X6_feastDay : GoodIn wsX6_fill (wsV RX6 155 RX6 yX6_feastDay wsX6_feastDay) := goodIn_app (goodIn_of _ (by decide +kernel)) ggX6_fill_X6_feastDay
theorem dX6_fill_0 : decode cX6_fill 0 = .ok (.aload_n 0, 1) := by decide +kernel
theorem dX6_fill_1 : decode cX6_fill 1 = .ok (.getfield 27, 3) := by decide +kernel
theorem dX6_fill_4 : decode cX6_fill 4 = .ok (.bipush 11, 2) := by decide +kernel
theorem dX6_fill_6 : decode cX6_fill 6 = .ok (.iload_n 1, 1) := by decide +kernel
theorem dX6_fill_7 : decode cX6_fill 7 = .ok (.imul, 1) := by decide +kernel
theorem dX6_fill_8 : decode cX6_fill 8 = .ok (.iconst 0, 1) := by decide +kernel
theorem dX6_fill_9 : decode cX6_fill 9 = .ok (.iadd, 1) := by decide +kernel
theorem dX6_fill_10 : decode cX6_fill 10 = .ok (.iload_n 2, 1) := by decide +kernel
theorem dX6_fill_11 : decode cX6_fill 11 = .ok (.iastore, 1) := by decide +kernel
theorem dX6_fill_12 : decode cX6_fill 12 = .ok (.aload_n 0, 1) := by decide +kernel
theorem dX6_fill_13 : decode cX6_fill 13 = .ok (.getfield 27, 3) := by decide +kernel
theorem dX6_fill_16 : decode cX6_fill 16 = .ok (.bipush 11, 2) := by decide +kernel
theorem dX6_fill_18 : decode cX6_fill 18 = .ok (.iload_n 1, 1) := by decide +kernel
theorem dX6_fill_19 : decode cX6_fill 19 = .ok (.imul, 1) := by decide +kernel
theorem dX6_fill_20 : decode cX6_fill 20 = .ok (.iconst 1, 1) := by decide +kernel
theorem dX6_fill_21 : decode cX6_fill 21 = .ok (.iadd, 1) := by decide +kernel
theorem dX6_fill_22 : decode cX6_fill 22 = .ok (.aload_n 0, 1) := by decide +kernel
theorem dX6_fill_23 : decode cX6_fill 23 = .ok (.getfield 140, 3) := by decide +kernel
theorem dX6_fill_26 : decode cX6_fill 26 = .ok (.iastore, 1) := by decide +kernel
theorem dX6_fill_27 : decode cX6_fill 27 = .ok (.aload_n 0, 1) := by decide +kernel
theorem dX6_fill_28 : decode cX6_fill 28 = .ok (.getfield 27, 3) := by decide +kernel
theorem dX6_fill_31 : decode cX6_fill 31 = .ok (.bipush 11, 2) := by decide +kernel
theorem dX6_fill_33 : decode cX6_fill 33 = .ok (.iload_n 1, 1) := by decide +kernel
theorem dX6_fill_34 : decode cX6_fill 34 = .ok (.imul, 1) := by decide +kernel
theorem dX6_fill_35 : decode cX6_fill 35 = .ok (.iconst 2, 1) := by decide +kernel
theorem dX6_fill_36 : decode cX6_fill 36 = .ok (.iadd, 1) := by decide +kernel
theorem dX6_fill_37 : decode cX6_fill 37 = .ok (.aload_n 0, 1) := by decide +kernel
theorem dX6_fill_38 : decode cX6_fill 38 = .ok (.iload_n 2, 1) := by decide +kernel
theorem dX6_fill_39 : decode cX6_fill 39 = .ok (.invokevirtual 158, 3) := by decide +kernel
theorem dX6_fill_42 : decode cX6_fill 42 = .ok (.iastore, 1) := by decide +kernel
theorem dX6_fill_43 : decode cX6_fill 43 = .ok (.iconst 0, 1) := by decide +kernel
theorem dX6_fill_44 : decode cX6_fill 44 = .ok (.istore_n 3, 1) := by decide +kernel
theorem dX6_fill_45 : decode cX6_fill 45 = .ok (.iload_n 3, 1) := by decide +kernel
theorem dX6_fill_46 : decode cX6_fill 46 = .ok (.aload_n 0, 1) := by decide +kernel
theorem dX6_fill_47 : decode cX6_fill 47 = .ok (.getfield 140, 3) := by decide +kernel
theorem dX6_fill_50 : decode cX6_fill 50 = .ok (.if_icmp .ge 28, 3) := by decide +kernel
theorem dX6_fill_53 : decode cX6_fill 53 = .ok (.aload_n 0, 1) := by decide +kernel
theorem dX6_fill_54 : decode cX6_fill 54 = .ok (.getfield 27, 3) := by decide +kernel
theorem dX6_fill_57 : decode cX6_fill 57 = .ok (.bipush 11, 2) := by decide +kernel
theorem dX6_fill_59 : decode cX6_fill 59 = .ok (.iload_n 1, 1) := by decide +kernel
theorem dX6_fill_60 : decode cX6_fill 60 = .ok (.imul, 1) := by decide +kernel
theorem dX6_fill_61 : decode cX6_fill 61 = .ok (.iconst 3, 1) := by decide +kernel
theorem dX6_fill_62 : decode cX6_fill 62 = .ok (.iadd, 1) := by decide +kernel
theorem dX6_fill_63 : decode cX6_fill 63 = .ok (.iload_n 3, 1) := by decide +kernel
theorem dX6_fill_64 : decode cX6_fill 64 = .ok (.iadd, 1) := by decide +kernel
theorem dX6_fill_65 : decode cX6_fill 65 = .ok (.aload_n 0, 1) := by decide +kernel
theorem dX6_fill_66 : decode cX6_fill 66 = .ok (.iload_n 3, 1) := by decide +kernel
theorem dX6_fill_67 : decode cX6_fill 67 = .ok (.iload_n 2, 1) := by decide +kernel
theorem dX6_fill_68 : decode cX6_fill 68 = .ok (.invokevirtual 155, 3) := by decide +kernel
theorem dX6_fill_71 : decode cX6_fill 71 = .ok (.iastore, 1) := by decide +kernel
theorem dX6_fill_72 : decode cX6_fill 72 = .ok (.iinc 3 1, 3) := by decide +kernel
theorem dX6_fill_75 : decode cX6_fill 75 = .ok (.goto (-30), 3) := by decide +kernel
theorem dX6_fill_78 : decode cX6_fill 78 = .ok (.return_, 1) := by decide +kernel
set_option maxRecDepth 20000 in
theorem ggX6_print_X6_isYear : GoodIn wsX6_print wsX6_isYear := goodIn_r _ [6, 7, 8, 5, 9] (by decide +kernel) (by decide +kernel)
set_option maxRecDepth 20000 in
theorem gX6_print_X6_isYear : GoodIn wsX6_print (va_wsS RX6 56 yX6_isYear wsX6_isYear) := goodIn_app (goodIn_of _ (by decide +kernel)) ggX6_print_X6_isYear
set_option maxRecDepth 20000 in
theorem ggX6_print_X6_fail : GoodIn wsX6_print wsX6_fail := goodIn_r _ [13, 1, 87, 88, 89, 90, 91, 92, 93, 94, 95, 96, 97, 98, 99] (by decide +kernel) (by decide +kernel)
set_option maxRecDepth 20000 in
theorem gX6_print_X6_fail : GoodIn wsX6_print (wsV RX6 37 RX6 yX6_fail wsX6_fail) := goodIn_app (goodIn_of _ (by decide +kernel)) ggX6_print_X6_fail
set_option maxRecDepth 20000 in
theorem ggX6_print_X6_fill : GoodIn wsX6_print wsX6_fill := goodIn_r _ [17, 18, 19, 20, 21, 22, 5, 23, 24, 25, 26, 27, 28, 29, 30, 31, 32, 33, 34, 35, 36, 37, 38, 39, 40, 41, 42, 43, 44, 45, 46, 47, 48, 49, 50, 51, 52, 53, 54, 55, 56, 57, 58, 59, 60, 61, 62, 63, 64, 65, 66, 67, 68, 69, 70, 71, 72, 73, 74, 75, 76, 77, 78, 79, 80, 81, 82, 83, 84, 85, 86, 87, 88, 89, 90, 91, 92, 93, 94, 95, 96, 97, 98, 99] (by decide +kernel) (by decide +kernel)
set_option maxRecDepth 20000 in
theorem gX6_print_X6_fill : GoodIn wsX6_print (wsV RX6 164 RX6 yX6_fill wsX6_fill) := goodIn_app (goodIn_of _ (by decide +kernel)) ggX6_print_X6_fill
theorem dX6_print_0 : decode cX6_print 0 = .ok (.aload_n 0, 1) := by decide +kernel
theorem dX6_print_1 : decode cX6_print 1 = .ok (.iconst 0, 1) := by decide +kernel
theorem dX6_print_2 : decode cX6_print 2 = .ok (.putfield 30, 3) := by decide +kernel
theorem dX6_print_5 : decode cX6_print 5 = .ok (.iload_n 1, 1) := by decide +kernel
theorem dX6_print_6 : decode cX6_print 6 = .ok (.invokestatic 56, 3) := by decide +kernel
theorem dX6_print_9 : decode cX6_print 9 = .ok (.ifCond .ne 9, 3) := by decide +kernel
theorem dX6_print_12 : decode cX6_print 12 = .ok (.aload_n 0, 1) := by decide +kernel
theorem dX6_print_13 : decode cX6_print 13 = .ok (.iconst 1, 1) := by decide +kernel
theorem dX6_print_14 : decode cX6_print 14 = .ok (.invokevirtual 37, 3) := by decide +kernel
theorem dX6_print_17 : decode cX6_print 17 = .ok (.ireturn, 1) := by decide +kernel
theorem dX6_print_18 : decode cX6_print 18 = .ok (.aload_n 0, 1) := by decide +kernel
theorem dX6_print_19 : decode cX6_print 19 = .ok (.getfield 161, 3) := by decide +kernel
theorem dX6_print_22 : decode cX6_print 22 = .ok (.bipush 10, 2) := by decide +kernel
theorem dX6_print_24 : decode cX6_print 24 = .ok (.if_icmp .ne 9, 3) := by decide +kernel
theorem dX6_print_27 : decode cX6_print 27 = .ok (.aload_n 0, 1) := by decide +kernel
theorem dX6_print_28 : decode cX6_print 28 = .ok (.iconst 2, 1) := by decide +kernel
theorem dX6_print_29 : decode cX6_print 29 = .ok (.invokevirtual 37, 3) := by decide +kernel
theorem dX6_print_32 : decode cX6_print 32 = .ok (.ireturn, 1) := by decide +kernel
theorem dX6_print_33 : decode cX6_print 33 = .ok (.aload_n 0, 1) := by decide +kernel
theorem dX6_print_34 : decode cX6_print 34 = .ok (.aload_n 0, 1) := by decide +kernel
theorem dX6_print_35 : decode cX6_print 35 = .ok (.getfield 161, 3) := by decide +kernel
theorem dX6_print_38 : decode cX6_print 38 = .ok (.iload_n 1, 1) := by decide +kernel
theorem dX6_print_39 : decode cX6_print 39 = .ok (.invokevirtual 164, 3) := by decide +kernel
theorem dX6_print_42 : decode cX6_print 42 = .ok (.aload_n 0, 1) := by decide +kernel
theorem dX6_print_43 : decode cX6_print 43 = .ok (.dup, 1) := by decide +kernel
theorem dX6_print_44 : decode cX6_print 44 = .ok (.getfield 161, 3) := by decide +kernel
theorem dX6_print_47 : decode cX6_print 47 = .ok (.iconst 1, 1) := by decide +kernel
theorem dX6_print_48 : decode cX6_print 48 = .ok (.iadd, 1) := by decide +kernel
theorem dX6_print_49 : decode cX6_print 49 = .ok (.putfield 161, 3) := by decide +kernel
theorem dX6_print_52 : decode cX6_print 52 = .ok (.aload_n 0, 1) := by decide +kernel
theorem dX6_print_53 : decode cX6_print 53 = .ok (.getfield 161, 3) := by decide +kernel
theorem dX6_print_56 : decode cX6_print 56 = .ok (.iconst 1, 1) := by decide +kernel
theorem dX6_print_57 : decode cX6_print 57 = .ok (.isub, 1) := by decide +kernel
theorem dX6_print_58 : decode cX6_print 58 = .ok (.ireturn, 1) := by decide +kernel
set_option maxRecDepth 20000 in
theorem ggX6_isSheet_X6_isIn : GoodIn wsX6_isSheet wsX6_isIn := goodIn_r _ [5] (by decide +kernel) (by decide +kernel)
set_option maxRecDepth 20000 in
theorem gX6_isSheet_X6_isIn : GoodIn wsX6_isSheet (va_wsS RX6 33 yX6_isIn wsX6_isIn) := goodIn_app (goodIn_of _ (by decide +kernel)) ggX6_isSheet_X6_isIn
theorem dX6_isSheet_0 : decode cX6_isSheet 0 = .ok (.iload_n 1, 1) := by decide +kernel
theorem dX6_isSheet_1 : decode cX6_isSheet 1 = .ok (.iconst 0, 1) := by decide +kernel
theorem dX6_isSheet_2 : decode cX6_isSheet 2 = .ok (.aload_n 0, 1) := by decide +kernel
theorem dX6_isSheet_3 : decode cX6_isSheet 3 = .ok (.getfield 161, 3) := by decide +kernel
theorem dX6_isSheet_6 : decode cX6_isSheet 6 = .ok (.iconst 1, 1) := by decide +kernel
theorem dX6_isSheet_7 : decode cX6_isSheet 7 = .ok (.isub, 1) := by decide +kernel
theorem dX6_isSheet_8 : decode cX6_isSheet 8 = .ok (.invokestatic 33, 3) := by decide +kernel
theorem dX6_isSheet_11 : decode cX6_isSheet 11 = .ok (.ireturn, 1) := by decide +kernel
set_option maxRecDepth 20000 in
theorem ggX6_off_X6_pa : GoodIn wsX6_off wsX6_pa := goodIn_r _ [9, 10, 56, 57, 58, 59, 60, 61, 62, 63, 64, 65, 66, 67, 68] (by decide +kernel) (by decide +kernel)
set_option maxRecDepth 20000 in
theorem gX6_off_X6_pa : GoodIn wsX6_off (wsV RX6 168 RX6 yX6_pa wsX6_pa) := goodIn_app (goodIn_of _ (by decide +kernel)) ggX6_off_X6_pa
set_option maxRecDepth 20000 in
theorem ggX6_off_X6_feastDay : GoodIn wsX6_off wsX6_feastDay := goodIn_r _ [14, 15, 16, 17, 8, 18, 19, 20, 21, 22, 23, 24, 25, 26, 27, 28, 29, 30, 31, 32, 33, 34, 35, 36, 37, 38, 39, 40, 41, 42, 43, 44, 45, 46, 3, 47, 48, 49, 50, 51, 52, 53, 54, 55, 56, 57, 58, 59, 60, 61, 62, 63, 64, 65, 66, 67, 68] (by decide +kernel) (by decide +kernel)
set_option maxRecDepth 20000 in
theorem gX6_off_X6_feastDay : GoodIn wsX6_off (wsV RX6 155 RX6 yX6_feastDay wsX6_feastDay) := goodIn_app (goodIn_of _ (by decide +kernel)) ggX6_off_X6_feastDay
theorem dX6_off_0 : decode cX6_off 0 = .ok (.aload_n 0, 1) := by decide +kernel
theorem dX6_off_1 : decode cX6_off 1 = .ok (.iload_n 1, 1) := by decide +kernel
theorem dX6_off_2 : decode cX6_off 2 = .ok (.iconst 3, 1) := by decide +kernel
theorem dX6_off_3 : decode cX6_off 3 = .ok (.iload_n 2, 1) := by decide +kernel
theorem dX6_off_4 : decode cX6_off 4 = .ok (.iadd, 1) := by decide +kernel
theorem dX6_off_5 : decode cX6_off 5 = .ok (.invokevirtual 168, 3) := by decide +kernel
theorem dX6_off_8 : decode cX6_off 8 = .ok (.aload_n 0, 1) := by decide +kernel
theorem dX6_off_9 : decode cX6_off 9 = .ok (.iload_n 2, 1) := by decide +kernel
theorem dX6_off_10 : decode cX6_off 10 = .ok (.aload_n 0, 1) := by decide +kernel
theorem dX6_off_11 : decode cX6_off 11 = .ok (.iload_n 1, 1) := by decide +kernel
theorem dX6_off_12 : decode cX6_off 12 = .ok (.iconst 0, 1) := by decide +kernel
theorem dX6_off_13 : decode cX6_off 13 = .ok (.invokevirtual 168, 3) := by decide +kernel
theorem dX6_off_16 : decode cX6_off 16 = .ok (.invokevirtual 155, 3) := by decide +kernel
theorem dX6_off_19 : decode cX6_off 19 = .ok (.isub, 1) := by decide +kernel
theorem dX6_off_20 : decode cX6_off 20 = .ok (.invokestatic 171, 3) := by decide +kernel
theorem dX6_off_23 : decode cX6_off 23 = .ok (.ireturn, 1) := by decide +kernel
set_option maxRecDepth 20000 in
theorem ggX6_reprint_X6_isSheet : GoodIn wsX6_reprint wsX6_isSheet := goodIn_r _ [6, 7, 8, 9, 5, 10, 99, 100, 101, 102, 103, 104, 105, 106, 107, 108, 109, 110, 111] (by decide +kernel) (by decide +kernel)
set_option maxRecDepth 20000 in
theorem gX6_reprint_X6_isSheet : GoodIn wsX6_reprint (wsV RX6 174 RX6 yX6_isSheet wsX6_isSheet) := goodIn_app (goodIn_of _ (by decide +kernel)) ggX6_reprint_X6_isSheet
set_option maxRecDepth 20000 in
theorem ggX6_reprint_X6_fail : GoodIn wsX6_reprint wsX6_fail := goodIn_r _ [14, 1, 99, 100, 101, 102, 103, 104, 105, 106, 107, 108, 109, 110, 111] (by decide +kernel) (by decide +kernel)
set_option maxRecDepth 20000 in
theorem gX6_reprint_X6_fail : GoodIn wsX6_reprint (wsV RX6 37 RX6 yX6_fail wsX6_fail) := goodIn_app (goodIn_of _ (by decide +kernel)) ggX6_reprint_X6_fail
set_option maxRecDepth 20000 in
theorem ggX6_reprint_X6_pa : GoodIn wsX6_reprint wsX6_pa := goodIn_r _ [18, 19, 99, 100, 101, 102, 103, 104, 105, 106, 107, 108, 109, 110, 111] (by decide +kernel) (by decide +kernel)
set_option maxRecDepth 20000 in
theorem gX6_reprint_X6_pa : GoodIn wsX6_reprint (wsV RX6 168 RX6 yX6_pa wsX6_pa) := goodIn_app (goodIn_of _ (by decide +kernel)) ggX6_reprint_X6_pa
set_option maxRecDepth 20000 in
theorem ggX6_reprint_X6_off : GoodIn wsX6_reprint wsX6_off := goodIn_r _ [23, 24, 25, 26, 27, 15, 16, 17, 5, 18, 19, 28, 29, 30, 31, 32, 33, 34, 35, 36, 37, 38, 39, 40, 41, 42, 43, 44, 45, 46, 47, 48, 49, 50, 51, 52, 53, 54, 55, 56, 57, 58, 59, 60, 61, 62, 63, 64, 65, 66, 67, 68, 69, 70, 71, 72, 99, 100, 101, 102, 103, 104, 105, 106, 107, 108, 109, 110, 111] (by decide +kernel) (by decide +kernel)
set_option maxRecDepth 20000 in
theorem gX6_reprint_X6_off : GoodIn wsX6_reprint (wsV RX6 177 RX6 yX6_off wsX6_off) := goodIn_app (goodIn_of _ (by decide +kernel)) ggX6_reprint_X6_off
set_option maxRecDepth 20000 in
theorem ggX6_reprint_X6_fill : GoodIn wsX6_reprint wsX6_fill := goodIn_r _ [76, 19, 77, 78, 79, 80, 5, 81, 82, 83, 84, 85, 41, 42, 43, 44, 45, 46, 47, 48, 49, 50, 86, 87, 88, 89, 55, 56, 57, 58, 59, 60, 61, 62, 63, 26, 64, 65, 66, 67, 68, 69, 70, 71, 72, 90, 91, 92, 93, 94, 95, 96, 97, 98, 28, 29, 30, 31, 32, 33, 34, 35, 36, 37, 38, 39, 40, 51, 52, 53, 54, 99, 100, 101, 102, 103, 104, 105, 106, 107, 108, 109, 110, 111] (by decide +kernel) (by decide +kernel)
set_option maxRecDepth 20000 in
theorem gX6_reprint_X6_fill : GoodIn wsX6_reprint (wsV RX6 164 RX6 yX6_fill wsX6_fill) := goodIn_app (goodIn_of _ (by decide +kernel)) ggX6_reprint_X6_fill
theorem dX6_reprint_0 : decode cX6_reprint 0 = .ok (.aload_n 0, 1) := by decide +kernel
theorem dX6_reprint_1 : decode cX6_reprint 1 = .ok (.iconst 0, 1) := by decide +kernel
theorem dX6_reprint_2 : decode cX6_reprint 2 = .ok (.putfield 30, 3) := by decide +kernel
theorem dX6_reprint_5 : decode cX6_reprint 5 = .ok (.aload_n 0, 1) := by decide +kernel
theorem dX6_reprint_6 : decode cX6_reprint 6 = .ok (.iload_n 1, 1) := by decide +kernel
theorem dX6_reprint_7 : decode cX6_reprint 7 = .ok (.invokevirtual 174, 3) := by decide +kernel
theorem dX6_reprint_10 : decode cX6_reprint 10 = .ok (.ifCond .ne 9, 3) := by decide +kernel
theorem dX6_reprint_13 : decode cX6_reprint 13 = .ok (.aload_n 0, 1) := by decide +kernel
theorem dX6_reprint_14 : decode cX6_reprint 14 = .ok (.iconst 1, 1) := by decide +kernel
theorem dX6_reprint_15 : decode cX6_reprint 15 = .ok (.invokevirtual 37, 3) := by decide +kernel
theorem dX6_reprint_18 : decode cX6_reprint 18 = .ok (.ireturn, 1) := by decide +kernel
theorem dX6_reprint_19 : decode cX6_reprint 19 = .ok (.iconst 0, 1) := by decide +kernel
theorem dX6_reprint_20 : decode cX6_reprint 20 = .ok (.istore_n 2, 1) := by decide +kernel
theorem dX6_reprint_21 : decode cX6_reprint 21 = .ok (.iconst 0, 1) := by decide +kernel
theorem dX6_reprint_22 : decode cX6_reprint 22 = .ok (.istore_n 3, 1) := by decide +kernel
theorem dX6_reprint_23 : decode cX6_reprint 23 = .ok (.iload_n 3, 1) := by decide +kernel
theorem dX6_reprint_24 : decode cX6_reprint 24 = .ok (.aload_n 0, 1) := by decide +kernel
theorem dX6_reprint_25 : decode cX6_reprint 25 = .ok (.iload_n 1, 1) := by decide +kernel
theorem dX6_reprint_26 : decode cX6_reprint 26 = .ok (.iconst 1, 1) := by decide +kernel
theorem dX6_reprint_27 : decode cX6_reprint 27 = .ok (.invokevirtual 168, 3) := by decide +kernel
theorem dX6_reprint_30 : decode cX6_reprint 30 = .ok (.if_icmp .ge 26, 3) := by decide +kernel
theorem dX6_reprint_33 : decode cX6_reprint 33 = .ok (.iload_n 2, 1) := by decide +kernel
theorem dX6_reprint_34 : decode cX6_reprint 34 = .ok (.aload_n 0, 1) := by decide +kernel
theorem dX6_reprint_35 : decode cX6_reprint 35 = .ok (.iload_n 1, 1) := by decide +kernel
theorem dX6_reprint_36 : decode cX6_reprint 36 = .ok (.iload_n 3, 1) := by decide +kernel
theorem dX6_reprint_37 : decode cX6_reprint 37 = .ok (.invokevirtual 177, 3) := by decide +kernel
theorem dX6_reprint_40 : decode cX6_reprint 40 = .ok (.ifCond .le 7, 3) := by decide +kernel
theorem dX6_reprint_43 : decode cX6_reprint 43 = .ok (.iconst 1, 1) := by decide +kernel
theorem dX6_reprint_44 : decode cX6_reprint 44 = .ok (.goto 4, 3) := by decide +kernel
theorem dX6_reprint_47 : decode cX6_reprint 47 = .ok (.iconst 0, 1) := by decide +kernel
theorem dX6_reprint_48 : decode cX6_reprint 48 = .ok (.iadd, 1) := by decide +kernel
theorem dX6_reprint_49 : decode cX6_reprint 49 = .ok (.istore_n 2, 1) := by decide +kernel
theorem dX6_reprint_50 : decode cX6_reprint 50 = .ok (.iinc 3 1, 3) := by decide +kernel
theorem dX6_reprint_53 : decode cX6_reprint 53 = .ok (.goto (-30), 3) := by decide +kernel
theorem dX6_reprint_56 : decode cX6_reprint 56 = .ok (.aload_n 0, 1) := by decide +kernel
theorem dX6_reprint_57 : decode cX6_reprint 57 = .ok (.iload_n 1, 1) := by decide +kernel
theorem dX6_reprint_58 : decode cX6_reprint 58 = .ok (.aload_n 0, 1) := by decide +kernel
theorem dX6_reprint_59 : decode cX6_reprint 59 = .ok (.iload_n 1, 1) := by decide +kernel
theorem dX6_reprint_60 : decode cX6_reprint 60 = .ok (.iconst 0, 1) := by decide +kernel
theorem dX6_reprint_61 : decode cX6_reprint 61 = .ok (.invokevirtual 168, 3) := by decide +kernel
theorem dX6_reprint_64 : decode cX6_reprint 64 = .ok (.invokevirtual 164, 3) := by decide +kernel
theorem dX6_reprint_67 : decode cX6_reprint 67 = .ok (.iload_n 2, 1) := by decide +kernel
theorem dX6_reprint_68 : decode cX6_reprint 68 = .ok (.ireturn, 1) := by decide +kernel
set_option maxRecDepth 20000 in
theorem ggX6_sheetTold_X6_pa : GoodIn wsX6_sheetTold wsX6_pa := goodIn_r _ [9, 10, 81, 82, 83, 84, 85, 86, 87, 88, 89, 90, 91, 92, 93] (by decide +kernel) (by decide +kernel)
set_option maxRecDepth 20000 in
theorem gX6_sheetTold_X6_pa : GoodIn wsX6_sheetTold (wsV RX6 168 RX6 yX6_pa wsX6_pa) := goodIn_app (goodIn_of _ (by decide +kernel)) ggX6_sheetTold_X6_pa
set_option maxRecDepth 20000 in
theorem ggX6_sheetTold_X6_off : GoodIn wsX6_sheetTold wsX6_off := goodIn_r _ [14, 15, 16, 3, 17, 5, 6, 7, 8, 9, 10, 18, 19, 20, 21, 22, 23, 24, 25, 26, 27, 28, 29, 30, 31, 32, 33, 34, 35, 36, 37, 38, 39, 40, 41, 42, 43, 44, 45, 46, 47, 48, 49, 50, 51, 1, 2, 4, 52, 53, 54, 55, 56, 57, 58, 59, 81, 82, 83, 84, 85, 86, 87, 88, 89, 90, 91, 92, 93] (by decide +kernel) (by decide +kernel)
set_option maxRecDepth 20000 in
theorem gX6_sheetTold_X6_off : GoodIn wsX6_sheetTold (wsV RX6 177 RX6 yX6_off wsX6_off) := goodIn_app (goodIn_of _ (by decide +kernel)) ggX6_sheetTold_X6_off
set_option maxRecDepth 20000 in
theorem ggX6_sheetTold_X6_allEclipses : GoodIn wsX6_sheetTold wsX6_allEclipses := goodIn_r _ [63, 64, 65, 66, 8, 67, 31, 32, 33, 34, 35, 36, 37, 38, 39, 40, 68, 69, 70, 71, 45, 46, 47, 48, 49, 50, 51, 1, 2, 3, 4, 52, 53, 54, 55, 56, 57, 58, 59, 72, 73, 74, 75, 76, 77, 78, 79, 80, 81, 82, 83, 84, 85, 86, 87, 88, 89, 90, 91, 92, 93] (by decide +kernel) (by decide +kernel)
set_option maxRecDepth 20000 in
theorem gX6_sheetTold_X6_allEclipses : GoodIn wsX6_sheetTold (wsV RX6 158 RX6 yX6_allEclipses wsX6_allEclipses) := goodIn_app (goodIn_of _ (by decide +kernel)) ggX6_sheetTold_X6_allEclipses
theorem dX6_sheetTold_0 : decode cX6_sheetTold 0 = .ok (.iload_n 2, 1) := by decide +kernel
theorem dX6_sheetTold_1 : decode cX6_sheetTold 1 = .ok (.iconst 3, 1) := by decide +kernel
theorem dX6_sheetTold_2 : decode cX6_sheetTold 2 = .ok (.if_icmp .ge 10, 3) := by decide +kernel
theorem dX6_sheetTold_5 : decode cX6_sheetTold 5 = .ok (.aload_n 0, 1) := by decide +kernel
theorem dX6_sheetTold_6 : decode cX6_sheetTold 6 = .ok (.iload_n 1, 1) := by decide +kernel
theorem dX6_sheetTold_7 : decode cX6_sheetTold 7 = .ok (.iload_n 2, 1) := by decide +kernel
theorem dX6_sheetTold_8 : decode cX6_sheetTold 8 = .ok (.invokevirtual 168, 3) := by decide +kernel
theorem dX6_sheetTold_11 : decode cX6_sheetTold 11 = .ok (.ireturn, 1) := by decide +kernel
theorem dX6_sheetTold_12 : decode cX6_sheetTold 12 = .ok (.iconst 0, 1) := by decide +kernel
theorem dX6_sheetTold_13 : decode cX6_sheetTold 13 = .ok (.istore_n 3, 1) := by decide +kernel
theorem dX6_sheetTold_14 : decode cX6_sheetTold 14 = .ok (.iconst 0, 1) := by decide +kernel
theorem dX6_sheetTold_15 : decode cX6_sheetTold 15 = .ok (.istore 4, 2) := by decide +kernel
theorem dX6_sheetTold_17 : decode cX6_sheetTold 17 = .ok (.iload 4, 2) := by decide +kernel
theorem dX6_sheetTold_19 : decode cX6_sheetTold 19 = .ok (.aload_n 0, 1) := by decide +kernel
theorem dX6_sheetTold_20 : decode cX6_sheetTold 20 = .ok (.iload_n 1, 1) := by decide +kernel
theorem dX6_sheetTold_21 : decode cX6_sheetTold 21 = .ok (.iconst 1, 1) := by decide +kernel
theorem dX6_sheetTold_22 : decode cX6_sheetTold 22 = .ok (.invokevirtual 168, 3) := by decide +kernel
theorem dX6_sheetTold_25 : decode cX6_sheetTold 25 = .ok (.if_icmp .ge 21, 3) := by decide +kernel
theorem dX6_sheetTold_28 : decode cX6_sheetTold 28 = .ok (.iload_n 3, 1) := by decide +kernel
theorem dX6_sheetTold_29 : decode cX6_sheetTold 29 = .ok (.aload_n 0, 1) := by decide +kernel
theorem dX6_sheetTold_30 : decode cX6_sheetTold 30 = .ok (.iload_n 1, 1) := by decide +kernel
theorem dX6_sheetTold_31 : decode cX6_sheetTold 31 = .ok (.iload 4, 2) := by decide +kernel
theorem dX6_sheetTold_33 : decode cX6_sheetTold 33 = .ok (.invokevirtual 177, 3) := by decide +kernel
theorem dX6_sheetTold_36 : decode cX6_sheetTold 36 = .ok (.invokestatic 79, 3) := by decide +kernel
theorem dX6_sheetTold_39 : decode cX6_sheetTold 39 = .ok (.istore_n 3, 1) := by decide +kernel
theorem dX6_sheetTold_40 : decode cX6_sheetTold 40 = .ok (.iinc 4 1, 3) := by decide +kernel
theorem dX6_sheetTold_43 : decode cX6_sheetTold 43 = .ok (.goto (-26), 3) := by decide +kernel
theorem dX6_sheetTold_46 : decode cX6_sheetTold 46 = .ok (.iload_n 2, 1) := by decide +kernel
theorem dX6_sheetTold_47 : decode cX6_sheetTold 47 = .ok (.iconst 4, 1) := by decide +kernel
theorem dX6_sheetTold_48 : decode cX6_sheetTold 48 = .ok (.if_icmp .ne 7, 3) := by decide +kernel
theorem dX6_sheetTold_51 : decode cX6_sheetTold 51 = .ok (.iload_n 3, 1) := by decide +kernel
theorem dX6_sheetTold_52 : decode cX6_sheetTold 52 = .ok (.goto 31, 3) := by decide +kernel
theorem dX6_sheetTold_55 : decode cX6_sheetTold 55 = .ok (.iload_n 3, 1) := by decide +kernel
theorem dX6_sheetTold_56 : decode cX6_sheetTold 56 = .ok (.ifCond .gt 22, 3) := by decide +kernel
theorem dX6_sheetTold_59 : decode cX6_sheetTold 59 = .ok (.aload_n 0, 1) := by decide +kernel
theorem dX6_sheetTold_60 : decode cX6_sheetTold 60 = .ok (.iload_n 1, 1) := by decide +kernel
theorem dX6_sheetTold_61 : decode cX6_sheetTold 61 = .ok (.iconst 2, 1) := by decide +kernel
theorem dX6_sheetTold_62 : decode cX6_sheetTold 62 = .ok (.invokevirtual 168, 3) := by decide +kernel
theorem dX6_sheetTold_65 : decode cX6_sheetTold 65 = .ok (.aload_n 0, 1) := by decide +kernel
theorem dX6_sheetTold_66 : decode cX6_sheetTold 66 = .ok (.aload_n 0, 1) := by decide +kernel
theorem dX6_sheetTold_67 : decode cX6_sheetTold 67 = .ok (.iload_n 1, 1) := by decide +kernel
theorem dX6_sheetTold_68 : decode cX6_sheetTold 68 = .ok (.iconst 0, 1) := by decide +kernel
theorem dX6_sheetTold_69 : decode cX6_sheetTold 69 = .ok (.invokevirtual 168, 3) := by decide +kernel
theorem dX6_sheetTold_72 : decode cX6_sheetTold 72 = .ok (.invokevirtual 158, 3) := by decide +kernel
theorem dX6_sheetTold_75 : decode cX6_sheetTold 75 = .ok (.if_icmp .eq 7, 3) := by decide +kernel
theorem dX6_sheetTold_78 : decode cX6_sheetTold 78 = .ok (.iconst 1, 1) := by decide +kernel
theorem dX6_sheetTold_79 : decode cX6_sheetTold 79 = .ok (.goto 4, 3) := by decide +kernel
theorem dX6_sheetTold_82 : decode cX6_sheetTold 82 = .ok (.iconst 0, 1) := by decide +kernel
theorem dX6_sheetTold_83 : decode cX6_sheetTold 83 = .ok (.ireturn, 1) := by decide +kernel
set_option maxRecDepth 20000 in
theorem ggX6_sheet_X6_isSheet : GoodIn wsX6_sheet wsX6_isSheet := goodIn_r _ [6, 7, 8, 9, 5, 10, 98, 99, 100, 101, 102, 103, 104, 105, 106, 107, 108, 109, 110] (by decide +kernel) (by decide +kernel)
set_option maxRecDepth 20000 in
theorem gX6_sheet_X6_isSheet : GoodIn wsX6_sheet (wsV RX6 174 RX6 yX6_isSheet wsX6_isSheet) := goodIn_app (goodIn_of _ (by decide +kernel)) ggX6_sheet_X6_isSheet
set_option maxRecDepth 20000 in
theorem ggX6_sheet_X6_isIn : GoodIn wsX6_sheet wsX6_isIn := goodIn_r _ [10] (by decide +kernel) (by decide +kernel)
set_option maxRecDepth 20000 in
theorem gX6_sheet_X6_isIn : GoodIn wsX6_sheet (va_wsS RX6 33 yX6_isIn wsX6_isIn) := goodIn_app (goodIn_of _ (by decide +kernel)) ggX6_sheet_X6_isIn
set_option maxRecDepth 20000 in
theorem ggX6_sheet_X6_sheetTold : GoodIn wsX6_sheet wsX6_sheetTold := goodIn_r _ [14, 15, 16, 17, 18, 19, 20, 21, 5, 22, 23, 24, 25, 26, 27, 28, 29, 30, 31, 32, 33, 34, 35, 36, 37, 38, 39, 40, 41, 42, 43, 44, 45, 46, 47, 48, 49, 50, 51, 52, 53, 54, 55, 56, 57, 58, 59, 60, 61, 62, 63, 64, 65, 66, 67, 68, 69, 70, 71, 72, 73, 74, 75, 76, 77, 78, 79, 80, 81, 82, 83, 84, 85, 86, 87, 88, 89, 90, 91, 92, 93, 98, 99, 100, 101, 102, 103, 104, 105, 106, 107, 108, 109, 110] (by decide +kernel) (by decide +kernel)
set_option maxRecDepth 20000 in
theorem gX6_sheet_X6_sheetTold : GoodIn wsX6_sheet (wsV RX6 180 RX6 yX6_sheetTold wsX6_sheetTold) := goodIn_app (goodIn_of _ (by decide +kernel)) ggX6_sheet_X6_sheetTold
set_option maxRecDepth 20000 in
theorem ggX6_sheet_X6_fail : GoodIn wsX6_sheet wsX6_fail := goodIn_r _ [97, 1, 98, 99, 100, 101, 102, 103, 104, 105, 106, 107, 108, 109, 110] (by decide +kernel) (by decide +kernel)
set_option maxRecDepth 20000 in
theorem gX6_sheet_X6_fail : GoodIn wsX6_sheet (wsV RX6 37 RX6 yX6_fail wsX6_fail) := goodIn_app (goodIn_of _ (by decide +kernel)) ggX6_sheet_X6_fail
theorem dX6_sheet_0 : decode cX6_sheet 0 = .ok (.aload_n 0, 1) := by decide +kernel
theorem dX6_sheet_1 : decode cX6_sheet 1 = .ok (.iconst 0, 1) := by decide +kernel
theorem dX6_sheet_2 : decode cX6_sheet 2 = .ok (.putfield 30, 3) := by decide +kernel
theorem dX6_sheet_5 : decode cX6_sheet 5 = .ok (.aload_n 0, 1) := by decide +kernel
theorem dX6_sheet_6 : decode cX6_sheet 6 = .ok (.iload_n 1, 1) := by decide +kernel
theorem dX6_sheet_7 : decode cX6_sheet 7 = .ok (.invokevirtual 174, 3) := by decide +kernel
theorem dX6_sheet_10 : decode cX6_sheet 10 = .ok (.ifCond .eq 21, 3) := by decide +kernel
theorem dX6_sheet_13 : decode cX6_sheet 13 = .ok (.iload_n 2, 1) := by decide +kernel
theorem dX6_sheet_14 : decode cX6_sheet 14 = .ok (.iconst 0, 1) := by decide +kernel
theorem dX6_sheet_15 : decode cX6_sheet 15 = .ok (.iconst 4, 1) := by decide +kernel
theorem dX6_sheet_16 : decode cX6_sheet 16 = .ok (.invokestatic 33, 3) := by decide +kernel
theorem dX6_sheet_19 : decode cX6_sheet 19 = .ok (.ifCond .eq 12, 3) := by decide +kernel
theorem dX6_sheet_22 : decode cX6_sheet 22 = .ok (.aload_n 0, 1) := by decide +kernel
theorem dX6_sheet_23 : decode cX6_sheet 23 = .ok (.iload_n 1, 1) := by decide +kernel
theorem dX6_sheet_24 : decode cX6_sheet 24 = .ok (.iload_n 2, 1) := by decide +kernel
theorem dX6_sheet_25 : decode cX6_sheet 25 = .ok (.invokevirtual 180, 3) := by decide +kernel
theorem dX6_sheet_28 : decode cX6_sheet 28 = .ok (.goto 8, 3) := by decide +kernel
theorem dX6_sheet_31 : decode cX6_sheet 31 = .ok (.aload_n 0, 1) := by decide +kernel
theorem dX6_sheet_32 : decode cX6_sheet 32 = .ok (.iconst 1, 1) := by decide +kernel
theorem dX6_sheet_33 : decode cX6_sheet 33 = .ok (.invokevirtual 37, 3) := by decide +kernel
theorem dX6_sheet_36 : decode cX6_sheet 36 = .ok (.ireturn, 1) := by decide +kernel
set_option maxRecDepth 20000 in
theorem ggX6_printed_X6_isSheet : GoodIn wsX6_printed wsX6_isSheet := goodIn_r _ [6, 7, 8, 9, 5, 10, 20, 21, 22, 23, 24, 25, 26, 27, 28, 29, 30, 31, 32] (by decide +kernel) (by decide +kernel)
set_option maxRecDepth 20000 in
theorem gX6_printed_X6_isSheet : GoodIn wsX6_printed (wsV RX6 174 RX6 yX6_isSheet wsX6_isSheet) := goodIn_app (goodIn_of _ (by decide +kernel)) ggX6_printed_X6_isSheet
set_option maxRecDepth 20000 in
theorem ggX6_printed_X6_pa : GoodIn wsX6_printed wsX6_pa := goodIn_r _ [14, 15, 20, 21, 22, 23, 24, 25, 26, 27, 28, 29, 30, 31, 32] (by decide +kernel) (by decide +kernel)
set_option maxRecDepth 20000 in
theorem gX6_printed_X6_pa : GoodIn wsX6_printed (wsV RX6 168 RX6 yX6_pa wsX6_pa) := goodIn_app (goodIn_of _ (by decide +kernel)) ggX6_printed_X6_pa
set_option maxRecDepth 20000 in
theorem ggX6_printed_X6_isIn : GoodIn wsX6_printed wsX6_isIn := goodIn_r _ [10] (by decide +kernel) (by decide +kernel)
set_option maxRecDepth 20000 in
theorem gX6_printed_X6_isIn : GoodIn wsX6_printed (va_wsS RX6 33 yX6_isIn wsX6_isIn) := goodIn_app (goodIn_of _ (by decide +kernel)) ggX6_printed_X6_isIn
set_option maxRecDepth 20000 in
theorem ggX6_printed_X6_fail : GoodIn wsX6_printed wsX6_fail := goodIn_r _ [19, 1, 20, 21, 22, 23, 24, 25, 26, 27, 28, 29, 30, 31, 32] (by decide +kernel) (by decide +kernel)
set_option maxRecDepth 20000 in
theorem gX6_printed_X6_fail : GoodIn wsX6_printed (wsV RX6 37 RX6 yX6_fail wsX6_fail) := goodIn_app (goodIn_of _ (by decide +kernel)) ggX6_printed_X6_fail
theorem dX6_printed_0 : decode cX6_printed 0 = .ok (.aload_n 0, 1) := by decide +kernel
theorem dX6_printed_1 : decode cX6_printed 1 = .ok (.iconst 0, 1) := by decide +kernel
theorem dX6_printed_2 : decode cX6_printed 2 = .ok (.putfield 30, 3) := by decide +kernel
theorem dX6_printed_5 : decode cX6_printed 5 = .ok (.aload_n 0, 1) := by decide +kernel
theorem dX6_printed_6 : decode cX6_printed 6 = .ok (.iload_n 1, 1) := by decide +kernel
theorem dX6_printed_7 : decode cX6_printed 7 = .ok (.invokevirtual 174, 3) := by decide +kernel
theorem dX6_printed_10 : decode cX6_printed 10 = .ok (.ifCond .eq 30, 3) := by decide +kernel
theorem dX6_printed_13 : decode cX6_printed 13 = .ok (.iload_n 2, 1) := by decide +kernel
theorem dX6_printed_14 : decode cX6_printed 14 = .ok (.iconst 0, 1) := by decide +kernel
theorem dX6_printed_15 : decode cX6_printed 15 = .ok (.aload_n 0, 1) := by decide +kernel
theorem dX6_printed_16 : decode cX6_printed 16 = .ok (.iload_n 1, 1) := by decide +kernel
theorem dX6_printed_17 : decode cX6_printed 17 = .ok (.iconst 1, 1) := by decide +kernel
theorem dX6_printed_18 : decode cX6_printed 18 = .ok (.invokevirtual 168, 3) := by decide +kernel
theorem dX6_printed_21 : decode cX6_printed 21 = .ok (.iconst 1, 1) := by decide +kernel
theorem dX6_printed_22 : decode cX6_printed 22 = .ok (.isub, 1) := by decide +kernel
theorem dX6_printed_23 : decode cX6_printed 23 = .ok (.invokestatic 33, 3) := by decide +kernel
theorem dX6_printed_26 : decode cX6_printed 26 = .ok (.ifCond .eq 14, 3) := by decide +kernel
theorem dX6_printed_29 : decode cX6_printed 29 = .ok (.aload_n 0, 1) := by decide +kernel
theorem dX6_printed_30 : decode cX6_printed 30 = .ok (.iload_n 1, 1) := by decide +kernel
theorem dX6_printed_31 : decode cX6_printed 31 = .ok (.iconst 3, 1) := by decide +kernel
theorem dX6_printed_32 : decode cX6_printed 32 = .ok (.iload_n 2, 1) := by decide +kernel
theorem dX6_printed_33 : decode cX6_printed 33 = .ok (.iadd, 1) := by decide +kernel
theorem dX6_printed_34 : decode cX6_printed 34 = .ok (.invokevirtual 168, 3) := by decide +kernel
theorem dX6_printed_37 : decode cX6_printed 37 = .ok (.goto 8, 3) := by decide +kernel
theorem dX6_printed_40 : decode cX6_printed 40 = .ok (.aload_n 0, 1) := by decide +kernel
theorem dX6_printed_41 : decode cX6_printed 41 = .ok (.iconst 1, 1) := by decide +kernel
theorem dX6_printed_42 : decode cX6_printed 42 = .ok (.invokevirtual 37, 3) := by decide +kernel
theorem dX6_printed_45 : decode cX6_printed 45 = .ok (.ireturn, 1) := by decide +kernel
set_option maxRecDepth 20000 in
theorem ggX6_counted_X6_sheetTold : GoodIn wsX6_counted wsX6_sheetTold := goodIn_r _ [15, 16, 17, 18, 19, 20, 21, 22, 14, 23, 24, 25, 26, 27, 28, 29, 30, 31, 32, 33, 34, 35, 36, 37, 38, 39, 40, 41, 42, 43, 44, 45, 46, 47, 48, 49, 50, 51, 52, 2, 1, 53, 54, 55, 56, 57, 58, 59, 60, 61, 4, 3, 62, 63, 64, 65, 66, 67, 68, 69, 70, 71, 72, 73, 74, 75, 76, 77, 78, 79, 80, 81, 82, 83, 84, 85, 6, 5, 86, 87, 88, 89, 90, 91, 92, 93, 94, 95, 96, 97, 98, 99, 100, 101] (by decide +kernel) (by decide +kernel)
set_option maxRecDepth 20000 in
theorem gX6_counted_X6_sheetTold : GoodIn wsX6_counted (wsV RX6 180 RX6 yX6_sheetTold wsX6_sheetTold) := goodIn_app (goodIn_of _ (by decide +kernel)) ggX6_counted_X6_sheetTold
theorem dX6_counted_0 : decode cX6_counted 0 = .ok (.iconst 0, 1) := by decide +kernel
theorem dX6_counted_1 : decode cX6_counted 1 = .ok (.istore_n 2, 1) := by decide +kernel
theorem dX6_counted_2 : decode cX6_counted 2 = .ok (.iload_n 1, 1) := by decide +kernel
theorem dX6_counted_3 : decode cX6_counted 3 = .ok (.tableswitch 125 0 9 #[53, 58, 63, 68, 73, 78, 83, 88, 93, 120], 53) := by decide +kernel
theorem dX6_counted_56 : decode cX6_counted 56 = .ok (.aload_n 0, 1) := by decide +kernel
theorem dX6_counted_57 : decode cX6_counted 57 = .ok (.getfield 7, 3) := by decide +kernel
theorem dX6_counted_60 : decode cX6_counted 60 = .ok (.ireturn, 1) := by decide +kernel
theorem dX6_counted_61 : decode cX6_counted 61 = .ok (.aload_n 0, 1) := by decide +kernel
theorem dX6_counted_62 : decode cX6_counted 62 = .ok (.getfield 13, 3) := by decide +kernel
theorem dX6_counted_65 : decode cX6_counted 65 = .ok (.ireturn, 1) := by decide +kernel
theorem dX6_counted_66 : decode cX6_counted 66 = .ok (.aload_n 0, 1) := by decide +kernel
theorem dX6_counted_67 : decode cX6_counted 67 = .ok (.getfield 16, 3) := by decide +kernel
theorem dX6_counted_70 : decode cX6_counted 70 = .ok (.ireturn, 1) := by decide +kernel
theorem dX6_counted_71 : decode cX6_counted 71 = .ok (.aload_n 0, 1) := by decide +kernel
theorem dX6_counted_72 : decode cX6_counted 72 = .ok (.getfield 43, 3) := by decide +kernel
theorem dX6_counted_75 : decode cX6_counted 75 = .ok (.ireturn, 1) := by decide +kernel
theorem dX6_counted_76 : decode cX6_counted 76 = .ok (.aload_n 0, 1) := by decide +kernel
theorem dX6_counted_77 : decode cX6_counted 77 = .ok (.getfield 20, 3) := by decide +kernel
theorem dX6_counted_80 : decode cX6_counted 80 = .ok (.ireturn, 1) := by decide +kernel
theorem dX6_counted_81 : decode cX6_counted 81 = .ok (.aload_n 0, 1) := by decide +kernel
theorem dX6_counted_82 : decode cX6_counted 82 = .ok (.getfield 49, 3) := by decide +kernel
theorem dX6_counted_85 : decode cX6_counted 85 = .ok (.ireturn, 1) := by decide +kernel
theorem dX6_counted_86 : decode cX6_counted 86 = .ok (.aload_n 0, 1) := by decide +kernel
theorem dX6_counted_87 : decode cX6_counted 87 = .ok (.getfield 140, 3) := by decide +kernel
theorem dX6_counted_90 : decode cX6_counted 90 = .ok (.ireturn, 1) := by decide +kernel
theorem dX6_counted_91 : decode cX6_counted 91 = .ok (.aload_n 0, 1) := by decide +kernel
theorem dX6_counted_92 : decode cX6_counted 92 = .ok (.getfield 161, 3) := by decide +kernel
theorem dX6_counted_95 : decode cX6_counted 95 = .ok (.ireturn, 1) := by decide +kernel
theorem dX6_counted_96 : decode cX6_counted 96 = .ok (.iconst 0, 1) := by decide +kernel
theorem dX6_counted_97 : decode cX6_counted 97 = .ok (.istore_n 3, 1) := by decide +kernel
theorem dX6_counted_98 : decode cX6_counted 98 = .ok (.iload_n 3, 1) := by decide +kernel
theorem dX6_counted_99 : decode cX6_counted 99 = .ok (.aload_n 0, 1) := by decide +kernel
theorem dX6_counted_100 : decode cX6_counted 100 = .ok (.getfield 161, 3) := by decide +kernel
theorem dX6_counted_103 : decode cX6_counted 103 = .ok (.if_icmp .ge 18, 3) := by decide +kernel
theorem dX6_counted_106 : decode cX6_counted 106 = .ok (.iload_n 2, 1) := by decide +kernel
theorem dX6_counted_107 : decode cX6_counted 107 = .ok (.aload_n 0, 1) := by decide +kernel
theorem dX6_counted_108 : decode cX6_counted 108 = .ok (.iload_n 3, 1) := by decide +kernel
theorem dX6_counted_109 : decode cX6_counted 109 = .ok (.iconst 3, 1) := by decide +kernel
theorem dX6_counted_110 : decode cX6_counted 110 = .ok (.invokevirtual 180, 3) := by decide +kernel
theorem dX6_counted_113 : decode cX6_counted 113 = .ok (.iadd, 1) := by decide +kernel
theorem dX6_counted_114 : decode cX6_counted 114 = .ok (.istore_n 2, 1) := by decide +kernel
theorem dX6_counted_115 : decode cX6_counted 115 = .ok (.iinc 3 1, 3) := by decide +kernel
theorem dX6_counted_118 : decode cX6_counted 118 = .ok (.goto (-20), 3) := by decide +kernel
theorem dX6_counted_121 : decode cX6_counted 121 = .ok (.iload_n 2, 1) := by decide +kernel
theorem dX6_counted_122 : decode cX6_counted 122 = .ok (.ireturn, 1) := by decide +kernel
theorem dX6_counted_123 : decode cX6_counted 123 = .ok (.aload_n 0, 1) := by decide +kernel
theorem dX6_counted_124 : decode cX6_counted 124 = .ok (.getfield 134, 3) := by decide +kernel
theorem dX6_counted_127 : decode cX6_counted 127 = .ok (.ireturn, 1) := by decide +kernel
theorem dX6_counted_128 : decode cX6_counted 128 = .ok (.aload_n 0, 1) := by decide +kernel
theorem dX6_counted_129 : decode cX6_counted 129 = .ok (.getfield 137, 3) := by decide +kernel
theorem dX6_counted_132 : decode cX6_counted 132 = .ok (.ireturn, 1) := by decide +kernel
set_option maxRecDepth 20000 in
theorem ggX6_count_X6_isIn : GoodIn wsX6_count wsX6_isIn := goodIn_r _ [5] (by decide +kernel) (by decide +kernel)
set_option maxRecDepth 20000 in
theorem gX6_count_X6_isIn : GoodIn wsX6_count (va_wsS RX6 33 yX6_isIn wsX6_isIn) := goodIn_app (goodIn_of _ (by decide +kernel)) ggX6_count_X6_isIn
set_option maxRecDepth 20000 in
theorem ggX6_count_X6_counted : GoodIn wsX6_count wsX6_counted := goodIn_r _ [9, 10, 11, 12, 13, 14, 15, 16, 17, 18, 19, 20, 21, 22, 4, 23, 24, 25, 26, 27, 28, 29, 30, 31, 32, 33, 34, 35, 36, 37, 38, 39, 40, 41, 42, 43, 44, 45, 46, 47, 48, 49, 50, 51, 52, 53, 54, 55, 56, 57, 58, 59, 60, 61, 62, 63, 64, 65, 66, 67, 68, 69, 70, 71, 72, 73, 74, 75, 76, 77, 78, 79, 80, 81, 82, 83, 84, 85, 86, 87, 88, 89, 90, 91, 92, 93, 94, 95, 96, 101, 102, 103, 104, 105, 106, 107, 108, 109, 110, 111, 112, 113] (by decide +kernel) (by decide +kernel)
set_option maxRecDepth 20000 in
theorem gX6_count_X6_counted : GoodIn wsX6_count (wsV RX6 183 RX6 yX6_counted wsX6_counted) := goodIn_app (goodIn_of _ (by decide +kernel)) ggX6_count_X6_counted
set_option maxRecDepth 20000 in
theorem ggX6_count_X6_fail : GoodIn wsX6_count wsX6_fail := goodIn_r _ [100, 1, 101, 102, 103, 104, 105, 106, 107, 108, 109, 110, 111, 112, 113] (by decide +kernel) (by decide +kernel)
set_option maxRecDepth 20000 in
theorem gX6_count_X6_fail : GoodIn wsX6_count (wsV RX6 37 RX6 yX6_fail wsX6_fail) := goodIn_app (goodIn_of _ (by decide +kernel)) ggX6_count_X6_fail
theorem dX6_count_0 : decode cX6_count 0 = .ok (.aload_n 0, 1) := by decide +kernel
theorem dX6_count_1 : decode cX6_count 1 = .ok (.iconst 0, 1) := by decide +kernel
theorem dX6_count_2 : decode cX6_count 2 = .ok (.putfield 30, 3) := by decide +kernel
theorem dX6_count_5 : decode cX6_count 5 = .ok (.iload_n 1, 1) := by decide +kernel
theorem dX6_count_6 : decode cX6_count 6 = .ok (.iconst 0, 1) := by decide +kernel
theorem dX6_count_7 : decode cX6_count 7 = .ok (.bipush 10, 2) := by decide +kernel
theorem dX6_count_9 : decode cX6_count 9 = .ok (.invokestatic 33, 3) := by decide +kernel
theorem dX6_count_12 : decode cX6_count 12 = .ok (.ifCond .eq 11, 3) := by decide +kernel
theorem dX6_count_15 : decode cX6_count 15 = .ok (.aload_n 0, 1) := by decide +kernel
theorem dX6_count_16 : decode cX6_count 16 = .ok (.iload_n 1, 1) := by decide +kernel
theorem dX6_count_17 : decode cX6_count 17 = .ok (.invokevirtual 183, 3) := by decide +kernel
theorem dX6_count_20 : decode cX6_count 20 = .ok (.goto 8, 3) := by decide +kernel
theorem dX6_count_23 : decode cX6_count 23 = .ok (.aload_n 0, 1) := by decide +kernel
theorem dX6_count_24 : decode cX6_count 24 = .ok (.iconst 1, 1) := by decide +kernel
theorem dX6_count_25 : decode cX6_count 25 = .ok (.invokevirtual 37, 3) := by decide +kernel
theorem dX6_count_28 : decode cX6_count 28 = .ok (.ireturn, 1) := by decide +kernel
set_option maxRecDepth 20000 in
theorem ggX6_cycle_X6_isIn : GoodIn wsX6_cycle wsX6_isIn := goodIn_r _ [10] (by decide +kernel) (by decide +kernel)
set_option maxRecDepth 20000 in
theorem gX6_cycle_X6_isIn : GoodIn wsX6_cycle (va_wsS RX6 33 yX6_isIn wsX6_isIn) := goodIn_app (goodIn_of _ (by decide +kernel)) ggX6_cycle_X6_isIn
set_option maxRecDepth 20000 in
theorem ggX6_cycle_X6_fail : GoodIn wsX6_cycle wsX6_fail := goodIn_r _ [14, 1, 21, 22, 23, 24, 25, 26, 27, 28, 29, 30, 31, 32, 33] (by decide +kernel) (by decide +kernel)
set_option maxRecDepth 20000 in
theorem gX6_cycle_X6_fail : GoodIn wsX6_cycle (wsV RX6 37 RX6 yX6_fail wsX6_fail) := goodIn_app (goodIn_of _ (by decide +kernel)) ggX6_cycle_X6_fail
set_option maxRecDepth 20000 in
theorem ggX6_cycle_X6_isLeap : GoodIn wsX6_cycle wsX6_isLeap := goodIn_r _ [18, 19, 20, 21, 22, 23, 24, 25, 26, 27, 28, 29, 30, 31, 32, 33] (by decide +kernel) (by decide +kernel)
set_option maxRecDepth 20000 in
theorem gX6_cycle_X6_isLeap : GoodIn wsX6_cycle (wsV RX6 52 RX6 yX6_isLeap wsX6_isLeap) := goodIn_app (goodIn_of _ (by decide +kernel)) ggX6_cycle_X6_isLeap
theorem dX6_cycle_0 : decode cX6_cycle 0 = .ok (.aload_n 0, 1) := by decide +kernel
theorem dX6_cycle_1 : decode cX6_cycle 1 = .ok (.iconst 0, 1) := by decide +kernel
theorem dX6_cycle_2 : decode cX6_cycle 2 = .ok (.putfield 30, 3) := by decide +kernel
theorem dX6_cycle_5 : decode cX6_cycle 5 = .ok (.iload_n 1, 1) := by decide +kernel
theorem dX6_cycle_6 : decode cX6_cycle 6 = .ok (.iconst 0, 1) := by decide +kernel
theorem dX6_cycle_7 : decode cX6_cycle 7 = .ok (.sipush 5000, 3) := by decide +kernel
theorem dX6_cycle_10 : decode cX6_cycle 10 = .ok (.invokestatic 33, 3) := by decide +kernel
theorem dX6_cycle_13 : decode cX6_cycle 13 = .ok (.ifCond .ne 9, 3) := by decide +kernel
theorem dX6_cycle_16 : decode cX6_cycle 16 = .ok (.aload_n 0, 1) := by decide +kernel
theorem dX6_cycle_17 : decode cX6_cycle 17 = .ok (.iconst 1, 1) := by decide +kernel
theorem dX6_cycle_18 : decode cX6_cycle 18 = .ok (.invokevirtual 37, 3) := by decide +kernel
theorem dX6_cycle_21 : decode cX6_cycle 21 = .ok (.ireturn, 1) := by decide +kernel
theorem dX6_cycle_22 : decode cX6_cycle 22 = .ok (.iconst 0, 1) := by decide +kernel
theorem dX6_cycle_23 : decode cX6_cycle 23 = .ok (.istore_n 2, 1) := by decide +kernel
theorem dX6_cycle_24 : decode cX6_cycle 24 = .ok (.iconst 1, 1) := by decide +kernel
theorem dX6_cycle_25 : decode cX6_cycle 25 = .ok (.istore_n 3, 1) := by decide +kernel
theorem dX6_cycle_26 : decode cX6_cycle 26 = .ok (.iload_n 3, 1) := by decide +kernel
theorem dX6_cycle_27 : decode cX6_cycle 27 = .ok (.sipush 400, 3) := by decide +kernel
theorem dX6_cycle_30 : decode cX6_cycle 30 = .ok (.if_icmp .gt 68, 3) := by decide +kernel
theorem dX6_cycle_33 : decode cX6_cycle 33 = .ok (.iload_n 2, 1) := by decide +kernel
theorem dX6_cycle_34 : decode cX6_cycle 34 = .ok (.sipush 365, 3) := by decide +kernel
theorem dX6_cycle_37 : decode cX6_cycle 37 = .ok (.aload_n 0, 1) := by decide +kernel
theorem dX6_cycle_38 : decode cX6_cycle 38 = .ok (.iload_n 3, 1) := by decide +kernel
theorem dX6_cycle_39 : decode cX6_cycle 39 = .ok (.iconst 1, 1) := by decide +kernel
theorem dX6_cycle_40 : decode cX6_cycle 40 = .ok (.isub, 1) := by decide +kernel
theorem dX6_cycle_41 : decode cX6_cycle 41 = .ok (.invokevirtual 52, 3) := by decide +kernel
theorem dX6_cycle_44 : decode cX6_cycle 44 = .ok (.ifCond .eq 7, 3) := by decide +kernel
theorem dX6_cycle_47 : decode cX6_cycle 47 = .ok (.iconst 1, 1) := by decide +kernel
theorem dX6_cycle_48 : decode cX6_cycle 48 = .ok (.goto 4, 3) := by decide +kernel
theorem dX6_cycle_51 : decode cX6_cycle 51 = .ok (.iconst 0, 1) := by decide +kernel
theorem dX6_cycle_52 : decode cX6_cycle 52 = .ok (.iadd, 1) := by decide +kernel
theorem dX6_cycle_53 : decode cX6_cycle 53 = .ok (.iadd, 1) := by decide +kernel
theorem dX6_cycle_54 : decode cX6_cycle 54 = .ok (.istore_n 2, 1) := by decide +kernel
theorem dX6_cycle_55 : decode cX6_cycle 55 = .ok (.sipush 1000, 3) := by decide +kernel
theorem dX6_cycle_58 : decode cX6_cycle 58 = .ok (.iload_n 2, 1) := by decide +kernel
theorem dX6_cycle_59 : decode cX6_cycle 59 = .ok (.imul, 1) := by decide +kernel
theorem dX6_cycle_60 : decode cX6_cycle 60 = .ok (.aload_n 0, 1) := by decide +kernel
theorem dX6_cycle_61 : decode cX6_cycle 61 = .ok (.getfield 16, 3) := by decide +kernel
theorem dX6_cycle_64 : decode cX6_cycle 64 = .ok (.irem, 1) := by decide +kernel
theorem dX6_cycle_65 : decode cX6_cycle 65 = .ok (.istore 4, 2) := by decide +kernel
theorem dX6_cycle_67 : decode cX6_cycle 67 = .ok (.iload_n 2, 1) := by decide +kernel
theorem dX6_cycle_68 : decode cX6_cycle 68 = .ok (.bipush 7, 2) := by decide +kernel
theorem dX6_cycle_70 : decode cX6_cycle 70 = .ok (.irem, 1) := by decide +kernel
theorem dX6_cycle_71 : decode cX6_cycle 71 = .ok (.ifCond .ne 21, 3) := by decide +kernel
theorem dX6_cycle_74 : decode cX6_cycle 74 = .ok (.iload 4, 2) := by decide +kernel
theorem dX6_cycle_76 : decode cX6_cycle 76 = .ok (.aload_n 0, 1) := by decide +kernel
theorem dX6_cycle_77 : decode cX6_cycle 77 = .ok (.getfield 16, 3) := by decide +kernel
theorem dX6_cycle_80 : decode cX6_cycle 80 = .ok (.iload 4, 2) := by decide +kernel
theorem dX6_cycle_82 : decode cX6_cycle 82 = .ok (.isub, 1) := by decide +kernel
theorem dX6_cycle_83 : decode cX6_cycle 83 = .ok (.invokestatic 116, 3) := by decide +kernel
theorem dX6_cycle_86 : decode cX6_cycle 86 = .ok (.iload_n 1, 1) := by decide +kernel
theorem dX6_cycle_87 : decode cX6_cycle 87 = .ok (.if_icmp .gt 5, 3) := by decide +kernel
theorem dX6_cycle_90 : decode cX6_cycle 90 = .ok (.iload_n 3, 1) := by decide +kernel
theorem dX6_cycle_91 : decode cX6_cycle 91 = .ok (.ireturn, 1) := by decide +kernel
theorem dX6_cycle_92 : decode cX6_cycle 92 = .ok (.iinc 3 1, 3) := by decide +kernel
theorem dX6_cycle_95 : decode cX6_cycle 95 = .ok (.goto (-69), 3) := by decide +kernel
theorem dX6_cycle_98 : decode cX6_cycle 98 = .ok (.iconst (-1), 1) := by decide +kernel
theorem dX6_cycle_99 : decode cX6_cycle 99 = .ok (.ireturn, 1) := by decide +kernel
theorem dX6_mean_0 : decode cX6_mean 0 = .ok (.aload_n 0, 1) := by decide +kernel
theorem dX6_mean_1 : decode cX6_mean 1 = .ok (.iconst 0, 1) := by decide +kernel
theorem dX6_mean_2 : decode cX6_mean 2 = .ok (.putfield 30, 3) := by decide +kernel
theorem dX6_mean_5 : decode cX6_mean 5 = .ok (.ldc2_w 186, 3) := by decide +kernel
theorem dX6_mean_8 : decode cX6_mean 8 = .ok (.aload_n 0, 1) := by decide +kernel
theorem dX6_mean_9 : decode cX6_mean 9 = .ok (.getfield 13, 3) := by decide +kernel
theorem dX6_mean_12 : decode cX6_mean 12 = .ok (.i2d, 1) := by decide +kernel
theorem dX6_mean_13 : decode cX6_mean 13 = .ok (.aload_n 0, 1) := by decide +kernel
theorem dX6_mean_14 : decode cX6_mean 14 = .ok (.getfield 7, 3) := by decide +kernel
theorem dX6_mean_17 : decode cX6_mean 17 = .ok (.i2d, 1) := by decide +kernel
theorem dX6_mean_18 : decode cX6_mean 18 = .ok (.ddiv, 1) := by decide +kernel
theorem dX6_mean_19 : decode cX6_mean 19 = .ok (.dadd, 1) := by decide +kernel
theorem dX6_mean_20 : decode cX6_mean 20 = .ok (.dreturn, 1) := by decide +kernel
set_option maxRecDepth 20000 in
theorem ggX6_digest_X6_counted : GoodIn wsX6_digest wsX6_counted := goodIn_r _ [11, 12, 13, 14, 15, 16, 17, 4, 6, 18, 19, 20, 21, 22, 10, 23, 24, 25, 26, 27, 28, 29, 30, 31, 32, 33, 34, 35, 36, 37, 38, 39, 40, 41, 42, 43, 44, 45, 46, 47, 5, 48, 49, 50, 51, 52, 53, 54, 55, 56, 57, 58, 59, 60, 61, 62, 63, 64, 65, 66, 67, 68, 69, 70, 71, 72, 73, 74, 75, 76, 77, 78, 79, 80, 81, 82, 83, 84, 85, 86, 87, 88, 89, 90, 91, 92, 93, 94, 95, 96, 97, 98, 99, 100, 101, 102, 103, 104, 105, 106, 107, 108] (by decide +kernel) (by decide +kernel)
set_option maxRecDepth 20000 in
theorem gX6_digest_X6_counted : GoodIn wsX6_digest (wsV RX6 183 RX6 yX6_counted wsX6_counted) := goodIn_app (goodIn_of _ (by decide +kernel)) ggX6_digest_X6_counted
set_option maxRecDepth 20000 in
theorem ggX6_digest_X6_sheetTold : GoodIn wsX6_digest wsX6_sheetTold := goodIn_r _ [23, 24, 25, 26, 27, 28, 29, 30, 10, 31, 32, 33, 34, 35, 36, 37, 38, 39, 40, 41, 42, 43, 44, 45, 46, 47, 5, 48, 49, 50, 51, 52, 53, 54, 55, 56, 57, 58, 59, 13, 12, 60, 61, 62, 63, 64, 65, 66, 67, 68, 15, 14, 69, 70, 71, 72, 73, 74, 75, 76, 77, 78, 79, 80, 81, 82, 83, 84, 85, 86, 87, 88, 89, 90, 91, 92, 17, 16, 93, 94, 95, 96, 97, 98, 99, 100, 101, 102, 103, 104, 105, 106, 107, 108] (by decide +kernel) (by decide +kernel)
set_option maxRecDepth 20000 in
theorem gX6_digest_X6_sheetTold : GoodIn wsX6_digest (wsV RX6 180 RX6 yX6_sheetTold wsX6_sheetTold) := goodIn_app (goodIn_of _ (by decide +kernel)) ggX6_digest_X6_sheetTold
set_option maxRecDepth 20000 in
theorem ggX6_digest_X6_pa : GoodIn wsX6_digest wsX6_pa := goodIn_r _ [31, 32, 96, 97, 98, 99, 100, 101, 102, 103, 104, 105, 106, 107, 108] (by decide +kernel) (by decide +kernel)
set_option maxRecDepth 20000 in
theorem gX6_digest_X6_pa : GoodIn wsX6_digest (wsV RX6 168 RX6 yX6_pa wsX6_pa) := goodIn_app (goodIn_of _ (by decide +kernel)) ggX6_digest_X6_pa
theorem dX6_digest_0 : decode cX6_digest 0 = .ok (.aload_n 0, 1) := by decide +kernel
theorem dX6_digest_1 : decode cX6_digest 1 = .ok (.iconst 0, 1) := by decide +kernel
theorem dX6_digest_2 : decode cX6_digest 2 = .ok (.putfield 30, 3) := by decide +kernel
theorem dX6_digest_5 : decode cX6_digest 5 = .ok (.ldc2_w 188, 3) := by decide +kernel
theorem dX6_digest_8 : decode cX6_digest 8 = .ok (.lstore_n 1, 1) := by decide +kernel
theorem dX6_digest_9 : decode cX6_digest 9 = .ok (.iconst 0, 1) := by decide +kernel
theorem dX6_digest_10 : decode cX6_digest 10 = .ok (.istore_n 3, 1) := by decide +kernel
theorem dX6_digest_11 : decode cX6_digest 11 = .ok (.iload_n 3, 1) := by decide +kernel
theorem dX6_digest_12 : decode cX6_digest 12 = .ok (.bipush 11, 2) := by decide +kernel
theorem dX6_digest_14 : decode cX6_digest 14 = .ok (.if_icmp .ge 22, 3) := by decide +kernel
theorem dX6_digest_17 : decode cX6_digest 17 = .ok (.lload_n 1, 1) := by decide +kernel
theorem dX6_digest_18 : decode cX6_digest 18 = .ok (.ldc2_w 190, 3) := by decide +kernel
theorem dX6_digest_21 : decode cX6_digest 21 = .ok (.lmul, 1) := by decide +kernel
theorem dX6_digest_22 : decode cX6_digest 22 = .ok (.aload_n 0, 1) := by decide +kernel
theorem dX6_digest_23 : decode cX6_digest 23 = .ok (.iload_n 3, 1) := by decide +kernel
theorem dX6_digest_24 : decode cX6_digest 24 = .ok (.invokevirtual 183, 3) := by decide +kernel
theorem dX6_digest_27 : decode cX6_digest 27 = .ok (.i2l, 1) := by decide +kernel
theorem dX6_digest_28 : decode cX6_digest 28 = .ok (.ladd, 1) := by decide +kernel
theorem dX6_digest_29 : decode cX6_digest 29 = .ok (.lstore_n 1, 1) := by decide +kernel
theorem dX6_digest_30 : decode cX6_digest 30 = .ok (.iinc 3 1, 3) := by decide +kernel
theorem dX6_digest_33 : decode cX6_digest 33 = .ok (.goto (-22), 3) := by decide +kernel
theorem dX6_digest_36 : decode cX6_digest 36 = .ok (.iconst 0, 1) := by decide +kernel
theorem dX6_digest_37 : decode cX6_digest 37 = .ok (.istore_n 3, 1) := by decide +kernel
theorem dX6_digest_38 : decode cX6_digest 38 = .ok (.iload_n 3, 1) := by decide +kernel
theorem dX6_digest_39 : decode cX6_digest 39 = .ok (.iconst 5, 1) := by decide +kernel
theorem dX6_digest_40 : decode cX6_digest 40 = .ok (.aload_n 0, 1) := by decide +kernel
theorem dX6_digest_41 : decode cX6_digest 41 = .ok (.getfield 140, 3) := by decide +kernel
theorem dX6_digest_44 : decode cX6_digest 44 = .ok (.imul, 1) := by decide +kernel
theorem dX6_digest_45 : decode cX6_digest 45 = .ok (.if_icmp .ge 23, 3) := by decide +kernel
theorem dX6_digest_48 : decode cX6_digest 48 = .ok (.lload_n 1, 1) := by decide +kernel
theorem dX6_digest_49 : decode cX6_digest 49 = .ok (.ldc2_w 190, 3) := by decide +kernel
theorem dX6_digest_52 : decode cX6_digest 52 = .ok (.lmul, 1) := by decide +kernel
theorem dX6_digest_53 : decode cX6_digest 53 = .ok (.aload_n 0, 1) := by decide +kernel
theorem dX6_digest_54 : decode cX6_digest 54 = .ok (.getfield 23, 3) := by decide +kernel
theorem dX6_digest_57 : decode cX6_digest 57 = .ok (.iload_n 3, 1) := by decide +kernel
theorem dX6_digest_58 : decode cX6_digest 58 = .ok (.iaload, 1) := by decide +kernel
theorem dX6_digest_59 : decode cX6_digest 59 = .ok (.i2l, 1) := by decide +kernel
theorem dX6_digest_60 : decode cX6_digest 60 = .ok (.ladd, 1) := by decide +kernel
theorem dX6_digest_61 : decode cX6_digest 61 = .ok (.lstore_n 1, 1) := by decide +kernel
theorem dX6_digest_62 : decode cX6_digest 62 = .ok (.iinc 3 1, 3) := by decide +kernel
theorem dX6_digest_65 : decode cX6_digest 65 = .ok (.goto (-27), 3) := by decide +kernel
theorem dX6_digest_68 : decode cX6_digest 68 = .ok (.iconst 0, 1) := by decide +kernel
theorem dX6_digest_69 : decode cX6_digest 69 = .ok (.istore_n 3, 1) := by decide +kernel
theorem dX6_digest_70 : decode cX6_digest 70 = .ok (.iload_n 3, 1) := by decide +kernel
theorem dX6_digest_71 : decode cX6_digest 71 = .ok (.aload_n 0, 1) := by decide +kernel
theorem dX6_digest_72 : decode cX6_digest 72 = .ok (.getfield 161, 3) := by decide +kernel
theorem dX6_digest_75 : decode cX6_digest 75 = .ok (.if_icmp .ge 76, 3) := by decide +kernel
theorem dX6_digest_78 : decode cX6_digest 78 = .ok (.iconst 0, 1) := by decide +kernel
theorem dX6_digest_79 : decode cX6_digest 79 = .ok (.istore 4, 2) := by decide +kernel
theorem dX6_digest_81 : decode cX6_digest 81 = .ok (.iload 4, 2) := by decide +kernel
theorem dX6_digest_83 : decode cX6_digest 83 = .ok (.iconst 5, 1) := by decide +kernel
theorem dX6_digest_84 : decode cX6_digest 84 = .ok (.if_icmp .ge 24, 3) := by decide +kernel
theorem dX6_digest_87 : decode cX6_digest 87 = .ok (.lload_n 1, 1) := by decide +kernel
theorem dX6_digest_88 : decode cX6_digest 88 = .ok (.ldc2_w 190, 3) := by decide +kernel
theorem dX6_digest_91 : decode cX6_digest 91 = .ok (.lmul, 1) := by decide +kernel
theorem dX6_digest_92 : decode cX6_digest 92 = .ok (.aload_n 0, 1) := by decide +kernel
theorem dX6_digest_93 : decode cX6_digest 93 = .ok (.iload_n 3, 1) := by decide +kernel
theorem dX6_digest_94 : decode cX6_digest 94 = .ok (.iload 4, 2) := by decide +kernel
theorem dX6_digest_96 : decode cX6_digest 96 = .ok (.invokevirtual 180, 3) := by decide +kernel
theorem dX6_digest_99 : decode cX6_digest 99 = .ok (.i2l, 1) := by decide +kernel
theorem dX6_digest_100 : decode cX6_digest 100 = .ok (.ladd, 1) := by decide +kernel
theorem dX6_digest_101 : decode cX6_digest 101 = .ok (.lstore_n 1, 1) := by decide +kernel
theorem dX6_digest_102 : decode cX6_digest 102 = .ok (.iinc 4 1, 3) := by decide +kernel
theorem dX6_digest_105 : decode cX6_digest 105 = .ok (.goto (-24), 3) := by decide +kernel
theorem dX6_digest_108 : decode cX6_digest 108 = .ok (.iconst 0, 1) := by decide +kernel
theorem dX6_digest_109 : decode cX6_digest 109 = .ok (.istore 4, 2) := by decide +kernel
theorem dX6_digest_111 : decode cX6_digest 111 = .ok (.iload 4, 2) := by decide +kernel
theorem dX6_digest_113 : decode cX6_digest 113 = .ok (.aload_n 0, 1) := by decide +kernel
theorem dX6_digest_114 : decode cX6_digest 114 = .ok (.iload_n 3, 1) := by decide +kernel
theorem dX6_digest_115 : decode cX6_digest 115 = .ok (.iconst 1, 1) := by decide +kernel
theorem dX6_digest_116 : decode cX6_digest 116 = .ok (.invokevirtual 168, 3) := by decide +kernel
theorem dX6_digest_119 : decode cX6_digest 119 = .ok (.if_icmp .ge 26, 3) := by decide +kernel
theorem dX6_digest_122 : decode cX6_digest 122 = .ok (.lload_n 1, 1) := by decide +kernel
theorem dX6_digest_123 : decode cX6_digest 123 = .ok (.ldc2_w 190, 3) := by decide +kernel
theorem dX6_digest_126 : decode cX6_digest 126 = .ok (.lmul, 1) := by decide +kernel
theorem dX6_digest_127 : decode cX6_digest 127 = .ok (.aload_n 0, 1) := by decide +kernel
theorem dX6_digest_128 : decode cX6_digest 128 = .ok (.iload_n 3, 1) := by decide +kernel
theorem dX6_digest_129 : decode cX6_digest 129 = .ok (.iconst 3, 1) := by decide +kernel
theorem dX6_digest_130 : decode cX6_digest 130 = .ok (.iload 4, 2) := by decide +kernel
theorem dX6_digest_132 : decode cX6_digest 132 = .ok (.iadd, 1) := by decide +kernel
theorem dX6_digest_133 : decode cX6_digest 133 = .ok (.invokevirtual 168, 3) := by decide +kernel
theorem dX6_digest_136 : decode cX6_digest 136 = .ok (.i2l, 1) := by decide +kernel
theorem dX6_digest_137 : decode cX6_digest 137 = .ok (.ladd, 1) := by decide +kernel
theorem dX6_digest_138 : decode cX6_digest 138 = .ok (.lstore_n 1, 1) := by decide +kernel
theorem dX6_digest_139 : decode cX6_digest 139 = .ok (.iinc 4 1, 3) := by decide +kernel
theorem dX6_digest_142 : decode cX6_digest 142 = .ok (.goto (-31), 3) := by decide +kernel
theorem dX6_digest_145 : decode cX6_digest 145 = .ok (.iinc 3 1, 3) := by decide +kernel
theorem dX6_digest_148 : decode cX6_digest 148 = .ok (.goto (-78), 3) := by decide +kernel
theorem dX6_digest_151 : decode cX6_digest 151 = .ok (.lload_n 1, 1) := by decide +kernel
theorem dX6_digest_152 : decode cX6_digest 152 = .ok (.lreturn, 1) := by decide +kernel
set_option maxRecDepth 20000 in
theorem ggJ5_init_d00df_J2_newBytesFor_77867 : GoodIn wsJ5_init_d00df wsJ2_newBytesFor_77867 := goodIn_r _ [11, 5, 12, 13, 10, 14, 15] (by decide +kernel) (by decide +kernel)
set_option maxRecDepth 20000 in
theorem gJ5_init_d00df_J2_newBytesFor_77867 : GoodIn wsJ5_init_d00df (va_wsS RJ5 26 yJ2_newBytesFor_77867 wsJ2_newBytesFor_77867) := goodIn_app (goodIn_of _ (by decide +kernel)) ggJ5_init_d00df_J2_newBytesFor_77867
