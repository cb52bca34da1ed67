/-! ===== rows of the class ===== -/
theorem dX0_init_0 : decode cX0_init 0 = .ok (.aload_n 0, 1) := by decide +kernel
theorem dX0_init_1 : decode cX0_init 1 = .ok (.invokespecial 1, 3) := by decide +kernel
theorem dX0_init_4 : decode cX0_init 4 = .ok (.aload_n 0, 1) := by decide +kernel
theorem dX0_init_5 : decode cX0_init 5 = .ok (.iload_n 1, 1) := by decide +kernel
theorem dX0_init_6 : decode cX0_init 6 = .ok (.putfield 7, 3) := by decide +kernel
theorem dX0_init_9 : decode cX0_init 9 = .ok (.aload_n 0, 1) := by decide +kernel
theorem dX0_init_10 : decode cX0_init 10 = .ok (.iload_n 2, 1) := by decide +kernel
theorem dX0_init_11 : decode cX0_init 11 = .ok (.putfield 13, 3) := by decide +kernel
theorem dX0_init_14 : decode cX0_init 14 = .ok (.aload_n 0, 1) := by decide +kernel
theorem dX0_init_15 : decode cX0_init 15 = .ok (.iload_n 3, 1) := by decide +kernel
theorem dX0_init_16 : decode cX0_init 16 = .ok (.putfield 16, 3) := by decide +kernel
theorem dX0_init_19 : decode cX0_init 19 = .ok (.aload_n 0, 1) := by decide +kernel
theorem dX0_init_20 : decode cX0_init 20 = .ok (.iload 4, 2) := by decide +kernel
theorem dX0_init_22 : decode cX0_init 22 = .ok (.putfield 19, 3) := by decide +kernel
theorem dX0_init_25 : decode cX0_init 25 = .ok (.aload_n 0, 1) := by decide +kernel
theorem dX0_init_26 : decode cX0_init 26 = .ok (.iload 5, 2) := by decide +kernel
theorem dX0_init_28 : decode cX0_init 28 = .ok (.putfield 22, 3) := by decide +kernel
theorem dX0_init_31 : decode cX0_init 31 = .ok (.return_, 1) := by decide +kernel
theorem dX1_init_0 : decode cX1_init 0 = .ok (.aload_n 0, 1) := by decide +kernel
theorem dX1_init_1 : decode cX1_init 1 = .ok (.invokespecial 3, 3) := by decide +kernel
theorem dX1_init_4 : decode cX1_init 4 = .ok (.aload_n 0, 1) := by decide +kernel
theorem dX1_init_5 : decode cX1_init 5 = .ok (.sipush 29531, 3) := by decide +kernel
theorem dX1_init_8 : decode cX1_init 8 = .ok (.putfield 9, 3) := by decide +kernel
theorem dX1_init_11 : decode cX1_init 11 = .ok (.aload_n 0, 1) := by decide +kernel
theorem dX1_init_12 : decode cX1_init 12 = .ok (.iconst 0, 1) := by decide +kernel
theorem dX1_init_13 : decode cX1_init 13 = .ok (.putfield 15, 3) := by decide +kernel
theorem dX1_init_16 : decode cX1_init 16 = .ok (.return_, 1) := by decide +kernel
theorem dX1_timeOf_0 : decode cX1_timeOf 0 = .ok (.aload_n 0, 1) := by decide +kernel
theorem dX1_timeOf_1 : decode cX1_timeOf 1 = .ok (.getfield 15, 3) := by decide +kernel
theorem dX1_timeOf_4 : decode cX1_timeOf 4 = .ok (.iload_n 1, 1) := by decide +kernel
theorem dX1_timeOf_5 : decode cX1_timeOf 5 = .ok (.aload_n 0, 1) := by decide +kernel
theorem dX1_timeOf_6 : decode cX1_timeOf 6 = .ok (.getfield 9, 3) := by decide +kernel
theorem dX1_timeOf_9 : decode cX1_timeOf 9 = .ok (.imul, 1) := by decide +kernel
theorem dX1_timeOf_10 : decode cX1_timeOf 10 = .ok (.iadd, 1) := by decide +kernel
theorem dX1_timeOf_11 : decode cX1_timeOf 11 = .ok (.iload_n 2, 1) := by decide +kernel
theorem dX1_timeOf_12 : decode cX1_timeOf 12 = .ok (.ifCond .eq 12, 3) := by decide +kernel
theorem dX1_timeOf_15 : decode cX1_timeOf 15 = .ok (.aload_n 0, 1) := by decide +kernel
theorem dX1_timeOf_16 : decode cX1_timeOf 16 = .ok (.getfield 9, 3) := by decide +kernel
theorem dX1_timeOf_19 : decode cX1_timeOf 19 = .ok (.iconst 2, 1) := by decide +kernel
theorem dX1_timeOf_20 : decode cX1_timeOf 20 = .ok (.idiv, 1) := by decide +kernel
theorem dX1_timeOf_21 : decode cX1_timeOf 21 = .ok (.goto 4, 3) := by decide +kernel
theorem dX1_timeOf_24 : decode cX1_timeOf 24 = .ok (.iconst 0, 1) := by decide +kernel
theorem dX1_timeOf_25 : decode cX1_timeOf 25 = .ok (.iadd, 1) := by decide +kernel
theorem dX1_timeOf_26 : decode cX1_timeOf 26 = .ok (.ireturn, 1) := by decide +kernel
theorem dX1_firstFrom_0 : decode cX1_firstFrom 0 = .ok (.iload_n 1, 1) := by decide +kernel
theorem dX1_firstFrom_1 : decode cX1_firstFrom 1 = .ok (.aload_n 0, 1) := by decide +kernel
theorem dX1_firstFrom_2 : decode cX1_firstFrom 2 = .ok (.getfield 15, 3) := by decide +kernel
theorem dX1_firstFrom_5 : decode cX1_firstFrom 5 = .ok (.isub, 1) := by decide +kernel
theorem dX1_firstFrom_6 : decode cX1_firstFrom 6 = .ok (.iload_n 2, 1) := by decide +kernel
theorem dX1_firstFrom_7 : decode cX1_firstFrom 7 = .ok (.ifCond .eq 12, 3) := by decide +kernel
theorem dX1_firstFrom_10 : decode cX1_firstFrom 10 = .ok (.aload_n 0, 1) := by decide +kernel
theorem dX1_firstFrom_11 : decode cX1_firstFrom 11 = .ok (.getfield 9, 3) := by decide +kernel
theorem dX1_firstFrom_14 : decode cX1_firstFrom 14 = .ok (.iconst 2, 1) := by decide +kernel
theorem dX1_firstFrom_15 : decode cX1_firstFrom 15 = .ok (.idiv, 1) := by decide +kernel
theorem dX1_firstFrom_16 : decode cX1_firstFrom 16 = .ok (.goto 4, 3) := by decide +kernel
theorem dX1_firstFrom_19 : decode cX1_firstFrom 19 = .ok (.iconst 0, 1) := by decide +kernel
theorem dX1_firstFrom_20 : decode cX1_firstFrom 20 = .ok (.isub, 1) := by decide +kernel
theorem dX1_firstFrom_21 : decode cX1_firstFrom 21 = .ok (.istore_n 3, 1) := by decide +kernel
theorem dX1_firstFrom_22 : decode cX1_firstFrom 22 = .ok (.iload_n 3, 1) := by decide +kernel
theorem dX1_firstFrom_23 : decode cX1_firstFrom 23 = .ok (.ifCond .le 11, 3) := by decide +kernel
theorem dX1_firstFrom_26 : decode cX1_firstFrom 26 = .ok (.aload_n 0, 1) := by decide +kernel
theorem dX1_firstFrom_27 : decode cX1_firstFrom 27 = .ok (.getfield 9, 3) := by decide +kernel
theorem dX1_firstFrom_30 : decode cX1_firstFrom 30 = .ok (.iconst 1, 1) := by decide +kernel
theorem dX1_firstFrom_31 : decode cX1_firstFrom 31 = .ok (.if_icmp .ge 5, 3) := by decide +kernel
theorem dX1_firstFrom_34 : decode cX1_firstFrom 34 = .ok (.iconst 0, 1) := by decide +kernel
theorem dX1_firstFrom_35 : decode cX1_firstFrom 35 = .ok (.ireturn, 1) := by decide +kernel
theorem dX1_firstFrom_36 : decode cX1_firstFrom 36 = .ok (.iload_n 3, 1) := by decide +kernel
theorem dX1_firstFrom_37 : decode cX1_firstFrom 37 = .ok (.aload_n 0, 1) := by decide +kernel
theorem dX1_firstFrom_38 : decode cX1_firstFrom 38 = .ok (.getfield 9, 3) := by decide +kernel
theorem dX1_firstFrom_41 : decode cX1_firstFrom 41 = .ok (.iadd, 1) := by decide +kernel
theorem dX1_firstFrom_42 : decode cX1_firstFrom 42 = .ok (.iconst 1, 1) := by decide +kernel
theorem dX1_firstFrom_43 : decode cX1_firstFrom 43 = .ok (.isub, 1) := by decide +kernel
theorem dX1_firstFrom_44 : decode cX1_firstFrom 44 = .ok (.aload_n 0, 1) := by decide +kernel
theorem dX1_firstFrom_45 : decode cX1_firstFrom 45 = .ok (.getfield 9, 3) := by decide +kernel
theorem dX1_firstFrom_48 : decode cX1_firstFrom 48 = .ok (.idiv, 1) := by decide +kernel
theorem dX1_firstFrom_49 : decode cX1_firstFrom 49 = .ok (.ireturn, 1) := by decide +kernel
set_option maxRecDepth 20000 in
theorem ggX1_nearestTo_X1_firstFrom : GoodIn wsX1_nearestTo wsX1_firstFrom := goodIn_r _ [5, 6, 7, 12, 13] (by decide +kernel) (by decide +kernel)
set_option maxRecDepth 20000 in
theorem gX1_nearestTo_X1_firstFrom : GoodIn wsX1_nearestTo (wsV RX1 18 RX1 yX1_firstFrom wsX1_firstFrom) := goodIn_app (goodIn_of _ (by decide +kernel)) ggX1_nearestTo_X1_firstFrom
set_option maxRecDepth 20000 in
theorem ggX1_nearestTo_X1_timeOf : GoodIn wsX1_nearestTo wsX1_timeOf := goodIn_r _ [11, 6, 7, 12, 13] (by decide +kernel) (by decide +kernel)
set_option maxRecDepth 20000 in
theorem gX1_nearestTo_X1_timeOf : GoodIn wsX1_nearestTo (wsV RX1 22 RX1 yX1_timeOf wsX1_timeOf) := goodIn_app (goodIn_of _ (by decide +kernel)) ggX1_nearestTo_X1_timeOf
theorem dX1_nearestTo_0 : decode cX1_nearestTo 0 = .ok (.aload_n 0, 1) := by decide +kernel
theorem dX1_nearestTo_1 : decode cX1_nearestTo 1 = .ok (.sipush 1000, 3) := by decide +kernel
theorem dX1_nearestTo_4 : decode cX1_nearestTo 4 = .ok (.iload_n 1, 1) := by decide +kernel
theorem dX1_nearestTo_5 : decode cX1_nearestTo 5 = .ok (.imul, 1) := by decide +kernel
theorem dX1_nearestTo_6 : decode cX1_nearestTo 6 = .ok (.iload_n 2, 1) := by decide +kernel
theorem dX1_nearestTo_7 : decode cX1_nearestTo 7 = .ok (.invokevirtual 18, 3) := by decide +kernel
theorem dX1_nearestTo_10 : decode cX1_nearestTo 10 = .ok (.istore_n 3, 1) := by decide +kernel
theorem dX1_nearestTo_11 : decode cX1_nearestTo 11 = .ok (.iload_n 3, 1) := by decide +kernel
theorem dX1_nearestTo_12 : decode cX1_nearestTo 12 = .ok (.ifCond .ne 5, 3) := by decide +kernel
theorem dX1_nearestTo_15 : decode cX1_nearestTo 15 = .ok (.iconst 0, 1) := by decide +kernel
theorem dX1_nearestTo_16 : decode cX1_nearestTo 16 = .ok (.ireturn, 1) := by decide +kernel
theorem dX1_nearestTo_17 : decode cX1_nearestTo 17 = .ok (.aload_n 0, 1) := by decide +kernel
theorem dX1_nearestTo_18 : decode cX1_nearestTo 18 = .ok (.iload_n 3, 1) := by decide +kernel
theorem dX1_nearestTo_19 : decode cX1_nearestTo 19 = .ok (.iload_n 2, 1) := by decide +kernel
theorem dX1_nearestTo_20 : decode cX1_nearestTo 20 = .ok (.invokevirtual 22, 3) := by decide +kernel
theorem dX1_nearestTo_23 : decode cX1_nearestTo 23 = .ok (.sipush 1000, 3) := by decide +kernel
theorem dX1_nearestTo_26 : decode cX1_nearestTo 26 = .ok (.idiv, 1) := by decide +kernel
theorem dX1_nearestTo_27 : decode cX1_nearestTo 27 = .ok (.iload_n 1, 1) := by decide +kernel
theorem dX1_nearestTo_28 : decode cX1_nearestTo 28 = .ok (.isub, 1) := by decide +kernel
theorem dX1_nearestTo_29 : decode cX1_nearestTo 29 = .ok (.istore 4, 2) := by decide +kernel
theorem dX1_nearestTo_31 : decode cX1_nearestTo 31 = .ok (.iload_n 1, 1) := by decide +kernel
theorem dX1_nearestTo_32 : decode cX1_nearestTo 32 = .ok (.aload_n 0, 1) := by decide +kernel
theorem dX1_nearestTo_33 : decode cX1_nearestTo 33 = .ok (.iload_n 3, 1) := by decide +kernel
theorem dX1_nearestTo_34 : decode cX1_nearestTo 34 = .ok (.iconst 1, 1) := by decide +kernel
theorem dX1_nearestTo_35 : decode cX1_nearestTo 35 = .ok (.isub, 1) := by decide +kernel
theorem dX1_nearestTo_36 : decode cX1_nearestTo 36 = .ok (.iload_n 2, 1) := by decide +kernel
theorem dX1_nearestTo_37 : decode cX1_nearestTo 37 = .ok (.invokevirtual 22, 3) := by decide +kernel
theorem dX1_nearestTo_40 : decode cX1_nearestTo 40 = .ok (.sipush 1000, 3) := by decide +kernel
theorem dX1_nearestTo_43 : decode cX1_nearestTo 43 = .ok (.idiv, 1) := by decide +kernel
theorem dX1_nearestTo_44 : decode cX1_nearestTo 44 = .ok (.isub, 1) := by decide +kernel
theorem dX1_nearestTo_45 : decode cX1_nearestTo 45 = .ok (.istore 5, 2) := by decide +kernel
theorem dX1_nearestTo_47 : decode cX1_nearestTo 47 = .ok (.iload 5, 2) := by decide +kernel
theorem dX1_nearestTo_49 : decode cX1_nearestTo 49 = .ok (.iload 4, 2) := by decide +kernel
theorem dX1_nearestTo_51 : decode cX1_nearestTo 51 = .ok (.if_icmp .gt 9, 3) := by decide +kernel
theorem dX1_nearestTo_54 : decode cX1_nearestTo 54 = .ok (.iload_n 3, 1) := by decide +kernel
theorem dX1_nearestTo_55 : decode cX1_nearestTo 55 = .ok (.iconst 1, 1) := by decide +kernel
theorem dX1_nearestTo_56 : decode cX1_nearestTo 56 = .ok (.isub, 1) := by decide +kernel
theorem dX1_nearestTo_57 : decode cX1_nearestTo 57 = .ok (.goto 4, 3) := by decide +kernel
theorem dX1_nearestTo_60 : decode cX1_nearestTo 60 = .ok (.iload_n 3, 1) := by decide +kernel
theorem dX1_nearestTo_61 : decode cX1_nearestTo 61 = .ok (.ireturn, 1) := by decide +kernel
theorem dX1_correct_0 : decode cX1_correct 0 = .ok (.iconst 2, 1) := by decide +kernel
theorem dX1_correct_1 : decode cX1_correct 1 = .ok (.iload_n 1, 1) := by decide +kernel
theorem dX1_correct_2 : decode cX1_correct 2 = .ok (.imul, 1) := by decide +kernel
theorem dX1_correct_3 : decode cX1_correct 3 = .ok (.iload_n 2, 1) := by decide +kernel
theorem dX1_correct_4 : decode cX1_correct 4 = .ok (.ifCond .eq 7, 3) := by decide +kernel
theorem dX1_correct_7 : decode cX1_correct 7 = .ok (.iconst 1, 1) := by decide +kernel
theorem dX1_correct_8 : decode cX1_correct 8 = .ok (.goto 4, 3) := by decide +kernel
theorem dX1_correct_11 : decode cX1_correct 11 = .ok (.iconst 0, 1) := by decide +kernel
theorem dX1_correct_12 : decode cX1_correct 12 = .ok (.iadd, 1) := by decide +kernel
theorem dX1_correct_13 : decode cX1_correct 13 = .ok (.istore 4, 2) := by decide +kernel
theorem dX1_correct_15 : decode cX1_correct 15 = .ok (.iload 4, 2) := by decide +kernel
theorem dX1_correct_17 : decode cX1_correct 17 = .ok (.iconst 1, 1) := by decide +kernel
theorem dX1_correct_18 : decode cX1_correct 18 = .ok (.if_icmp .ge 5, 3) := by decide +kernel
theorem dX1_correct_21 : decode cX1_correct 21 = .ok (.iconst 0, 1) := by decide +kernel
theorem dX1_correct_22 : decode cX1_correct 22 = .ok (.ireturn, 1) := by decide +kernel
theorem dX1_correct_23 : decode cX1_correct 23 = .ok (.iconst 2, 1) := by decide +kernel
theorem dX1_correct_24 : decode cX1_correct 24 = .ok (.sipush 1000, 3) := by decide +kernel
theorem dX1_correct_27 : decode cX1_correct 27 = .ok (.iload_n 3, 1) := by decide +kernel
theorem dX1_correct_28 : decode cX1_correct 28 = .ok (.imul, 1) := by decide +kernel
theorem dX1_correct_29 : decode cX1_correct 29 = .ok (.sipush 500, 3) := by decide +kernel
theorem dX1_correct_32 : decode cX1_correct 32 = .ok (.iadd, 1) := by decide +kernel
theorem dX1_correct_33 : decode cX1_correct 33 = .ok (.aload_n 0, 1) := by decide +kernel
theorem dX1_correct_34 : decode cX1_correct 34 = .ok (.getfield 15, 3) := by decide +kernel
theorem dX1_correct_37 : decode cX1_correct 37 = .ok (.isub, 1) := by decide +kernel
theorem dX1_correct_38 : decode cX1_correct 38 = .ok (.imul, 1) := by decide +kernel
theorem dX1_correct_39 : decode cX1_correct 39 = .ok (.iload 4, 2) := by decide +kernel
theorem dX1_correct_41 : decode cX1_correct 41 = .ok (.idiv, 1) := by decide +kernel
theorem dX1_correct_42 : decode cX1_correct 42 = .ok (.istore 5, 2) := by decide +kernel
theorem dX1_correct_44 : decode cX1_correct 44 = .ok (.aload_n 0, 1) := by decide +kernel
theorem dX1_correct_45 : decode cX1_correct 45 = .ok (.sipush 20000, 3) := by decide +kernel
theorem dX1_correct_48 : decode cX1_correct 48 = .ok (.ldc 25, 2) := by decide +kernel
theorem dX1_correct_50 : decode cX1_correct 50 = .ok (.iload 5, 2) := by decide +kernel
theorem dX1_correct_52 : decode cX1_correct 52 = .ok (.invokestatic 26, 3) := by decide +kernel
theorem dX1_correct_55 : decode cX1_correct 55 = .ok (.invokestatic 32, 3) := by decide +kernel
theorem dX1_correct_58 : decode cX1_correct 58 = .ok (.putfield 9, 3) := by decide +kernel
theorem dX1_correct_61 : decode cX1_correct 61 = .ok (.iconst 1, 1) := by decide +kernel
theorem dX1_correct_62 : decode cX1_correct 62 = .ok (.ireturn, 1) := by decide +kernel
theorem dX2_init_0 : decode cX2_init 0 = .ok (.aload_n 0, 1) := by decide +kernel
theorem dX2_init_1 : decode cX2_init 1 = .ok (.invokespecial 1, 3) := by decide +kernel
theorem dX2_init_4 : decode cX2_init 4 = .ok (.aload_n 0, 1) := by decide +kernel
theorem dX2_init_5 : decode cX2_init 5 = .ok (.ldc 7, 2) := by decide +kernel
theorem dX2_init_7 : decode cX2_init 7 = .ok (.putfield 8, 3) := by decide +kernel
theorem dX2_init_10 : decode cX2_init 10 = .ok (.aload_n 0, 1) := by decide +kernel
theorem dX2_init_11 : decode cX2_init 11 = .ok (.iconst 0, 1) := by decide +kernel
theorem dX2_init_12 : decode cX2_init 12 = .ok (.putfield 14, 3) := by decide +kernel
theorem dX2_init_15 : decode cX2_init 15 = .ok (.return_, 1) := by decide +kernel
theorem dX2_isNear_0 : decode cX2_isNear 0 = .ok (.iload_n 1, 1) := by decide +kernel
theorem dX2_isNear_1 : decode cX2_isNear 1 = .ok (.aload_n 0, 1) := by decide +kernel
theorem dX2_isNear_2 : decode cX2_isNear 2 = .ok (.getfield 14, 3) := by decide +kernel
theorem dX2_isNear_5 : decode cX2_isNear 5 = .ok (.if_icmp .le 11, 3) := by decide +kernel
theorem dX2_isNear_8 : decode cX2_isNear 8 = .ok (.aload_n 0, 1) := by decide +kernel
theorem dX2_isNear_9 : decode cX2_isNear 9 = .ok (.getfield 8, 3) := by decide +kernel
theorem dX2_isNear_12 : decode cX2_isNear 12 = .ok (.iconst 1, 1) := by decide +kernel
theorem dX2_isNear_13 : decode cX2_isNear 13 = .ok (.if_icmp .ge 19, 3) := by decide +kernel
theorem dX2_isNear_16 : decode cX2_isNear 16 = .ok (.aload_n 0, 1) := by decide +kernel
theorem dX2_isNear_17 : decode cX2_isNear 17 = .ok (.getfield 14, 3) := by decide +kernel
theorem dX2_isNear_20 : decode cX2_isNear 20 = .ok (.iload_n 1, 1) := by decide +kernel
theorem dX2_isNear_21 : decode cX2_isNear 21 = .ok (.isub, 1) := by decide +kernel
theorem dX2_isNear_22 : decode cX2_isNear 22 = .ok (.iload_n 2, 1) := by decide +kernel
theorem dX2_isNear_23 : decode cX2_isNear 23 = .ok (.if_icmp .gt 7, 3) := by decide +kernel
theorem dX2_isNear_26 : decode cX2_isNear 26 = .ok (.iconst 1, 1) := by decide +kernel
theorem dX2_isNear_27 : decode cX2_isNear 27 = .ok (.goto 4, 3) := by decide +kernel
theorem dX2_isNear_30 : decode cX2_isNear 30 = .ok (.iconst 0, 1) := by decide +kernel
theorem dX2_isNear_31 : decode cX2_isNear 31 = .ok (.ireturn, 1) := by decide +kernel
theorem dX2_isNear_32 : decode cX2_isNear 32 = .ok (.iload_n 1, 1) := by decide +kernel
theorem dX2_isNear_33 : decode cX2_isNear 33 = .ok (.aload_n 0, 1) := by decide +kernel
theorem dX2_isNear_34 : decode cX2_isNear 34 = .ok (.getfield 14, 3) := by decide +kernel
theorem dX2_isNear_37 : decode cX2_isNear 37 = .ok (.isub, 1) := by decide +kernel
theorem dX2_isNear_38 : decode cX2_isNear 38 = .ok (.aload_n 0, 1) := by decide +kernel
theorem dX2_isNear_39 : decode cX2_isNear 39 = .ok (.getfield 8, 3) := by decide +kernel
theorem dX2_isNear_42 : decode cX2_isNear 42 = .ok (.irem, 1) := by decide +kernel
theorem dX2_isNear_43 : decode cX2_isNear 43 = .ok (.istore_n 3, 1) := by decide +kernel
theorem dX2_isNear_44 : decode cX2_isNear 44 = .ok (.iload_n 3, 1) := by decide +kernel
theorem dX2_isNear_45 : decode cX2_isNear 45 = .ok (.iload_n 2, 1) := by decide +kernel
theorem dX2_isNear_46 : decode cX2_isNear 46 = .ok (.if_icmp .le 13, 3) := by decide +kernel
theorem dX2_isNear_49 : decode cX2_isNear 49 = .ok (.aload_n 0, 1) := by decide +kernel
theorem dX2_isNear_50 : decode cX2_isNear 50 = .ok (.getfield 8, 3) := by decide +kernel
theorem dX2_isNear_53 : decode cX2_isNear 53 = .ok (.iload_n 3, 1) := by decide +kernel
theorem dX2_isNear_54 : decode cX2_isNear 54 = .ok (.isub, 1) := by decide +kernel
theorem dX2_isNear_55 : decode cX2_isNear 55 = .ok (.iload_n 2, 1) := by decide +kernel
theorem dX2_isNear_56 : decode cX2_isNear 56 = .ok (.if_icmp .gt 7, 3) := by decide +kernel
theorem dX2_isNear_59 : decode cX2_isNear 59 = .ok (.iconst 1, 1) := by decide +kernel
theorem dX2_isNear_60 : decode cX2_isNear 60 = .ok (.goto 4, 3) := by decide +kernel
theorem dX2_isNear_63 : decode cX2_isNear 63 = .ok (.iconst 0, 1) := by decide +kernel
theorem dX2_isNear_64 : decode cX2_isNear 64 = .ok (.ireturn, 1) := by decide +kernel
theorem dX3_init_0 : decode cX3_init 0 = .ok (.aload_n 0, 1) := by decide +kernel
theorem dX3_init_1 : decode cX3_init 1 = .ok (.invokespecial 3, 3) := by decide +kernel
theorem dX3_init_4 : decode cX3_init 4 = .ok (.aload_n 0, 1) := by decide +kernel
theorem dX3_init_5 : decode cX3_init 5 = .ok (.bipush 8, 2) := by decide +kernel
theorem dX3_init_7 : decode cX3_init 7 = .ok (.newarray .int, 2) := by decide +kernel
theorem dX3_init_9 : decode cX3_init 9 = .ok (.putfield 9, 3) := by decide +kernel
theorem dX3_init_12 : decode cX3_init 12 = .ok (.aload_n 0, 1) := by decide +kernel
theorem dX3_init_13 : decode cX3_init 13 = .ok (.iload_n 1, 1) := by decide +kernel
theorem dX3_init_14 : decode cX3_init 14 = .ok (.putfield 15, 3) := by decide +kernel
theorem dX3_init_17 : decode cX3_init 17 = .ok (.return_, 1) := by decide +kernel
theorem dX3_addDay_0 : decode cX3_addDay 0 = .ok (.aload_n 0, 1) := by decide +kernel
theorem dX3_addDay_1 : decode cX3_addDay 1 = .ok (.getfield 19, 3) := by decide +kernel
theorem dX3_addDay_4 : decode cX3_addDay 4 = .ok (.ifCond .lt 35, 3) := by decide +kernel
theorem dX3_addDay_7 : decode cX3_addDay 7 = .ok (.aload_n 0, 1) := by decide +kernel
theorem dX3_addDay_8 : decode cX3_addDay 8 = .ok (.getfield 19, 3) := by decide +kernel
theorem dX3_addDay_11 : decode cX3_addDay 11 = .ok (.aload_n 0, 1) := by decide +kernel
theorem dX3_addDay_12 : decode cX3_addDay 12 = .ok (.getfield 9, 3) := by decide +kernel
theorem dX3_addDay_15 : decode cX3_addDay 15 = .ok (.arraylength, 1) := by decide +kernel
theorem dX3_addDay_16 : decode cX3_addDay 16 = .ok (.if_icmp .ge 23, 3) := by decide +kernel
theorem dX3_addDay_19 : decode cX3_addDay 19 = .ok (.aload_n 0, 1) := by decide +kernel
theorem dX3_addDay_20 : decode cX3_addDay 20 = .ok (.getfield 9, 3) := by decide +kernel
theorem dX3_addDay_23 : decode cX3_addDay 23 = .ok (.aload_n 0, 1) := by decide +kernel
theorem dX3_addDay_24 : decode cX3_addDay 24 = .ok (.getfield 19, 3) := by decide +kernel
theorem dX3_addDay_27 : decode cX3_addDay 27 = .ok (.iload_n 1, 1) := by decide +kernel
theorem dX3_addDay_28 : decode cX3_addDay 28 = .ok (.iastore, 1) := by decide +kernel
theorem dX3_addDay_29 : decode cX3_addDay 29 = .ok (.aload_n 0, 1) := by decide +kernel
theorem dX3_addDay_30 : decode cX3_addDay 30 = .ok (.dup, 1) := by decide +kernel
theorem dX3_addDay_31 : decode cX3_addDay 31 = .ok (.getfield 19, 3) := by decide +kernel
theorem dX3_addDay_34 : decode cX3_addDay 34 = .ok (.iconst 1, 1) := by decide +kernel
theorem dX3_addDay_35 : decode cX3_addDay 35 = .ok (.iadd, 1) := by decide +kernel
theorem dX3_addDay_36 : decode cX3_addDay 36 = .ok (.putfield 19, 3) := by decide +kernel
theorem dX3_addDay_39 : decode cX3_addDay 39 = .ok (.return_, 1) := by decide +kernel
theorem dX3_dayAt_0 : decode cX3_dayAt 0 = .ok (.iload_n 1, 1) := by decide +kernel
theorem dX3_dayAt_1 : decode cX3_dayAt 1 = .ok (.ifCond .lt 12, 3) := by decide +kernel
theorem dX3_dayAt_4 : decode cX3_dayAt 4 = .ok (.iload_n 1, 1) := by decide +kernel
theorem dX3_dayAt_5 : decode cX3_dayAt 5 = .ok (.aload_n 0, 1) := by decide +kernel
theorem dX3_dayAt_6 : decode cX3_dayAt 6 = .ok (.getfield 9, 3) := by decide +kernel
theorem dX3_dayAt_9 : decode cX3_dayAt 9 = .ok (.arraylength, 1) := by decide +kernel
theorem dX3_dayAt_10 : decode cX3_dayAt 10 = .ok (.if_icmp .lt 7, 3) := by decide +kernel
theorem dX3_dayAt_13 : decode cX3_dayAt 13 = .ok (.iconst 0, 1) := by decide +kernel
theorem dX3_dayAt_14 : decode cX3_dayAt 14 = .ok (.goto 9, 3) := by decide +kernel
theorem dX3_dayAt_17 : decode cX3_dayAt 17 = .ok (.aload_n 0, 1) := by decide +kernel
theorem dX3_dayAt_18 : decode cX3_dayAt 18 = .ok (.getfield 9, 3) := by decide +kernel
theorem dX3_dayAt_21 : decode cX3_dayAt 21 = .ok (.iload_n 1, 1) := by decide +kernel
theorem dX3_dayAt_22 : decode cX3_dayAt 22 = .ok (.iaload, 1) := by decide +kernel
theorem dX3_dayAt_23 : decode cX3_dayAt 23 = .ok (.ireturn, 1) := by decide +kernel
theorem dX4_init_0 : decode cX4_init 0 = .ok (.aload_n 0, 1) := by decide +kernel
theorem dX4_init_1 : decode cX4_init 1 = .ok (.invokespecial 3, 3) := by decide +kernel
theorem dX4_init_4 : decode cX4_init 4 = .ok (.aload_n 0, 1) := by decide +kernel
theorem dX4_init_5 : decode cX4_init 5 = .ok (.iconst 4, 1) := by decide +kernel
theorem dX4_init_6 : decode cX4_init 6 = .ok (.putfield 9, 3) := by decide +kernel
theorem dX4_init_9 : decode cX4_init 9 = .ok (.aload_n 0, 1) := by decide +kernel
theorem dX4_init_10 : decode cX4_init 10 = .ok (.iconst 1, 1) := by decide +kernel
theorem dX4_init_11 : decode cX4_init 11 = .ok (.putfield 15, 3) := by decide +kernel
theorem dX4_init_14 : decode cX4_init 14 = .ok (.return_, 1) := by decide +kernel
theorem dX4_hasLeapDay_0 : decode cX4_hasLeapDay 0 = .ok (.aload_n 0, 1) := by decide +kernel
theorem dX4_hasLeapDay_1 : decode cX4_hasLeapDay 1 = .ok (.getfield 9, 3) := by decide +kernel
theorem dX4_hasLeapDay_4 : decode cX4_hasLeapDay 4 = .ok (.ifCond .le 25, 3) := by decide +kernel
theorem dX4_hasLeapDay_7 : decode cX4_hasLeapDay 7 = .ok (.iload_n 1, 1) := by decide +kernel
theorem dX4_hasLeapDay_8 : decode cX4_hasLeapDay 8 = .ok (.aload_n 0, 1) := by decide +kernel
theorem dX4_hasLeapDay_9 : decode cX4_hasLeapDay 9 = .ok (.getfield 15, 3) := by decide +kernel
theorem dX4_hasLeapDay_12 : decode cX4_hasLeapDay 12 = .ok (.imul, 1) := by decide +kernel
theorem dX4_hasLeapDay_13 : decode cX4_hasLeapDay 13 = .ok (.aload_n 0, 1) := by decide +kernel
theorem dX4_hasLeapDay_14 : decode cX4_hasLeapDay 14 = .ok (.getfield 9, 3) := by decide +kernel
theorem dX4_hasLeapDay_17 : decode cX4_hasLeapDay 17 = .ok (.irem, 1) := by decide +kernel
theorem dX4_hasLeapDay_18 : decode cX4_hasLeapDay 18 = .ok (.aload_n 0, 1) := by decide +kernel
theorem dX4_hasLeapDay_19 : decode cX4_hasLeapDay 19 = .ok (.getfield 15, 3) := by decide +kernel
theorem dX4_hasLeapDay_22 : decode cX4_hasLeapDay 22 = .ok (.if_icmp .ge 7, 3) := by decide +kernel
theorem dX4_hasLeapDay_25 : decode cX4_hasLeapDay 25 = .ok (.iconst 1, 1) := by decide +kernel
theorem dX4_hasLeapDay_26 : decode cX4_hasLeapDay 26 = .ok (.goto 4, 3) := by decide +kernel
theorem dX4_hasLeapDay_29 : decode cX4_hasLeapDay 29 = .ok (.iconst 0, 1) := by decide +kernel
theorem dX4_hasLeapDay_30 : decode cX4_hasLeapDay 30 = .ok (.ireturn, 1) := by decide +kernel
theorem dX4_firstDay_0 : decode cX4_firstDay 0 = .ok (.iload_n 1, 1) := by decide +kernel
theorem dX4_firstDay_1 : decode cX4_firstDay 1 = .ok (.iconst 1, 1) := by decide +kernel
theorem dX4_firstDay_2 : decode cX4_firstDay 2 = .ok (.if_icmp .lt 19, 3) := by decide +kernel
theorem dX4_firstDay_5 : decode cX4_firstDay 5 = .ok (.aload_n 0, 1) := by decide +kernel
theorem dX4_firstDay_6 : decode cX4_firstDay 6 = .ok (.getfield 15, 3) := by decide +kernel
theorem dX4_firstDay_9 : decode cX4_firstDay 9 = .ok (.iconst 1, 1) := by decide +kernel
theorem dX4_firstDay_10 : decode cX4_firstDay 10 = .ok (.if_icmp .lt 11, 3) := by decide +kernel
theorem dX4_firstDay_13 : decode cX4_firstDay 13 = .ok (.aload_n 0, 1) := by decide +kernel
theorem dX4_firstDay_14 : decode cX4_firstDay 14 = .ok (.getfield 9, 3) := by decide +kernel
theorem dX4_firstDay_17 : decode cX4_firstDay 17 = .ok (.iconst 1, 1) := by decide +kernel
theorem dX4_firstDay_18 : decode cX4_firstDay 18 = .ok (.if_icmp .ge 9, 3) := by decide +kernel
theorem dX4_firstDay_21 : decode cX4_firstDay 21 = .ok (.sipush 365, 3) := by decide +kernel
theorem dX4_firstDay_24 : decode cX4_firstDay 24 = .ok (.iload_n 1, 1) := by decide +kernel
theorem dX4_firstDay_25 : decode cX4_firstDay 25 = .ok (.imul, 1) := by decide +kernel
theorem dX4_firstDay_26 : decode cX4_firstDay 26 = .ok (.ireturn, 1) := by decide +kernel
theorem dX4_firstDay_27 : decode cX4_firstDay 27 = .ok (.sipush 365, 3) := by decide +kernel
theorem dX4_firstDay_30 : decode cX4_firstDay 30 = .ok (.iload_n 1, 1) := by decide +kernel
theorem dX4_firstDay_31 : decode cX4_firstDay 31 = .ok (.imul, 1) := by decide +kernel
theorem dX4_firstDay_32 : decode cX4_firstDay 32 = .ok (.iload_n 1, 1) := by decide +kernel
theorem dX4_firstDay_33 : decode cX4_firstDay 33 = .ok (.iconst 1, 1) := by decide +kernel
theorem dX4_firstDay_34 : decode cX4_firstDay 34 = .ok (.isub, 1) := by decide +kernel
theorem dX4_firstDay_35 : decode cX4_firstDay 35 = .ok (.aload_n 0, 1) := by decide +kernel
theorem dX4_firstDay_36 : decode cX4_firstDay 36 = .ok (.getfield 15, 3) := by decide +kernel
theorem dX4_firstDay_39 : decode cX4_firstDay 39 = .ok (.imul, 1) := by decide +kernel
theorem dX4_firstDay_40 : decode cX4_firstDay 40 = .ok (.aload_n 0, 1) := by decide +kernel
theorem dX4_firstDay_41 : decode cX4_firstDay 41 = .ok (.getfield 9, 3) := by decide +kernel
theorem dX4_firstDay_44 : decode cX4_firstDay 44 = .ok (.idiv, 1) := by decide +kernel
theorem dX4_firstDay_45 : decode cX4_firstDay 45 = .ok (.iadd, 1) := by decide +kernel
theorem dX4_firstDay_46 : decode cX4_firstDay 46 = .ok (.iconst 1, 1) := by decide +kernel
theorem dX4_firstDay_47 : decode cX4_firstDay 47 = .ok (.iadd, 1) := by decide +kernel
theorem dX4_firstDay_48 : decode cX4_firstDay 48 = .ok (.ireturn, 1) := by decide +kernel
set_option maxRecDepth 20000 in
theorem ggX4_daysOfMonth_X4_hasLeapDay : GoodIn wsX4_daysOfMonth wsX4_hasLeapDay := goodIn_r _ [5, 6, 7, 8, 9] (by decide +kernel) (by decide +kernel)
set_option maxRecDepth 20000 in
theorem gX4_daysOfMonth_X4_hasLeapDay : GoodIn wsX4_daysOfMonth (wsV RX4 18 RX4 yX4_hasLeapDay wsX4_hasLeapDay) := goodIn_app (goodIn_of _ (by decide +kernel)) ggX4_daysOfMonth_X4_hasLeapDay
theorem dX4_daysOfMonth_0 : decode cX4_daysOfMonth 0 = .ok (.iload_n 2, 1) := by decide +kernel
theorem dX4_daysOfMonth_1 : decode cX4_daysOfMonth 1 = .ok (.bipush 11, 2) := by decide +kernel
theorem dX4_daysOfMonth_3 : decode cX4_daysOfMonth 3 = .ok (.if_icmp .ne 19, 3) := by decide +kernel
theorem dX4_daysOfMonth_6 : decode cX4_daysOfMonth 6 = .ok (.aload_n 0, 1) := by decide +kernel
theorem dX4_daysOfMonth_7 : decode cX4_daysOfMonth 7 = .ok (.iload_n 1, 1) := by decide +kernel
theorem dX4_daysOfMonth_8 : decode cX4_daysOfMonth 8 = .ok (.invokevirtual 18, 3) := by decide +kernel
theorem dX4_daysOfMonth_11 : decode cX4_daysOfMonth 11 = .ok (.ifCond .eq 8, 3) := by decide +kernel
theorem dX4_daysOfMonth_14 : decode cX4_daysOfMonth 14 = .ok (.bipush 31, 2) := by decide +kernel
theorem dX4_daysOfMonth_16 : decode cX4_daysOfMonth 16 = .ok (.goto 5, 3) := by decide +kernel
theorem dX4_daysOfMonth_19 : decode cX4_daysOfMonth 19 = .ok (.bipush 30, 2) := by decide +kernel
theorem dX4_daysOfMonth_21 : decode cX4_daysOfMonth 21 = .ok (.ireturn, 1) := by decide +kernel
theorem dX4_daysOfMonth_22 : decode cX4_daysOfMonth 22 = .ok (.bipush 30, 2) := by decide +kernel
theorem dX4_daysOfMonth_24 : decode cX4_daysOfMonth 24 = .ok (.iload_n 2, 1) := by decide +kernel
theorem dX4_daysOfMonth_25 : decode cX4_daysOfMonth 25 = .ok (.iconst 2, 1) := by decide +kernel
theorem dX4_daysOfMonth_26 : decode cX4_daysOfMonth 26 = .ok (.irem, 1) := by decide +kernel
theorem dX4_daysOfMonth_27 : decode cX4_daysOfMonth 27 = .ok (.iadd, 1) := by decide +kernel
theorem dX4_daysOfMonth_28 : decode cX4_daysOfMonth 28 = .ok (.ireturn, 1) := by decide +kernel
set_option maxRecDepth 20000 in
theorem ggX4_yearOf_X4_firstDay : GoodIn wsX4_yearOf wsX4_firstDay := goodIn_r _ [5, 6, 7, 8, 9] (by decide +kernel) (by decide +kernel)
set_option maxRecDepth 20000 in
theorem gX4_yearOf_X4_firstDay : GoodIn wsX4_yearOf (wsV RX4 22 RX4 yX4_firstDay wsX4_firstDay) := goodIn_app (goodIn_of _ (by decide +kernel)) ggX4_yearOf_X4_firstDay
theorem dX4_yearOf_0 : decode cX4_yearOf 0 = .ok (.iload_n 1, 1) := by decide +kernel
theorem dX4_yearOf_1 : decode cX4_yearOf 1 = .ok (.sipush 366, 3) := by decide +kernel
theorem dX4_yearOf_4 : decode cX4_yearOf 4 = .ok (.idiv, 1) := by decide +kernel
theorem dX4_yearOf_5 : decode cX4_yearOf 5 = .ok (.istore_n 2, 1) := by decide +kernel
theorem dX4_yearOf_6 : decode cX4_yearOf 6 = .ok (.iload_n 2, 1) := by decide +kernel
theorem dX4_yearOf_7 : decode cX4_yearOf 7 = .ok (.sipush 999, 3) := by decide +kernel
theorem dX4_yearOf_10 : decode cX4_yearOf 10 = .ok (.if_icmp .ge 20, 3) := by decide +kernel
theorem dX4_yearOf_13 : decode cX4_yearOf 13 = .ok (.aload_n 0, 1) := by decide +kernel
theorem dX4_yearOf_14 : decode cX4_yearOf 14 = .ok (.iload_n 2, 1) := by decide +kernel
theorem dX4_yearOf_15 : decode cX4_yearOf 15 = .ok (.iconst 1, 1) := by decide +kernel
theorem dX4_yearOf_16 : decode cX4_yearOf 16 = .ok (.iadd, 1) := by decide +kernel
theorem dX4_yearOf_17 : decode cX4_yearOf 17 = .ok (.invokevirtual 22, 3) := by decide +kernel
theorem dX4_yearOf_20 : decode cX4_yearOf 20 = .ok (.iload_n 1, 1) := by decide +kernel
theorem dX4_yearOf_21 : decode cX4_yearOf 21 = .ok (.if_icmp .gt 9, 3) := by decide +kernel
theorem dX4_yearOf_24 : decode cX4_yearOf 24 = .ok (.iinc 2 1, 3) := by decide +kernel
theorem dX4_yearOf_27 : decode cX4_yearOf 27 = .ok (.goto (-21), 3) := by decide +kernel
theorem dX4_yearOf_30 : decode cX4_yearOf 30 = .ok (.iload_n 2, 1) := by decide +kernel
theorem dX4_yearOf_31 : decode cX4_yearOf 31 = .ok (.ireturn, 1) := by decide +kernel
set_option maxRecDepth 20000 in
theorem ggX4_monthOf_X4_yearOf : GoodIn wsX4_monthOf wsX4_yearOf := goodIn_r _ [5, 6, 7, 8, 4, 9, 10, 11, 12, 13] (by decide +kernel) (by decide +kernel)
set_option maxRecDepth 20000 in
theorem gX4_monthOf_X4_yearOf : GoodIn wsX4_monthOf (wsV RX4 26 RX4 yX4_yearOf wsX4_yearOf) := goodIn_app (goodIn_of _ (by decide +kernel)) ggX4_monthOf_X4_yearOf
set_option maxRecDepth 20000 in
theorem ggX4_monthOf_X4_firstDay : GoodIn wsX4_monthOf wsX4_firstDay := goodIn_r _ [9, 10, 11, 12, 13] (by decide +kernel) (by decide +kernel)
set_option maxRecDepth 20000 in
theorem gX4_monthOf_X4_firstDay : GoodIn wsX4_monthOf (wsV RX4 22 RX4 yX4_firstDay wsX4_firstDay) := goodIn_app (goodIn_of _ (by decide +kernel)) ggX4_monthOf_X4_firstDay
theorem dX4_monthOf_0 : decode cX4_monthOf 0 = .ok (.iload_n 1, 1) := by decide +kernel
theorem dX4_monthOf_1 : decode cX4_monthOf 1 = .ok (.aload_n 0, 1) := by decide +kernel
theorem dX4_monthOf_2 : decode cX4_monthOf 2 = .ok (.aload_n 0, 1) := by decide +kernel
theorem dX4_monthOf_3 : decode cX4_monthOf 3 = .ok (.iload_n 1, 1) := by decide +kernel
theorem dX4_monthOf_4 : decode cX4_monthOf 4 = .ok (.invokevirtual 26, 3) := by decide +kernel
theorem dX4_monthOf_7 : decode cX4_monthOf 7 = .ok (.invokevirtual 22, 3) := by decide +kernel
theorem dX4_monthOf_10 : decode cX4_monthOf 10 = .ok (.isub, 1) := by decide +kernel
theorem dX4_monthOf_11 : decode cX4_monthOf 11 = .ok (.istore_n 2, 1) := by decide +kernel
theorem dX4_monthOf_12 : decode cX4_monthOf 12 = .ok (.iload_n 2, 1) := by decide +kernel
theorem dX4_monthOf_13 : decode cX4_monthOf 13 = .ok (.bipush 61, 2) := by decide +kernel
theorem dX4_monthOf_15 : decode cX4_monthOf 15 = .ok (.idiv, 1) := by decide +kernel
theorem dX4_monthOf_16 : decode cX4_monthOf 16 = .ok (.iconst 2, 1) := by decide +kernel
theorem dX4_monthOf_17 : decode cX4_monthOf 17 = .ok (.imul, 1) := by decide +kernel
theorem dX4_monthOf_18 : decode cX4_monthOf 18 = .ok (.iload_n 2, 1) := by decide +kernel
theorem dX4_monthOf_19 : decode cX4_monthOf 19 = .ok (.bipush 61, 2) := by decide +kernel
theorem dX4_monthOf_21 : decode cX4_monthOf 21 = .ok (.irem, 1) := by decide +kernel
theorem dX4_monthOf_22 : decode cX4_monthOf 22 = .ok (.bipush 30, 2) := by decide +kernel
theorem dX4_monthOf_24 : decode cX4_monthOf 24 = .ok (.if_icmp .ge 7, 3) := by decide +kernel
theorem dX4_monthOf_27 : decode cX4_monthOf 27 = .ok (.iconst 0, 1) := by decide +kernel
theorem dX4_monthOf_28 : decode cX4_monthOf 28 = .ok (.goto 4, 3) := by decide +kernel
theorem dX4_monthOf_31 : decode cX4_monthOf 31 = .ok (.iconst 1, 1) := by decide +kernel
theorem dX4_monthOf_32 : decode cX4_monthOf 32 = .ok (.iadd, 1) := by decide +kernel
theorem dX4_monthOf_33 : decode cX4_monthOf 33 = .ok (.ireturn, 1) := by decide +kernel
set_option maxRecDepth 20000 in
theorem ggX4_dayOfMonth_X4_yearOf : GoodIn wsX4_dayOfMonth wsX4_yearOf := goodIn_r _ [5, 6, 7, 8, 4, 9, 10, 11, 12, 13] (by decide +kernel) (by decide +kernel)
set_option maxRecDepth 20000 in
theorem gX4_dayOfMonth_X4_yearOf : GoodIn wsX4_dayOfMonth (wsV RX4 26 RX4 yX4_yearOf wsX4_yearOf) := goodIn_app (goodIn_of _ (by decide +kernel)) ggX4_dayOfMonth_X4_yearOf
set_option maxRecDepth 20000 in
theorem ggX4_dayOfMonth_X4_firstDay : GoodIn wsX4_dayOfMonth wsX4_firstDay := goodIn_r _ [9, 10, 11, 12, 13] (by decide +kernel) (by decide +kernel)
set_option maxRecDepth 20000 in
theorem gX4_dayOfMonth_X4_firstDay : GoodIn wsX4_dayOfMonth (wsV RX4 22 RX4 yX4_firstDay wsX4_firstDay) := goodIn_app (goodIn_of _ (by decide +kernel)) ggX4_dayOfMonth_X4_firstDay
theorem dX4_dayOfMonth_0 : decode cX4_dayOfMonth 0 = .ok (.iload_n 1, 1) := by decide +kernel
theorem dX4_dayOfMonth_1 : decode cX4_dayOfMonth 1 = .ok (.aload_n 0, 1) := by decide +kernel
theorem dX4_dayOfMonth_2 : decode cX4_dayOfMonth 2 = .ok (.aload_n 0, 1) := by decide +kernel
theorem dX4_dayOfMonth_3 : decode cX4_dayOfMonth 3 = .ok (.iload_n 1, 1) := by decide +kernel
theorem dX4_dayOfMonth_4 : decode cX4_dayOfMonth 4 = .ok (.invokevirtual 26, 3) := by decide +kernel
theorem dX4_dayOfMonth_7 : decode cX4_dayOfMonth 7 = .ok (.invokevirtual 22, 3) := by decide +kernel
theorem dX4_dayOfMonth_10 : decode cX4_dayOfMonth 10 = .ok (.isub, 1) := by decide +kernel
theorem dX4_dayOfMonth_11 : decode cX4_dayOfMonth 11 = .ok (.bipush 61, 2) := by decide +kernel
theorem dX4_dayOfMonth_13 : decode cX4_dayOfMonth 13 = .ok (.irem, 1) := by decide +kernel
theorem dX4_dayOfMonth_14 : decode cX4_dayOfMonth 14 = .ok (.istore_n 2, 1) := by decide +kernel
theorem dX4_dayOfMonth_15 : decode cX4_dayOfMonth 15 = .ok (.iload_n 2, 1) := by decide +kernel
theorem dX4_dayOfMonth_16 : decode cX4_dayOfMonth 16 = .ok (.bipush 30, 2) := by decide +kernel
theorem dX4_dayOfMonth_18 : decode cX4_dayOfMonth 18 = .ok (.if_icmp .ge 7, 3) := by decide +kernel
theorem dX4_dayOfMonth_21 : decode cX4_dayOfMonth 21 = .ok (.iload_n 2, 1) := by decide +kernel
theorem dX4_dayOfMonth_22 : decode cX4_dayOfMonth 22 = .ok (.goto 7, 3) := by decide +kernel
theorem dX4_dayOfMonth_25 : decode cX4_dayOfMonth 25 = .ok (.iload_n 2, 1) := by decide +kernel
theorem dX4_dayOfMonth_26 : decode cX4_dayOfMonth 26 = .ok (.bipush 30, 2) := by decide +kernel
theorem dX4_dayOfMonth_28 : decode cX4_dayOfMonth 28 = .ok (.isub, 1) := by decide +kernel
theorem dX4_dayOfMonth_29 : decode cX4_dayOfMonth 29 = .ok (.ireturn, 1) := by decide +kernel
set_option maxRecDepth 20000 in
theorem ggX5_init_X4_init : GoodIn wsX5_init wsX4_init := goodIn_r _ [22, 23, 2, 3, 24, 25, 52, 53] (by decide +kernel) (by decide +kernel)
set_option maxRecDepth 20000 in
theorem gX5_init_X4_init_n9 : GoodIn wsX5_init (wsX4_init) := ggX5_init_X4_init
set_option maxRecDepth 20000 in
theorem ggX5_init_X1_init : GoodIn wsX5_init wsX1_init := goodIn_r _ [27, 28, 2, 3, 29, 30, 61, 62] (by decide +kernel) (by decide +kernel)
set_option maxRecDepth 20000 in
theorem gX5_init_X1_init_n18 : GoodIn wsX5_init (wsX1_init) := ggX5_init_X1_init
set_option maxRecDepth 20000 in
theorem ggX5_init_X2_init : GoodIn wsX5_init wsX2_init := goodIn_r _ [32, 33, 2, 3, 34, 35, 36, 63, 64] (by decide +kernel) (by decide +kernel)
set_option maxRecDepth 20000 in
theorem gX5_init_X2_init_n25 : GoodIn wsX5_init (wsX2_init) := ggX5_init_X2_init
set_option maxRecDepth 20000 in
theorem ggX5_init_Jx4a65c_init_da8c8 : GoodIn wsX5_init wsJx4a65c_init_da8c8 := goodIn_r _ [39, 40, 41, 42, 43, 44, 45, 46, 47, 48, 49, 50, 51, 2, 3, 65, 66, 67] (by decide +kernel) (by decide +kernel)
set_option maxRecDepth 20000 in
theorem gX5_init_Jx4a65c_init_da8c8 : GoodIn wsX5_init (wsJx4a65c_init_da8c8) := ggX5_init_Jx4a65c_init_da8c8
theorem dX5_init_0 : decode cX5_init 0 = .ok (.aload_n 0, 1) := by decide +kernel
theorem dX5_init_1 : decode cX5_init 1 = .ok (.invokespecial 1, 3) := by decide +kernel
theorem dX5_init_4 : decode cX5_init 4 = .ok (.aload_n 0, 1) := by decide +kernel
theorem dX5_init_5 : decode cX5_init 5 = .ok (.new 7, 3) := by decide +kernel
theorem dX5_init_8 : decode cX5_init 8 = .ok (.dup, 1) := by decide +kernel
theorem dX5_init_9 : decode cX5_init 9 = .ok (.invokespecial 9, 3) := by decide +kernel
theorem dX5_init_12 : decode cX5_init 12 = .ok (.putfield 10, 3) := by decide +kernel
theorem dX5_init_15 : decode cX5_init 15 = .ok (.aload_n 0, 1) := by decide +kernel
theorem dX5_init_16 : decode cX5_init 16 = .ok (.new 16, 3) := by decide +kernel
theorem dX5_init_19 : decode cX5_init 19 = .ok (.dup, 1) := by decide +kernel
theorem dX5_init_20 : decode cX5_init 20 = .ok (.invokespecial 18, 3) := by decide +kernel
theorem dX5_init_23 : decode cX5_init 23 = .ok (.putfield 19, 3) := by decide +kernel
theorem dX5_init_26 : decode cX5_init 26 = .ok (.aload_n 0, 1) := by decide +kernel
theorem dX5_init_27 : decode cX5_init 27 = .ok (.new 23, 3) := by decide +kernel
theorem dX5_init_30 : decode cX5_init 30 = .ok (.dup, 1) := by decide +kernel
theorem dX5_init_31 : decode cX5_init 31 = .ok (.invokespecial 25, 3) := by decide +kernel
theorem dX5_init_34 : decode cX5_init 34 = .ok (.putfield 26, 3) := by decide +kernel
theorem dX5_init_37 : decode cX5_init 37 = .ok (.aload_n 0, 1) := by decide +kernel
theorem dX5_init_38 : decode cX5_init 38 = .ok (.new 30, 3) := by decide +kernel
theorem dX5_init_41 : decode cX5_init 41 = .ok (.dup, 1) := by decide +kernel
theorem dX5_init_42 : decode cX5_init 42 = .ok (.invokespecial 32, 3) := by decide +kernel
theorem dX5_init_45 : decode cX5_init 45 = .ok (.putfield 33, 3) := by decide +kernel
theorem dX5_init_48 : decode cX5_init 48 = .ok (.aload_n 0, 1) := by decide +kernel
theorem dX5_init_49 : decode cX5_init 49 = .ok (.new 30, 3) := by decide +kernel
theorem dX5_init_52 : decode cX5_init 52 = .ok (.dup, 1) := by decide +kernel
theorem dX5_init_53 : decode cX5_init 53 = .ok (.invokespecial 32, 3) := by decide +kernel
theorem dX5_init_56 : decode cX5_init 56 = .ok (.putfield 37, 3) := by decide +kernel
theorem dX5_init_59 : decode cX5_init 59 = .ok (.return_, 1) := by decide +kernel
theorem dX5_setLeaps_0 : decode cX5_setLeaps 0 = .ok (.iload_n 1, 1) := by decide +kernel
theorem dX5_setLeaps_1 : decode cX5_setLeaps 1 = .ok (.iconst 1, 1) := by decide +kernel
theorem dX5_setLeaps_2 : decode cX5_setLeaps 2 = .ok (.if_icmp .lt 19, 3) := by decide +kernel
theorem dX5_setLeaps_5 : decode cX5_setLeaps 5 = .ok (.iload_n 1, 1) := by decide +kernel
theorem dX5_setLeaps_6 : decode cX5_setLeaps 6 = .ok (.sipush 400, 3) := by decide +kernel
theorem dX5_setLeaps_9 : decode cX5_setLeaps 9 = .ok (.if_icmp .gt 12, 3) := by decide +kernel
theorem dX5_setLeaps_12 : decode cX5_setLeaps 12 = .ok (.iload_n 2, 1) := by decide +kernel
theorem dX5_setLeaps_13 : decode cX5_setLeaps 13 = .ok (.ifCond .lt 8, 3) := by decide +kernel
theorem dX5_setLeaps_16 : decode cX5_setLeaps 16 = .ok (.iload_n 2, 1) := by decide +kernel
theorem dX5_setLeaps_17 : decode cX5_setLeaps 17 = .ok (.iload_n 1, 1) := by decide +kernel
theorem dX5_setLeaps_18 : decode cX5_setLeaps 18 = .ok (.if_icmp .le 13, 3) := by decide +kernel
theorem dX5_setLeaps_21 : decode cX5_setLeaps 21 = .ok (.new 40, 3) := by decide +kernel
theorem dX5_setLeaps_24 : decode cX5_setLeaps 24 = .ok (.dup, 1) := by decide +kernel
theorem dX5_setLeaps_25 : decode cX5_setLeaps 25 = .ok (.ldc 42, 2) := by decide +kernel
theorem dX5_setLeaps_27 : decode cX5_setLeaps 27 = .ok (.invokespecial 44, 3) := by decide +kernel
theorem dX5_setLeaps_30 : decode cX5_setLeaps 30 = .ok (.athrow, 1) := by decide +kernel
theorem dX5_setLeaps_31 : decode cX5_setLeaps 31 = .ok (.sipush 1000, 3) := by decide +kernel
theorem dX5_setLeaps_34 : decode cX5_setLeaps 34 = .ok (.aload_n 0, 1) := by decide +kernel
theorem dX5_setLeaps_35 : decode cX5_setLeaps 35 = .ok (.getfield 10, 3) := by decide +kernel
theorem dX5_setLeaps_38 : decode cX5_setLeaps 38 = .ok (.getfield 47, 3) := by decide +kernel
theorem dX5_setLeaps_41 : decode cX5_setLeaps 41 = .ok (.imul, 1) := by decide +kernel
theorem dX5_setLeaps_42 : decode cX5_setLeaps 42 = .ok (.aload_n 0, 1) := by decide +kernel
theorem dX5_setLeaps_43 : decode cX5_setLeaps 43 = .ok (.getfield 10, 3) := by decide +kernel
theorem dX5_setLeaps_46 : decode cX5_setLeaps 46 = .ok (.getfield 51, 3) := by decide +kernel
theorem dX5_setLeaps_49 : decode cX5_setLeaps 49 = .ok (.iadd, 1) := by decide +kernel
theorem dX5_setLeaps_50 : decode cX5_setLeaps 50 = .ok (.istore_n 3, 1) := by decide +kernel
theorem dX5_setLeaps_51 : decode cX5_setLeaps 51 = .ok (.aload_n 0, 1) := by decide +kernel
theorem dX5_setLeaps_52 : decode cX5_setLeaps 52 = .ok (.getfield 10, 3) := by decide +kernel
theorem dX5_setLeaps_55 : decode cX5_setLeaps 55 = .ok (.iload_n 1, 1) := by decide +kernel
theorem dX5_setLeaps_56 : decode cX5_setLeaps 56 = .ok (.putfield 47, 3) := by decide +kernel
theorem dX5_setLeaps_59 : decode cX5_setLeaps 59 = .ok (.aload_n 0, 1) := by decide +kernel
theorem dX5_setLeaps_60 : decode cX5_setLeaps 60 = .ok (.getfield 10, 3) := by decide +kernel
theorem dX5_setLeaps_63 : decode cX5_setLeaps 63 = .ok (.iload_n 2, 1) := by decide +kernel
theorem dX5_setLeaps_64 : decode cX5_setLeaps 64 = .ok (.putfield 51, 3) := by decide +kernel
theorem dX5_setLeaps_67 : decode cX5_setLeaps 67 = .ok (.iload_n 3, 1) := by decide +kernel
theorem dX5_setLeaps_68 : decode cX5_setLeaps 68 = .ok (.ireturn, 1) := by decide +kernel
theorem dX5_setMoon_0 : decode cX5_setMoon 0 = .ok (.iload_n 1, 1) := by decide +kernel
theorem dX5_setMoon_1 : decode cX5_setMoon 1 = .ok (.sipush 20000, 3) := by decide +kernel
theorem dX5_setMoon_4 : decode cX5_setMoon 4 = .ok (.if_icmp .lt 19, 3) := by decide +kernel
theorem dX5_setMoon_7 : decode cX5_setMoon 7 = .ok (.iload_n 1, 1) := by decide +kernel
theorem dX5_setMoon_8 : decode cX5_setMoon 8 = .ok (.ldc 54, 2) := by decide +kernel
theorem dX5_setMoon_10 : decode cX5_setMoon 10 = .ok (.if_icmp .gt 13, 3) := by decide +kernel
theorem dX5_setMoon_13 : decode cX5_setMoon 13 = .ok (.iload_n 2, 1) := by decide +kernel
theorem dX5_setMoon_14 : decode cX5_setMoon 14 = .ok (.ifCond .lt 9, 3) := by decide +kernel
theorem dX5_setMoon_17 : decode cX5_setMoon 17 = .ok (.iload_n 2, 1) := by decide +kernel
theorem dX5_setMoon_18 : decode cX5_setMoon 18 = .ok (.ldc 55, 2) := by decide +kernel
theorem dX5_setMoon_20 : decode cX5_setMoon 20 = .ok (.if_icmp .le 13, 3) := by decide +kernel
theorem dX5_setMoon_23 : decode cX5_setMoon 23 = .ok (.new 40, 3) := by decide +kernel
theorem dX5_setMoon_26 : decode cX5_setMoon 26 = .ok (.dup, 1) := by decide +kernel
theorem dX5_setMoon_27 : decode cX5_setMoon 27 = .ok (.ldc 56, 2) := by decide +kernel
theorem dX5_setMoon_29 : decode cX5_setMoon 29 = .ok (.invokespecial 44, 3) := by decide +kernel
theorem dX5_setMoon_32 : decode cX5_setMoon 32 = .ok (.athrow, 1) := by decide +kernel
theorem dX5_setMoon_33 : decode cX5_setMoon 33 = .ok (.aload_n 0, 1) := by decide +kernel
theorem dX5_setMoon_34 : decode cX5_setMoon 34 = .ok (.getfield 19, 3) := by decide +kernel
theorem dX5_setMoon_37 : decode cX5_setMoon 37 = .ok (.getfield 58, 3) := by decide +kernel
theorem dX5_setMoon_40 : decode cX5_setMoon 40 = .ok (.istore_n 3, 1) := by decide +kernel
theorem dX5_setMoon_41 : decode cX5_setMoon 41 = .ok (.aload_n 0, 1) := by decide +kernel
theorem dX5_setMoon_42 : decode cX5_setMoon 42 = .ok (.getfield 19, 3) := by decide +kernel
theorem dX5_setMoon_45 : decode cX5_setMoon 45 = .ok (.iload_n 1, 1) := by decide +kernel
theorem dX5_setMoon_46 : decode cX5_setMoon 46 = .ok (.putfield 58, 3) := by decide +kernel
theorem dX5_setMoon_49 : decode cX5_setMoon 49 = .ok (.aload_n 0, 1) := by decide +kernel
theorem dX5_setMoon_50 : decode cX5_setMoon 50 = .ok (.getfield 19, 3) := by decide +kernel
theorem dX5_setMoon_53 : decode cX5_setMoon 53 = .ok (.iload_n 2, 1) := by decide +kernel
theorem dX5_setMoon_54 : decode cX5_setMoon 54 = .ok (.putfield 61, 3) := by decide +kernel
theorem dX5_setMoon_57 : decode cX5_setMoon 57 = .ok (.iload_n 3, 1) := by decide +kernel
theorem dX5_setMoon_58 : decode cX5_setMoon 58 = .ok (.ireturn, 1) := by decide +kernel
theorem dX5_setNodes_0 : decode cX5_setNodes 0 = .ok (.iload_n 1, 1) := by decide +kernel
theorem dX5_setNodes_1 : decode cX5_setNodes 1 = .ok (.ldc 64, 2) := by decide +kernel
theorem dX5_setNodes_3 : decode cX5_setNodes 3 = .ok (.if_icmp .lt 19, 3) := by decide +kernel
theorem dX5_setNodes_6 : decode cX5_setNodes 6 = .ok (.iload_n 1, 1) := by decide +kernel
theorem dX5_setNodes_7 : decode cX5_setNodes 7 = .ok (.ldc 65, 2) := by decide +kernel
theorem dX5_setNodes_9 : decode cX5_setNodes 9 = .ok (.if_icmp .gt 13, 3) := by decide +kernel
theorem dX5_setNodes_12 : decode cX5_setNodes 12 = .ok (.iload_n 2, 1) := by decide +kernel
theorem dX5_setNodes_13 : decode cX5_setNodes 13 = .ok (.ifCond .lt 9, 3) := by decide +kernel
theorem dX5_setNodes_16 : decode cX5_setNodes 16 = .ok (.iload_n 2, 1) := by decide +kernel
theorem dX5_setNodes_17 : decode cX5_setNodes 17 = .ok (.ldc 66, 2) := by decide +kernel
theorem dX5_setNodes_19 : decode cX5_setNodes 19 = .ok (.if_icmp .le 13, 3) := by decide +kernel
theorem dX5_setNodes_22 : decode cX5_setNodes 22 = .ok (.new 40, 3) := by decide +kernel
theorem dX5_setNodes_25 : decode cX5_setNodes 25 = .ok (.dup, 1) := by decide +kernel
theorem dX5_setNodes_26 : decode cX5_setNodes 26 = .ok (.ldc 67, 2) := by decide +kernel
theorem dX5_setNodes_28 : decode cX5_setNodes 28 = .ok (.invokespecial 44, 3) := by decide +kernel
theorem dX5_setNodes_31 : decode cX5_setNodes 31 = .ok (.athrow, 1) := by decide +kernel
theorem dX5_setNodes_32 : decode cX5_setNodes 32 = .ok (.aload_n 0, 1) := by decide +kernel
theorem dX5_setNodes_33 : decode cX5_setNodes 33 = .ok (.getfield 26, 3) := by decide +kernel
theorem dX5_setNodes_36 : decode cX5_setNodes 36 = .ok (.getfield 69, 3) := by decide +kernel
theorem dX5_setNodes_39 : decode cX5_setNodes 39 = .ok (.istore_n 3, 1) := by decide +kernel
theorem dX5_setNodes_40 : decode cX5_setNodes 40 = .ok (.aload_n 0, 1) := by decide +kernel
theorem dX5_setNodes_41 : decode cX5_setNodes 41 = .ok (.getfield 26, 3) := by decide +kernel
theorem dX5_setNodes_44 : decode cX5_setNodes 44 = .ok (.iload_n 1, 1) := by decide +kernel
theorem dX5_setNodes_45 : decode cX5_setNodes 45 = .ok (.putfield 69, 3) := by decide +kernel
theorem dX5_setNodes_48 : decode cX5_setNodes 48 = .ok (.aload_n 0, 1) := by decide +kernel
theorem dX5_setNodes_49 : decode cX5_setNodes 49 = .ok (.getfield 26, 3) := by decide +kernel
theorem dX5_setNodes_52 : decode cX5_setNodes 52 = .ok (.iload_n 2, 1) := by decide +kernel
theorem dX5_setNodes_53 : decode cX5_setNodes 53 = .ok (.putfield 72, 3) := by decide +kernel
theorem dX5_setNodes_56 : decode cX5_setNodes 56 = .ok (.iload_n 3, 1) := by decide +kernel
theorem dX5_setNodes_57 : decode cX5_setNodes 57 = .ok (.ireturn, 1) := by decide +kernel
set_option maxRecDepth 20000 in
theorem ggX5_leap_X5_isYear : GoodIn wsX5_leap wsX5_isYear := goodIn_r _ [7] (by decide +kernel) (by decide +kernel)
set_option maxRecDepth 20000 in
theorem gX5_leap_X5_isYear : GoodIn wsX5_leap (va_wsS RX5 75 yX5_isYear wsX5_isYear) := goodIn_app (goodIn_of _ (by decide +kernel)) ggX5_leap_X5_isYear
set_option maxRecDepth 20000 in
theorem ggX5_leap_X4_hasLeapDay : GoodIn wsX5_leap wsX4_hasLeapDay := goodIn_r _ [12, 13, 14, 22, 23] (by decide +kernel) (by decide +kernel)
set_option maxRecDepth 20000 in
theorem gX5_leap_X4_hasLeapDay : GoodIn wsX5_leap (wsV RX5 81 RX4 yX4_hasLeapDay wsX4_hasLeapDay) := goodIn_app (goodIn_of _ (by decide +kernel)) ggX5_leap_X4_hasLeapDay
theorem dX5_leap_0 : decode cX5_leap 0 = .ok (.iload_n 1, 1) := by decide +kernel
theorem dX5_leap_1 : decode cX5_leap 1 = .ok (.invokestatic 75, 3) := by decide +kernel
theorem dX5_leap_4 : decode cX5_leap 4 = .ok (.ifCond .ne 13, 3) := by decide +kernel
theorem dX5_leap_7 : decode cX5_leap 7 = .ok (.new 40, 3) := by decide +kernel
theorem dX5_leap_10 : decode cX5_leap 10 = .ok (.dup, 1) := by decide +kernel
theorem dX5_leap_11 : decode cX5_leap 11 = .ok (.ldc 79, 2) := by decide +kernel
theorem dX5_leap_13 : decode cX5_leap 13 = .ok (.invokespecial 44, 3) := by decide +kernel
theorem dX5_leap_16 : decode cX5_leap 16 = .ok (.athrow, 1) := by decide +kernel
theorem dX5_leap_17 : decode cX5_leap 17 = .ok (.aload_n 0, 1) := by decide +kernel
theorem dX5_leap_18 : decode cX5_leap 18 = .ok (.getfield 10, 3) := by decide +kernel
theorem dX5_leap_21 : decode cX5_leap 21 = .ok (.iload_n 1, 1) := by decide +kernel
theorem dX5_leap_22 : decode cX5_leap 22 = .ok (.invokevirtual 81, 3) := by decide +kernel
theorem dX5_leap_25 : decode cX5_leap 25 = .ok (.ireturn, 1) := by decide +kernel
set_option maxRecDepth 20000 in
theorem ggX5_day_X5_isYear : GoodIn wsX5_day wsX5_isYear := goodIn_r _ [7] (by decide +kernel) (by decide +kernel)
set_option maxRecDepth 20000 in
theorem gX5_day_X5_isYear : GoodIn wsX5_day (va_wsS RX5 75 yX5_isYear wsX5_isYear) := goodIn_app (goodIn_of _ (by decide +kernel)) ggX5_day_X5_isYear
set_option maxRecDepth 20000 in
theorem ggX5_day_X4_daysOfMonth : GoodIn wsX5_day wsX4_daysOfMonth := goodIn_r _ [12, 13, 14, 15, 11, 16, 17, 18, 33, 34] (by decide +kernel) (by decide +kernel)
set_option maxRecDepth 20000 in
theorem gX5_day_X4_daysOfMonth : GoodIn wsX5_day (wsV RX5 86 RX4 yX4_daysOfMonth wsX4_daysOfMonth) := goodIn_app (goodIn_of _ (by decide +kernel)) ggX5_day_X4_daysOfMonth
set_option maxRecDepth 20000 in
theorem ggX5_day_X4_firstDay : GoodIn wsX5_day wsX4_firstDay := goodIn_r _ [22, 18, 17, 33, 34] (by decide +kernel) (by decide +kernel)
set_option maxRecDepth 20000 in
theorem gX5_day_X4_firstDay : GoodIn wsX5_day (wsV RX5 92 RX4 yX4_firstDay wsX4_firstDay) := goodIn_app (goodIn_of _ (by decide +kernel)) ggX5_day_X4_firstDay
set_option maxRecDepth 20000 in
theorem ggX5_day_X5_inYear : GoodIn wsX5_day wsX5_inYear := goodIn_r _ [25] (by decide +kernel) (by decide +kernel)
set_option maxRecDepth 20000 in
theorem gX5_day_X5_inYear : GoodIn wsX5_day (va_wsS RX5 96 yX5_inYear wsX5_inYear) := goodIn_app (goodIn_of _ (by decide +kernel)) ggX5_day_X5_inYear
theorem dX5_day_0 : decode cX5_day 0 = .ok (.iload_n 1, 1) := by decide +kernel
theorem dX5_day_1 : decode cX5_day 1 = .ok (.invokestatic 75, 3) := by decide +kernel
theorem dX5_day_4 : decode cX5_day 4 = .ok (.ifCond .eq 13, 3) := by decide +kernel
theorem dX5_day_7 : decode cX5_day 7 = .ok (.iload_n 2, 1) := by decide +kernel
theorem dX5_day_8 : decode cX5_day 8 = .ok (.ifCond .lt 9, 3) := by decide +kernel
theorem dX5_day_11 : decode cX5_day 11 = .ok (.iload_n 2, 1) := by decide +kernel
theorem dX5_day_12 : decode cX5_day 12 = .ok (.bipush 12, 2) := by decide +kernel
theorem dX5_day_14 : decode cX5_day 14 = .ok (.if_icmp .lt 13, 3) := by decide +kernel
theorem dX5_day_17 : decode cX5_day 17 = .ok (.new 40, 3) := by decide +kernel
theorem dX5_day_20 : decode cX5_day 20 = .ok (.dup, 1) := by decide +kernel
theorem dX5_day_21 : decode cX5_day 21 = .ok (.ldc 84, 2) := by decide +kernel
theorem dX5_day_23 : decode cX5_day 23 = .ok (.invokespecial 44, 3) := by decide +kernel
theorem dX5_day_26 : decode cX5_day 26 = .ok (.athrow, 1) := by decide +kernel
theorem dX5_day_27 : decode cX5_day 27 = .ok (.iload_n 3, 1) := by decide +kernel
theorem dX5_day_28 : decode cX5_day 28 = .ok (.ifCond .lt 16, 3) := by decide +kernel
theorem dX5_day_31 : decode cX5_day 31 = .ok (.iload_n 3, 1) := by decide +kernel
theorem dX5_day_32 : decode cX5_day 32 = .ok (.aload_n 0, 1) := by decide +kernel
theorem dX5_day_33 : decode cX5_day 33 = .ok (.getfield 10, 3) := by decide +kernel
theorem dX5_day_36 : decode cX5_day 36 = .ok (.iload_n 1, 1) := by decide +kernel
theorem dX5_day_37 : decode cX5_day 37 = .ok (.iload_n 2, 1) := by decide +kernel
theorem dX5_day_38 : decode cX5_day 38 = .ok (.invokevirtual 86, 3) := by decide +kernel
theorem dX5_day_41 : decode cX5_day 41 = .ok (.if_icmp .lt 13, 3) := by decide +kernel
theorem dX5_day_44 : decode cX5_day 44 = .ok (.new 40, 3) := by decide +kernel
theorem dX5_day_47 : decode cX5_day 47 = .ok (.dup, 1) := by decide +kernel
theorem dX5_day_48 : decode cX5_day 48 = .ok (.ldc 90, 2) := by decide +kernel
theorem dX5_day_50 : decode cX5_day 50 = .ok (.invokespecial 44, 3) := by decide +kernel
theorem dX5_day_53 : decode cX5_day 53 = .ok (.athrow, 1) := by decide +kernel
theorem dX5_day_54 : decode cX5_day 54 = .ok (.aload_n 0, 1) := by decide +kernel
theorem dX5_day_55 : decode cX5_day 55 = .ok (.getfield 10, 3) := by decide +kernel
theorem dX5_day_58 : decode cX5_day 58 = .ok (.iload_n 1, 1) := by decide +kernel
theorem dX5_day_59 : decode cX5_day 59 = .ok (.invokevirtual 92, 3) := by decide +kernel
theorem dX5_day_62 : decode cX5_day 62 = .ok (.iload_n 2, 1) := by decide +kernel
theorem dX5_day_63 : decode cX5_day 63 = .ok (.iload_n 3, 1) := by decide +kernel
theorem dX5_day_64 : decode cX5_day 64 = .ok (.invokestatic 96, 3) := by decide +kernel
theorem dX5_day_67 : decode cX5_day 67 = .ok (.iadd, 1) := by decide +kernel
theorem dX5_day_68 : decode cX5_day 68 = .ok (.ireturn, 1) := by decide +kernel
set_option maxRecDepth 20000 in
theorem ggX5_date_X5_isDay : GoodIn wsX5_date wsX5_isDay := goodIn_r _ [10, 5, 11, 12, 13, 14, 15, 16, 17, 48, 49, 50, 51, 52, 53, 54, 55, 56] (by decide +kernel) (by decide +kernel)
set_option maxRecDepth 20000 in
theorem gX5_date_X5_isDay : GoodIn wsX5_date (wsV RX5 99 RX5 yX5_isDay wsX5_isDay) := goodIn_app (goodIn_of _ (by decide +kernel)) ggX5_date_X5_isDay
set_option maxRecDepth 20000 in
theorem ggX5_date_X4_yearOf : GoodIn wsX5_date wsX4_yearOf := goodIn_r _ [21, 22, 12, 13, 14, 15, 16, 17, 55, 56] (by decide +kernel) (by decide +kernel)
set_option maxRecDepth 20000 in
theorem gX5_date_X4_yearOf : GoodIn wsX5_date (wsV RX5 102 RX4 yX4_yearOf wsX4_yearOf) := goodIn_app (goodIn_of _ (by decide +kernel)) ggX5_date_X4_yearOf
set_option maxRecDepth 20000 in
theorem ggX5_date_X4_monthOf : GoodIn wsX5_date wsX4_monthOf := goodIn_r _ [26, 27, 19, 20, 14, 21, 22, 12, 13, 15, 16, 17, 55, 56] (by decide +kernel) (by decide +kernel)
set_option maxRecDepth 20000 in
theorem gX5_date_X4_monthOf : GoodIn wsX5_date (wsV RX5 105 RX4 yX4_monthOf wsX4_monthOf) := goodIn_app (goodIn_of _ (by decide +kernel)) ggX5_date_X4_monthOf
set_option maxRecDepth 20000 in
theorem ggX5_date_X4_dayOfMonth : GoodIn wsX5_date wsX4_dayOfMonth := goodIn_r _ [31, 27, 19, 20, 14, 21, 22, 12, 13, 15, 16, 17, 55, 56] (by decide +kernel) (by decide +kernel)
set_option maxRecDepth 20000 in
theorem gX5_date_X4_dayOfMonth : GoodIn wsX5_date (wsV RX5 108 RX4 yX4_dayOfMonth wsX4_dayOfMonth) := goodIn_app (goodIn_of _ (by decide +kernel)) ggX5_date_X4_dayOfMonth
set_option maxRecDepth 20000 in
theorem ggX5_date_X5_daysSinceNewMoon : GoodIn wsX5_date wsX5_daysSinceNewMoon := goodIn_r _ [35, 36, 37, 38, 39, 40, 41, 42, 43, 44, 45, 46, 47, 48, 49, 50, 51, 52, 53, 54, 57, 58] (by decide +kernel) (by decide +kernel)
set_option maxRecDepth 20000 in
theorem gX5_date_X5_daysSinceNewMoon : GoodIn wsX5_date (wsV RX5 111 RX5 yX5_daysSinceNewMoon wsX5_daysSinceNewMoon) := goodIn_app (goodIn_of _ (by decide +kernel)) ggX5_date_X5_daysSinceNewMoon
theorem dX5_date_0 : decode cX5_date 0 = .ok (.aload_n 0, 1) := by decide +kernel
theorem dX5_date_1 : decode cX5_date 1 = .ok (.iload_n 1, 1) := by decide +kernel
theorem dX5_date_2 : decode cX5_date 2 = .ok (.invokevirtual 99, 3) := by decide +kernel
theorem dX5_date_5 : decode cX5_date 5 = .ok (.ifCond .ne 13, 3) := by decide +kernel
theorem dX5_date_8 : decode cX5_date 8 = .ok (.new 40, 3) := by decide +kernel
theorem dX5_date_11 : decode cX5_date 11 = .ok (.dup, 1) := by decide +kernel
theorem dX5_date_12 : decode cX5_date 12 = .ok (.ldc 90, 2) := by decide +kernel
theorem dX5_date_14 : decode cX5_date 14 = .ok (.invokespecial 44, 3) := by decide +kernel
theorem dX5_date_17 : decode cX5_date 17 = .ok (.athrow, 1) := by decide +kernel
theorem dX5_date_18 : decode cX5_date 18 = .ok (.iload_n 2, 1) := by decide +kernel
theorem dX5_date_19 : decode cX5_date 19 = .ok (.tableswitch 71 0 4 #[33, 42, 51, 60, 65], 33) := by decide +kernel
theorem dX5_date_52 : decode cX5_date 52 = .ok (.aload_n 0, 1) := by decide +kernel
theorem dX5_date_53 : decode cX5_date 53 = .ok (.getfield 10, 3) := by decide +kernel
theorem dX5_date_56 : decode cX5_date 56 = .ok (.iload_n 1, 1) := by decide +kernel
theorem dX5_date_57 : decode cX5_date 57 = .ok (.invokevirtual 102, 3) := by decide +kernel
theorem dX5_date_60 : decode cX5_date 60 = .ok (.ireturn, 1) := by decide +kernel
theorem dX5_date_61 : decode cX5_date 61 = .ok (.aload_n 0, 1) := by decide +kernel
theorem dX5_date_62 : decode cX5_date 62 = .ok (.getfield 10, 3) := by decide +kernel
theorem dX5_date_65 : decode cX5_date 65 = .ok (.iload_n 1, 1) := by decide +kernel
theorem dX5_date_66 : decode cX5_date 66 = .ok (.invokevirtual 105, 3) := by decide +kernel
theorem dX5_date_69 : decode cX5_date 69 = .ok (.ireturn, 1) := by decide +kernel
theorem dX5_date_70 : decode cX5_date 70 = .ok (.aload_n 0, 1) := by decide +kernel
theorem dX5_date_71 : decode cX5_date 71 = .ok (.getfield 10, 3) := by decide +kernel
theorem dX5_date_74 : decode cX5_date 74 = .ok (.iload_n 1, 1) := by decide +kernel
theorem dX5_date_75 : decode cX5_date 75 = .ok (.invokevirtual 108, 3) := by decide +kernel
theorem dX5_date_78 : decode cX5_date 78 = .ok (.ireturn, 1) := by decide +kernel
theorem dX5_date_79 : decode cX5_date 79 = .ok (.iload_n 1, 1) := by decide +kernel
theorem dX5_date_80 : decode cX5_date 80 = .ok (.bipush 7, 2) := by decide +kernel
theorem dX5_date_82 : decode cX5_date 82 = .ok (.irem, 1) := by decide +kernel
theorem dX5_date_83 : decode cX5_date 83 = .ok (.ireturn, 1) := by decide +kernel
theorem dX5_date_84 : decode cX5_date 84 = .ok (.aload_n 0, 1) := by decide +kernel
theorem dX5_date_85 : decode cX5_date 85 = .ok (.iload_n 1, 1) := by decide +kernel
theorem dX5_date_86 : decode cX5_date 86 = .ok (.invokevirtual 111, 3) := by decide +kernel
theorem dX5_date_89 : decode cX5_date 89 = .ok (.ireturn, 1) := by decide +kernel
theorem dX5_date_90 : decode cX5_date 90 = .ok (.new 114, 3) := by decide +kernel
theorem dX5_date_93 : decode cX5_date 93 = .ok (.dup, 1) := by decide +kernel
theorem dX5_date_94 : decode cX5_date 94 = .ok (.ldc 116, 2) := by decide +kernel
theorem dX5_date_96 : decode cX5_date 96 = .ok (.invokespecial 118, 3) := by decide +kernel
theorem dX5_date_99 : decode cX5_date 99 = .ok (.athrow, 1) := by decide +kernel
set_option maxRecDepth 20000 in
theorem ggX5_moon_X1_timeOf : GoodIn wsX5_moon wsX1_timeOf := goodIn_r _ [8, 9, 10, 18, 19] (by decide +kernel) (by decide +kernel)
set_option maxRecDepth 20000 in
theorem gX5_moon_X1_timeOf : GoodIn wsX5_moon (wsV RX5 128 RX1 yX1_timeOf wsX1_timeOf) := goodIn_app (goodIn_of _ (by decide +kernel)) ggX5_moon_X1_timeOf
theorem dX5_moon_0 : decode cX5_moon 0 = .ok (.iload_n 1, 1) := by decide +kernel
theorem dX5_moon_1 : decode cX5_moon 1 = .ok (.ifCond .lt 10, 3) := by decide +kernel
theorem dX5_moon_4 : decode cX5_moon 4 = .ok (.iload_n 1, 1) := by decide +kernel
theorem dX5_moon_5 : decode cX5_moon 5 = .ok (.sipush 10000, 3) := by decide +kernel
theorem dX5_moon_8 : decode cX5_moon 8 = .ok (.if_icmp .le 13, 3) := by decide +kernel
theorem dX5_moon_11 : decode cX5_moon 11 = .ok (.new 40, 3) := by decide +kernel
theorem dX5_moon_14 : decode cX5_moon 14 = .ok (.dup, 1) := by decide +kernel
theorem dX5_moon_15 : decode cX5_moon 15 = .ok (.ldc 126, 2) := by decide +kernel
theorem dX5_moon_17 : decode cX5_moon 17 = .ok (.invokespecial 44, 3) := by decide +kernel
theorem dX5_moon_20 : decode cX5_moon 20 = .ok (.athrow, 1) := by decide +kernel
theorem dX5_moon_21 : decode cX5_moon 21 = .ok (.aload_n 0, 1) := by decide +kernel
theorem dX5_moon_22 : decode cX5_moon 22 = .ok (.getfield 19, 3) := by decide +kernel
theorem dX5_moon_25 : decode cX5_moon 25 = .ok (.iload_n 1, 1) := by decide +kernel
theorem dX5_moon_26 : decode cX5_moon 26 = .ok (.iload_n 2, 1) := by decide +kernel
theorem dX5_moon_27 : decode cX5_moon 27 = .ok (.invokevirtual 128, 3) := by decide +kernel
theorem dX5_moon_30 : decode cX5_moon 30 = .ok (.sipush 1000, 3) := by decide +kernel
theorem dX5_moon_33 : decode cX5_moon 33 = .ok (.idiv, 1) := by decide +kernel
theorem dX5_moon_34 : decode cX5_moon 34 = .ok (.ireturn, 1) := by decide +kernel
set_option maxRecDepth 20000 in
theorem ggX5_eclipses_X5_isYear : GoodIn wsX5_eclipses wsX5_isYear := goodIn_r _ [6] (by decide +kernel) (by decide +kernel)
set_option maxRecDepth 20000 in
theorem gX5_eclipses_X5_isYear : GoodIn wsX5_eclipses (va_wsS RX5 75 yX5_isYear wsX5_isYear) := goodIn_app (goodIn_of _ (by decide +kernel)) ggX5_eclipses_X5_isYear
set_option maxRecDepth 20000 in
theorem ggX5_eclipses_X5_countEclipses : GoodIn wsX5_eclipses wsX5_countEclipses := goodIn_r _ [10, 11, 12, 13, 14, 15, 16, 17, 18, 19, 20, 21, 22, 23, 24, 25, 26, 27, 28, 29, 30, 31, 32, 33, 5, 34, 35, 36, 37, 38, 39, 40, 41, 42, 43, 44, 45, 46, 47, 48, 49, 50, 51, 52, 53, 54] (by decide +kernel) (by decide +kernel)
set_option maxRecDepth 20000 in
theorem gX5_eclipses_X5_countEclipses : GoodIn wsX5_eclipses (wsV RX5 132 RX5 yX5_countEclipses wsX5_countEclipses) := goodIn_app (goodIn_of _ (by decide +kernel)) ggX5_eclipses_X5_countEclipses
theorem dX5_eclipses_0 : decode cX5_eclipses 0 = .ok (.iload_n 1, 1) := by decide +kernel
theorem dX5_eclipses_1 : decode cX5_eclipses 1 = .ok (.invokestatic 75, 3) := by decide +kernel
theorem dX5_eclipses_4 : decode cX5_eclipses 4 = .ok (.ifCond .ne 13, 3) := by decide +kernel
theorem dX5_eclipses_7 : decode cX5_eclipses 7 = .ok (.new 40, 3) := by decide +kernel
theorem dX5_eclipses_10 : decode cX5_eclipses 10 = .ok (.dup, 1) := by decide +kernel
theorem dX5_eclipses_11 : decode cX5_eclipses 11 = .ok (.ldc 79, 2) := by decide +kernel
theorem dX5_eclipses_13 : decode cX5_eclipses 13 = .ok (.invokespecial 44, 3) := by decide +kernel
theorem dX5_eclipses_16 : decode cX5_eclipses 16 = .ok (.athrow, 1) := by decide +kernel
theorem dX5_eclipses_17 : decode cX5_eclipses 17 = .ok (.aload_n 0, 1) := by decide +kernel
theorem dX5_eclipses_18 : decode cX5_eclipses 18 = .ok (.iload_n 1, 1) := by decide +kernel
theorem dX5_eclipses_19 : decode cX5_eclipses 19 = .ok (.iload_n 2, 1) := by decide +kernel
theorem dX5_eclipses_20 : decode cX5_eclipses 20 = .ok (.ifCond .ne 7, 3) := by decide +kernel
theorem dX5_eclipses_23 : decode cX5_eclipses 23 = .ok (.iconst 1, 1) := by decide +kernel
theorem dX5_eclipses_24 : decode cX5_eclipses 24 = .ok (.goto 4, 3) := by decide +kernel
theorem dX5_eclipses_27 : decode cX5_eclipses 27 = .ok (.iconst 0, 1) := by decide +kernel
theorem dX5_eclipses_28 : decode cX5_eclipses 28 = .ok (.invokevirtual 132, 3) := by decide +kernel
theorem dX5_eclipses_31 : decode cX5_eclipses 31 = .ok (.ireturn, 1) := by decide +kernel
set_option maxRecDepth 20000 in
theorem ggX5_next_X5_isDay : GoodIn wsX5_next wsX5_isDay := goodIn_r _ [14, 15, 16, 17, 18, 19, 20, 21, 22, 50, 51, 52, 53, 54, 55, 56, 57, 58] (by decide +kernel) (by decide +kernel)
set_option maxRecDepth 20000 in
theorem gX5_next_X5_isDay : GoodIn wsX5_next (wsV RX5 99 RX5 yX5_isDay wsX5_isDay) := goodIn_app (goodIn_of _ (by decide +kernel)) ggX5_next_X5_isDay
set_option maxRecDepth 20000 in
theorem ggX5_next_X5_firstEclipse : GoodIn wsX5_next wsX5_firstEclipse := goodIn_r _ [26, 27, 28, 29, 30, 31, 32, 33, 34, 35, 36, 37, 38, 39, 40, 41, 13, 42, 43, 44, 45, 46, 47, 48, 49, 50, 51, 52, 53, 54, 55, 56, 59, 60, 61, 62] (by decide +kernel) (by decide +kernel)
set_option maxRecDepth 20000 in
theorem gX5_next_X5_firstEclipse : GoodIn wsX5_next (wsV RX5 135 RX5 yX5_firstEclipse wsX5_firstEclipse) := goodIn_app (goodIn_of _ (by decide +kernel)) ggX5_next_X5_firstEclipse
theorem dX5_next_0 : decode cX5_next 0 = .ok (.aload_n 0, 1) := by decide +kernel
theorem dX5_next_1 : decode cX5_next 1 = .ok (.iload_n 1, 1) := by decide +kernel
theorem dX5_next_2 : decode cX5_next 2 = .ok (.invokevirtual 99, 3) := by decide +kernel
theorem dX5_next_5 : decode cX5_next 5 = .ok (.ifCond .ne 13, 3) := by decide +kernel
theorem dX5_next_8 : decode cX5_next 8 = .ok (.new 40, 3) := by decide +kernel
theorem dX5_next_11 : decode cX5_next 11 = .ok (.dup, 1) := by decide +kernel
theorem dX5_next_12 : decode cX5_next 12 = .ok (.ldc 90, 2) := by decide +kernel
theorem dX5_next_14 : decode cX5_next 14 = .ok (.invokespecial 44, 3) := by decide +kernel
theorem dX5_next_17 : decode cX5_next 17 = .ok (.athrow, 1) := by decide +kernel
theorem dX5_next_18 : decode cX5_next 18 = .ok (.aload_n 0, 1) := by decide +kernel
theorem dX5_next_19 : decode cX5_next 19 = .ok (.iload_n 1, 1) := by decide +kernel
theorem dX5_next_20 : decode cX5_next 20 = .ok (.iconst 0, 1) := by decide +kernel
theorem dX5_next_21 : decode cX5_next 21 = .ok (.invokevirtual 135, 3) := by decide +kernel
theorem dX5_next_24 : decode cX5_next 24 = .ok (.istore_n 2, 1) := by decide +kernel
theorem dX5_next_25 : decode cX5_next 25 = .ok (.aload_n 0, 1) := by decide +kernel
theorem dX5_next_26 : decode cX5_next 26 = .ok (.iload_n 1, 1) := by decide +kernel
theorem dX5_next_27 : decode cX5_next 27 = .ok (.iconst 1, 1) := by decide +kernel
theorem dX5_next_28 : decode cX5_next 28 = .ok (.invokevirtual 135, 3) := by decide +kernel
theorem dX5_next_31 : decode cX5_next 31 = .ok (.istore_n 3, 1) := by decide +kernel
theorem dX5_next_32 : decode cX5_next 32 = .ok (.iload_n 2, 1) := by decide +kernel
theorem dX5_next_33 : decode cX5_next 33 = .ok (.ifCond .lt 7, 3) := by decide +kernel
theorem dX5_next_36 : decode cX5_next 36 = .ok (.iload_n 3, 1) := by decide +kernel
theorem dX5_next_37 : decode cX5_next 37 = .ok (.ifCond .ge 9, 3) := by decide +kernel
theorem dX5_next_40 : decode cX5_next 40 = .ok (.iload_n 2, 1) := by decide +kernel
theorem dX5_next_41 : decode cX5_next 41 = .ok (.iload_n 3, 1) := by decide +kernel
theorem dX5_next_42 : decode cX5_next 42 = .ok (.invokestatic 138, 3) := by decide +kernel
theorem dX5_next_45 : decode cX5_next 45 = .ok (.ireturn, 1) := by decide +kernel
theorem dX5_next_46 : decode cX5_next 46 = .ok (.iload_n 2, 1) := by decide +kernel
theorem dX5_next_47 : decode cX5_next 47 = .ok (.iload_n 3, 1) := by decide +kernel
theorem dX5_next_48 : decode cX5_next 48 = .ok (.invokestatic 143, 3) := by decide +kernel
theorem dX5_next_51 : decode cX5_next 51 = .ok (.ireturn, 1) := by decide +kernel
set_option maxRecDepth 20000 in
theorem ggX5_observe_X1_nearestTo : GoodIn wsX5_observe wsX1_nearestTo := goodIn_r _ [11, 12, 13, 14, 10, 15, 16, 17, 18, 19, 20, 21, 42, 43] (by decide +kernel) (by decide +kernel)
set_option maxRecDepth 20000 in
theorem gX5_observe_X1_nearestTo : GoodIn wsX5_observe (wsV RX5 147 RX1 yX1_nearestTo wsX1_nearestTo) := goodIn_app (goodIn_of _ (by decide +kernel)) ggX5_observe_X1_nearestTo
set_option maxRecDepth 20000 in
theorem ggX5_observe_X1_timeOf : GoodIn wsX5_observe wsX1_timeOf := goodIn_r _ [21, 16, 17, 42, 43] (by decide +kernel) (by decide +kernel)
set_option maxRecDepth 20000 in
theorem gX5_observe_X1_timeOf : GoodIn wsX5_observe (wsV RX5 128 RX1 yX1_timeOf wsX1_timeOf) := goodIn_app (goodIn_of _ (by decide +kernel)) ggX5_observe_X1_timeOf
set_option maxRecDepth 20000 in
theorem ggX5_observe_X1_correct : GoodIn wsX5_observe wsX1_correct := goodIn_r _ [26, 16, 27, 28, 29, 30, 31, 32, 33, 34, 17, 42, 43] (by decide +kernel) (by decide +kernel)
set_option maxRecDepth 20000 in
theorem gX5_observe_X1_correct : GoodIn wsX5_observe (wsV RX5 153 RX1 yX1_correct wsX1_correct) := goodIn_app (goodIn_of _ (by decide +kernel)) ggX5_observe_X1_correct
theorem dX5_observe_0 : decode cX5_observe 0 = .ok (.iload_n 1, 1) := by decide +kernel
theorem dX5_observe_1 : decode cX5_observe 1 = .ok (.ifCond .lt 9, 3) := by decide +kernel
theorem dX5_observe_4 : decode cX5_observe 4 = .ok (.iload_n 1, 1) := by decide +kernel
theorem dX5_observe_5 : decode cX5_observe 5 = .ok (.ldc 146, 2) := by decide +kernel
theorem dX5_observe_7 : decode cX5_observe 7 = .ok (.if_icmp .le 13, 3) := by decide +kernel
theorem dX5_observe_10 : decode cX5_observe 10 = .ok (.new 40, 3) := by decide +kernel
theorem dX5_observe_13 : decode cX5_observe 13 = .ok (.dup, 1) := by decide +kernel
theorem dX5_observe_14 : decode cX5_observe 14 = .ok (.ldc 90, 2) := by decide +kernel
theorem dX5_observe_16 : decode cX5_observe 16 = .ok (.invokespecial 44, 3) := by decide +kernel
theorem dX5_observe_19 : decode cX5_observe 19 = .ok (.athrow, 1) := by decide +kernel
theorem dX5_observe_20 : decode cX5_observe 20 = .ok (.aload_n 0, 1) := by decide +kernel
theorem dX5_observe_21 : decode cX5_observe 21 = .ok (.getfield 19, 3) := by decide +kernel
theorem dX5_observe_24 : decode cX5_observe 24 = .ok (.iload_n 1, 1) := by decide +kernel
theorem dX5_observe_25 : decode cX5_observe 25 = .ok (.iload_n 2, 1) := by decide +kernel
theorem dX5_observe_26 : decode cX5_observe 26 = .ok (.invokevirtual 147, 3) := by decide +kernel
theorem dX5_observe_29 : decode cX5_observe 29 = .ok (.istore_n 3, 1) := by decide +kernel
theorem dX5_observe_30 : decode cX5_observe 30 = .ok (.iload_n 1, 1) := by decide +kernel
theorem dX5_observe_31 : decode cX5_observe 31 = .ok (.aload_n 0, 1) := by decide +kernel
theorem dX5_observe_32 : decode cX5_observe 32 = .ok (.getfield 19, 3) := by decide +kernel
theorem dX5_observe_35 : decode cX5_observe 35 = .ok (.iload_n 3, 1) := by decide +kernel
theorem dX5_observe_36 : decode cX5_observe 36 = .ok (.iload_n 2, 1) := by decide +kernel
theorem dX5_observe_37 : decode cX5_observe 37 = .ok (.invokevirtual 128, 3) := by decide +kernel
theorem dX5_observe_40 : decode cX5_observe 40 = .ok (.sipush 1000, 3) := by decide +kernel
theorem dX5_observe_43 : decode cX5_observe 43 = .ok (.idiv, 1) := by decide +kernel
theorem dX5_observe_44 : decode cX5_observe 44 = .ok (.isub, 1) := by decide +kernel
theorem dX5_observe_45 : decode cX5_observe 45 = .ok (.istore 4, 2) := by decide +kernel
theorem dX5_observe_47 : decode cX5_observe 47 = .ok (.aload_n 0, 1) := by decide +kernel
theorem dX5_observe_48 : decode cX5_observe 48 = .ok (.dup, 1) := by decide +kernel
theorem dX5_observe_49 : decode cX5_observe 49 = .ok (.getfield 150, 3) := by decide +kernel
theorem dX5_observe_52 : decode cX5_observe 52 = .ok (.iconst 1, 1) := by decide +kernel
theorem dX5_observe_53 : decode cX5_observe 53 = .ok (.iadd, 1) := by decide +kernel
theorem dX5_observe_54 : decode cX5_observe 54 = .ok (.putfield 150, 3) := by decide +kernel
theorem dX5_observe_57 : decode cX5_observe 57 = .ok (.iload 4, 2) := by decide +kernel
theorem dX5_observe_59 : decode cX5_observe 59 = .ok (.ifCond .eq 26, 3) := by decide +kernel
theorem dX5_observe_62 : decode cX5_observe 62 = .ok (.aload_n 0, 1) := by decide +kernel
theorem dX5_observe_63 : decode cX5_observe 63 = .ok (.getfield 19, 3) := by decide +kernel
theorem dX5_observe_66 : decode cX5_observe 66 = .ok (.iload_n 3, 1) := by decide +kernel
theorem dX5_observe_67 : decode cX5_observe 67 = .ok (.iload_n 2, 1) := by decide +kernel
theorem dX5_observe_68 : decode cX5_observe 68 = .ok (.iload_n 1, 1) := by decide +kernel
theorem dX5_observe_69 : decode cX5_observe 69 = .ok (.invokevirtual 153, 3) := by decide +kernel
theorem dX5_observe_72 : decode cX5_observe 72 = .ok (.ifCond .eq 13, 3) := by decide +kernel
theorem dX5_observe_75 : decode cX5_observe 75 = .ok (.aload_n 0, 1) := by decide +kernel
theorem dX5_observe_76 : decode cX5_observe 76 = .ok (.dup, 1) := by decide +kernel
theorem dX5_observe_77 : decode cX5_observe 77 = .ok (.getfield 157, 3) := by decide +kernel
theorem dX5_observe_80 : decode cX5_observe 80 = .ok (.iconst 1, 1) := by decide +kernel
theorem dX5_observe_81 : decode cX5_observe 81 = .ok (.iadd, 1) := by decide +kernel
theorem dX5_observe_82 : decode cX5_observe 82 = .ok (.putfield 157, 3) := by decide +kernel
theorem dX5_observe_85 : decode cX5_observe 85 = .ok (.iload 4, 2) := by decide +kernel
theorem dX5_observe_87 : decode cX5_observe 87 = .ok (.ireturn, 1) := by decide +kernel
set_option maxRecDepth 20000 in
theorem ggX5_addFeast_Jx4a65c_size_8abf5 : GoodIn wsX5_addFeast wsJx4a65c_size_8abf5 := goodIn_r _ [13, 14, 92, 93, 94] (by decide +kernel) (by decide +kernel)
set_option maxRecDepth 20000 in
theorem gX5_addFeast_Jx4a65c_size_8abf5 : GoodIn wsX5_addFeast (wsV RX5 164 RJx4a65c yJx4a65c_size_8abf5 wsJx4a65c_size_8abf5) := goodIn_app (goodIn_of _ (by decide +kernel)) ggX5_addFeast_Jx4a65c_size_8abf5
set_option maxRecDepth 20000 in
theorem ggX5_addFeast_X0_init : GoodIn wsX5_addFeast wsX0_init := goodIn_r _ [17, 18, 19, 20, 21, 22, 23, 24, 25, 87, 88, 89, 90, 91] (by decide +kernel) (by decide +kernel)
set_option maxRecDepth 20000 in
theorem gX5_addFeast_X0_init : GoodIn wsX5_addFeast (wsX0_init) := ggX5_addFeast_X0_init
set_option maxRecDepth 20000 in
theorem ggX5_addFeast_Jx4a65c_add_9ea2d : GoodIn wsX5_addFeast wsJx4a65c_add_9ea2d := goodIn_r _ [29, 30, 31, 32, 14, 33, 34, 35, 12, 36, 37, 38, 39, 40, 41, 42, 43, 44, 45, 46, 47, 48, 49, 50, 51, 52, 53, 54, 55, 56, 57, 58, 59, 60, 61, 62, 63, 64, 65, 66, 67, 68, 69, 70, 71, 72, 73, 74, 75, 76, 77, 78, 79, 92, 93, 94] (by decide +kernel) (by decide +kernel)
set_option maxRecDepth 20000 in
theorem gX5_addFeast_Jx4a65c_add_9ea2d : GoodIn wsX5_addFeast (wsV RX5 178 RJx4a65c yJx4a65c_add_9ea2d wsJx4a65c_add_9ea2d) := goodIn_app (goodIn_of _ (by decide +kernel)) ggX5_addFeast_Jx4a65c_add_9ea2d
theorem dX5_addFeast_0 : decode cX5_addFeast 0 = .ok (.iload_n 1, 1) := by decide +kernel
theorem dX5_addFeast_1 : decode cX5_addFeast 1 = .ok (.ifCond .lt 28, 3) := by decide +kernel
theorem dX5_addFeast_4 : decode cX5_addFeast 4 = .ok (.iload_n 1, 1) := by decide +kernel
theorem dX5_addFeast_5 : decode cX5_addFeast 5 = .ok (.bipush 12, 2) := by decide +kernel
theorem dX5_addFeast_7 : decode cX5_addFeast 7 = .ok (.if_icmp .ge 22, 3) := by decide +kernel
theorem dX5_addFeast_10 : decode cX5_addFeast 10 = .ok (.iload_n 2, 1) := by decide +kernel
theorem dX5_addFeast_11 : decode cX5_addFeast 11 = .ok (.ifCond .lt 18, 3) := by decide +kernel
theorem dX5_addFeast_14 : decode cX5_addFeast 14 = .ok (.iload_n 2, 1) := by decide +kernel
theorem dX5_addFeast_15 : decode cX5_addFeast 15 = .ok (.bipush 29, 2) := by decide +kernel
theorem dX5_addFeast_17 : decode cX5_addFeast 17 = .ok (.if_icmp .gt 12, 3) := by decide +kernel
theorem dX5_addFeast_20 : decode cX5_addFeast 20 = .ok (.iload_n 3, 1) := by decide +kernel
theorem dX5_addFeast_21 : decode cX5_addFeast 21 = .ok (.ifCond .lt 8, 3) := by decide +kernel
theorem dX5_addFeast_24 : decode cX5_addFeast 24 = .ok (.iload_n 3, 1) := by decide +kernel
theorem dX5_addFeast_25 : decode cX5_addFeast 25 = .ok (.iconst 3, 1) := by decide +kernel
theorem dX5_addFeast_26 : decode cX5_addFeast 26 = .ok (.if_icmp .le 13, 3) := by decide +kernel
theorem dX5_addFeast_29 : decode cX5_addFeast 29 = .ok (.new 40, 3) := by decide +kernel
theorem dX5_addFeast_32 : decode cX5_addFeast 32 = .ok (.dup, 1) := by decide +kernel
theorem dX5_addFeast_33 : decode cX5_addFeast 33 = .ok (.ldc 160, 2) := by decide +kernel
theorem dX5_addFeast_35 : decode cX5_addFeast 35 = .ok (.invokespecial 44, 3) := by decide +kernel
theorem dX5_addFeast_38 : decode cX5_addFeast 38 = .ok (.athrow, 1) := by decide +kernel
theorem dX5_addFeast_39 : decode cX5_addFeast 39 = .ok (.iload 4, 2) := by decide +kernel
theorem dX5_addFeast_41 : decode cX5_addFeast 41 = .ok (.iconst (-1), 1) := by decide +kernel
theorem dX5_addFeast_42 : decode cX5_addFeast 42 = .ok (.if_icmp .lt 24, 3) := by decide +kernel
theorem dX5_addFeast_45 : decode cX5_addFeast 45 = .ok (.iload 4, 2) := by decide +kernel
theorem dX5_addFeast_47 : decode cX5_addFeast 47 = .ok (.bipush 7, 2) := by decide +kernel
theorem dX5_addFeast_49 : decode cX5_addFeast 49 = .ok (.if_icmp .ge 17, 3) := by decide +kernel
theorem dX5_addFeast_52 : decode cX5_addFeast 52 = .ok (.iload 5, 2) := by decide +kernel
theorem dX5_addFeast_54 : decode cX5_addFeast 54 = .ok (.bipush (-60), 2) := by decide +kernel
theorem dX5_addFeast_56 : decode cX5_addFeast 56 = .ok (.if_icmp .lt 10, 3) := by decide +kernel
theorem dX5_addFeast_59 : decode cX5_addFeast 59 = .ok (.iload 5, 2) := by decide +kernel
theorem dX5_addFeast_61 : decode cX5_addFeast 61 = .ok (.bipush 60, 2) := by decide +kernel
theorem dX5_addFeast_63 : decode cX5_addFeast 63 = .ok (.if_icmp .le 13, 3) := by decide +kernel
theorem dX5_addFeast_66 : decode cX5_addFeast 66 = .ok (.new 40, 3) := by decide +kernel
theorem dX5_addFeast_69 : decode cX5_addFeast 69 = .ok (.dup, 1) := by decide +kernel
theorem dX5_addFeast_70 : decode cX5_addFeast 70 = .ok (.ldc 162, 2) := by decide +kernel
theorem dX5_addFeast_72 : decode cX5_addFeast 72 = .ok (.invokespecial 44, 3) := by decide +kernel
theorem dX5_addFeast_75 : decode cX5_addFeast 75 = .ok (.athrow, 1) := by decide +kernel
theorem dX5_addFeast_76 : decode cX5_addFeast 76 = .ok (.aload_n 0, 1) := by decide +kernel
theorem dX5_addFeast_77 : decode cX5_addFeast 77 = .ok (.getfield 33, 3) := by decide +kernel
theorem dX5_addFeast_80 : decode cX5_addFeast 80 = .ok (.invokevirtual 164, 3) := by decide +kernel
theorem dX5_addFeast_83 : decode cX5_addFeast 83 = .ok (.bipush 8, 2) := by decide +kernel
theorem dX5_addFeast_85 : decode cX5_addFeast 85 = .ok (.if_icmp .lt 13, 3) := by decide +kernel
theorem dX5_addFeast_88 : decode cX5_addFeast 88 = .ok (.new 168, 3) := by decide +kernel
theorem dX5_addFeast_91 : decode cX5_addFeast 91 = .ok (.dup, 1) := by decide +kernel
theorem dX5_addFeast_92 : decode cX5_addFeast 92 = .ok (.ldc 170, 2) := by decide +kernel
theorem dX5_addFeast_94 : decode cX5_addFeast 94 = .ok (.invokespecial 172, 3) := by decide +kernel
theorem dX5_addFeast_97 : decode cX5_addFeast 97 = .ok (.athrow, 1) := by decide +kernel
theorem dX5_addFeast_98 : decode cX5_addFeast 98 = .ok (.aload_n 0, 1) := by decide +kernel
theorem dX5_addFeast_99 : decode cX5_addFeast 99 = .ok (.getfield 33, 3) := by decide +kernel
theorem dX5_addFeast_102 : decode cX5_addFeast 102 = .ok (.new 173, 3) := by decide +kernel
theorem dX5_addFeast_105 : decode cX5_addFeast 105 = .ok (.dup, 1) := by decide +kernel
theorem dX5_addFeast_106 : decode cX5_addFeast 106 = .ok (.iload_n 1, 1) := by decide +kernel
theorem dX5_addFeast_107 : decode cX5_addFeast 107 = .ok (.iload_n 2, 1) := by decide +kernel
theorem dX5_addFeast_108 : decode cX5_addFeast 108 = .ok (.iload_n 3, 1) := by decide +kernel
theorem dX5_addFeast_109 : decode cX5_addFeast 109 = .ok (.iload 4, 2) := by decide +kernel
theorem dX5_addFeast_111 : decode cX5_addFeast 111 = .ok (.iload 5, 2) := by decide +kernel
theorem dX5_addFeast_113 : decode cX5_addFeast 113 = .ok (.invokespecial 175, 3) := by decide +kernel
theorem dX5_addFeast_116 : decode cX5_addFeast 116 = .ok (.invokevirtual 178, 3) := by decide +kernel
theorem dX5_addFeast_119 : decode cX5_addFeast 119 = .ok (.pop, 1) := by decide +kernel
theorem dX5_addFeast_120 : decode cX5_addFeast 120 = .ok (.aload_n 0, 1) := by decide +kernel
theorem dX5_addFeast_121 : decode cX5_addFeast 121 = .ok (.getfield 33, 3) := by decide +kernel
theorem dX5_addFeast_124 : decode cX5_addFeast 124 = .ok (.invokevirtual 164, 3) := by decide +kernel
theorem dX5_addFeast_127 : decode cX5_addFeast 127 = .ok (.iconst 1, 1) := by decide +kernel
theorem dX5_addFeast_128 : decode cX5_addFeast 128 = .ok (.isub, 1) := by decide +kernel
theorem dX5_addFeast_129 : decode cX5_addFeast 129 = .ok (.ireturn, 1) := by decide +kernel
set_option maxRecDepth 20000 in
theorem ggX5_feast_Jx4a65c_size_8abf5 : GoodIn wsX5_feast wsJx4a65c_size_8abf5 := goodIn_r _ [11, 12, 73, 74, 75] (by decide +kernel) (by decide +kernel)
set_option maxRecDepth 20000 in
theorem gX5_feast_Jx4a65c_size_8abf5 : GoodIn wsX5_feast (wsV RX5 164 RJx4a65c yJx4a65c_size_8abf5 wsJx4a65c_size_8abf5) := goodIn_app (goodIn_of _ (by decide +kernel)) ggX5_feast_Jx4a65c_size_8abf5
set_option maxRecDepth 20000 in
theorem ggX5_feast_X5_isYear : GoodIn wsX5_feast wsX5_isYear := goodIn_r _ [16] (by decide +kernel) (by decide +kernel)
set_option maxRecDepth 20000 in
theorem gX5_feast_X5_isYear : GoodIn wsX5_feast (va_wsS RX5 75 yX5_isYear wsX5_isYear) := goodIn_app (goodIn_of _ (by decide +kernel)) ggX5_feast_X5_isYear
set_option maxRecDepth 20000 in
theorem ggX5_feast_Jx4a65c_get_915e3 : GoodIn wsX5_feast wsJx4a65c_get_915e3 := goodIn_r _ [20, 12, 21, 22, 23, 24, 25, 26, 27, 28, 29, 30, 31, 10, 32, 33, 73, 74, 75] (by decide +kernel) (by decide +kernel)
set_option maxRecDepth 20000 in
theorem gX5_feast_Jx4a65c_get_915e3 : GoodIn wsX5_feast (wsV RX5 184 RJx4a65c yJx4a65c_get_915e3 wsJx4a65c_get_915e3) := goodIn_app (goodIn_of _ (by decide +kernel)) ggX5_feast_Jx4a65c_get_915e3
set_option maxRecDepth 20000 in
theorem ggX5_feast_X5_feastDay : GoodIn wsX5_feast wsX5_feastDay := goodIn_r _ [37, 38, 39, 40, 41, 42, 43, 44, 45, 46, 47, 48, 49, 50, 51, 52, 53, 15, 54, 55, 56, 57, 58, 59, 60, 61, 62, 63, 64, 65, 66, 67, 68, 69, 70, 71, 72, 76, 77, 78, 79, 80, 81, 82, 83, 84] (by decide +kernel) (by decide +kernel)
set_option maxRecDepth 20000 in
theorem gX5_feast_X5_feastDay : GoodIn wsX5_feast (wsV RX5 188 RX5 yX5_feastDay wsX5_feastDay) := goodIn_app (goodIn_of _ (by decide +kernel)) ggX5_feast_X5_feastDay
theorem dX5_feast_0 : decode cX5_feast 0 = .ok (.iload_n 1, 1) := by decide +kernel
theorem dX5_feast_1 : decode cX5_feast 1 = .ok (.ifCond .lt 14, 3) := by decide +kernel
theorem dX5_feast_4 : decode cX5_feast 4 = .ok (.iload_n 1, 1) := by decide +kernel
theorem dX5_feast_5 : decode cX5_feast 5 = .ok (.aload_n 0, 1) := by decide +kernel
theorem dX5_feast_6 : decode cX5_feast 6 = .ok (.getfield 33, 3) := by decide +kernel
theorem dX5_feast_9 : decode cX5_feast 9 = .ok (.invokevirtual 164, 3) := by decide +kernel
theorem dX5_feast_12 : decode cX5_feast 12 = .ok (.if_icmp .lt 13, 3) := by decide +kernel
theorem dX5_feast_15 : decode cX5_feast 15 = .ok (.new 114, 3) := by decide +kernel
theorem dX5_feast_18 : decode cX5_feast 18 = .ok (.dup, 1) := by decide +kernel
theorem dX5_feast_19 : decode cX5_feast 19 = .ok (.ldc 182, 2) := by decide +kernel
theorem dX5_feast_21 : decode cX5_feast 21 = .ok (.invokespecial 118, 3) := by decide +kernel
theorem dX5_feast_24 : decode cX5_feast 24 = .ok (.athrow, 1) := by decide +kernel
theorem dX5_feast_25 : decode cX5_feast 25 = .ok (.iload_n 2, 1) := by decide +kernel
theorem dX5_feast_26 : decode cX5_feast 26 = .ok (.invokestatic 75, 3) := by decide +kernel
theorem dX5_feast_29 : decode cX5_feast 29 = .ok (.ifCond .ne 13, 3) := by decide +kernel
theorem dX5_feast_32 : decode cX5_feast 32 = .ok (.new 40, 3) := by decide +kernel
theorem dX5_feast_35 : decode cX5_feast 35 = .ok (.dup, 1) := by decide +kernel
theorem dX5_feast_36 : decode cX5_feast 36 = .ok (.ldc 79, 2) := by decide +kernel
theorem dX5_feast_38 : decode cX5_feast 38 = .ok (.invokespecial 44, 3) := by decide +kernel
theorem dX5_feast_41 : decode cX5_feast 41 = .ok (.athrow, 1) := by decide +kernel
theorem dX5_feast_42 : decode cX5_feast 42 = .ok (.aload_n 0, 1) := by decide +kernel
theorem dX5_feast_43 : decode cX5_feast 43 = .ok (.aload_n 0, 1) := by decide +kernel
theorem dX5_feast_44 : decode cX5_feast 44 = .ok (.getfield 33, 3) := by decide +kernel
theorem dX5_feast_47 : decode cX5_feast 47 = .ok (.iload_n 1, 1) := by decide +kernel
theorem dX5_feast_48 : decode cX5_feast 48 = .ok (.invokevirtual 184, 3) := by decide +kernel
theorem dX5_feast_51 : decode cX5_feast 51 = .ok (.checkcast 173, 3) := by decide +kernel
theorem dX5_feast_54 : decode cX5_feast 54 = .ok (.iload_n 2, 1) := by decide +kernel
theorem dX5_feast_55 : decode cX5_feast 55 = .ok (.invokevirtual 188, 3) := by decide +kernel
theorem dX5_feast_58 : decode cX5_feast 58 = .ok (.ireturn, 1) := by decide +kernel
set_option maxRecDepth 20000 in
theorem ggX5_again_Jx4a65c_size_8abf5 : GoodIn wsX5_again wsJx4a65c_size_8abf5 := goodIn_r _ [12, 13, 73, 74, 75] (by decide +kernel) (by decide +kernel)
set_option maxRecDepth 20000 in
theorem gX5_again_Jx4a65c_size_8abf5 : GoodIn wsX5_again (wsV RX5 164 RJx4a65c yJx4a65c_size_8abf5 wsJx4a65c_size_8abf5) := goodIn_app (goodIn_of _ (by decide +kernel)) ggX5_again_Jx4a65c_size_8abf5
set_option maxRecDepth 20000 in
theorem ggX5_again_X5_isYear : GoodIn wsX5_again wsX5_isYear := goodIn_r _ [17] (by decide +kernel) (by decide +kernel)
set_option maxRecDepth 20000 in
theorem gX5_again_X5_isYear : GoodIn wsX5_again (va_wsS RX5 75 yX5_isYear wsX5_isYear) := goodIn_app (goodIn_of _ (by decide +kernel)) ggX5_again_X5_isYear
set_option maxRecDepth 20000 in
theorem ggX5_again_Jx4a65c_get_915e3 : GoodIn wsX5_again wsJx4a65c_get_915e3 := goodIn_r _ [21, 13, 22, 23, 24, 25, 26, 27, 28, 29, 30, 31, 32, 11, 33, 34, 73, 74, 75] (by decide +kernel) (by decide +kernel)
set_option maxRecDepth 20000 in
theorem gX5_again_Jx4a65c_get_915e3 : GoodIn wsX5_again (wsV RX5 184 RJx4a65c yJx4a65c_get_915e3 wsJx4a65c_get_915e3) := goodIn_app (goodIn_of _ (by decide +kernel)) ggX5_again_Jx4a65c_get_915e3
set_option maxRecDepth 20000 in
theorem ggX5_again_X5_feastDay : GoodIn wsX5_again wsX5_feastDay := goodIn_r _ [38, 7, 39, 40, 41, 42, 43, 44, 45, 46, 47, 48, 49, 50, 51, 52, 53, 16, 54, 55, 56, 57, 58, 59, 60, 61, 62, 63, 64, 65, 66, 67, 68, 69, 70, 71, 72, 76, 77, 78, 79, 80, 81, 82, 83, 84] (by decide +kernel) (by decide +kernel)
set_option maxRecDepth 20000 in
theorem gX5_again_X5_feastDay : GoodIn wsX5_again (wsV RX5 188 RX5 yX5_feastDay wsX5_feastDay) := goodIn_app (goodIn_of _ (by decide +kernel)) ggX5_again_X5_feastDay
set_option maxRecDepth 20000 in
theorem ggX5_again_X4_firstDay : GoodIn wsX5_again wsX4_firstDay := goodIn_r _ [49, 50, 51, 81, 82] (by decide +kernel) (by decide +kernel)
set_option maxRecDepth 20000 in
theorem gX5_again_X4_firstDay : GoodIn wsX5_again (wsV RX5 92 RX4 yX4_firstDay wsX4_firstDay) := goodIn_app (goodIn_of _ (by decide +kernel)) ggX5_again_X4_firstDay
theorem dX5_again_0 : decode cX5_again 0 = .ok (.iload_n 1, 1) := by decide +kernel
theorem dX5_again_1 : decode cX5_again 1 = .ok (.ifCond .lt 14, 3) := by decide +kernel
theorem dX5_again_4 : decode cX5_again 4 = .ok (.iload_n 1, 1) := by decide +kernel
theorem dX5_again_5 : decode cX5_again 5 = .ok (.aload_n 0, 1) := by decide +kernel
theorem dX5_again_6 : decode cX5_again 6 = .ok (.getfield 33, 3) := by decide +kernel
theorem dX5_again_9 : decode cX5_again 9 = .ok (.invokevirtual 164, 3) := by decide +kernel
theorem dX5_again_12 : decode cX5_again 12 = .ok (.if_icmp .lt 13, 3) := by decide +kernel
theorem dX5_again_15 : decode cX5_again 15 = .ok (.new 114, 3) := by decide +kernel
theorem dX5_again_18 : decode cX5_again 18 = .ok (.dup, 1) := by decide +kernel
theorem dX5_again_19 : decode cX5_again 19 = .ok (.ldc 182, 2) := by decide +kernel
theorem dX5_again_21 : decode cX5_again 21 = .ok (.invokespecial 118, 3) := by decide +kernel
theorem dX5_again_24 : decode cX5_again 24 = .ok (.athrow, 1) := by decide +kernel
theorem dX5_again_25 : decode cX5_again 25 = .ok (.iload_n 2, 1) := by decide +kernel
theorem dX5_again_26 : decode cX5_again 26 = .ok (.invokestatic 75, 3) := by decide +kernel
theorem dX5_again_29 : decode cX5_again 29 = .ok (.ifCond .ne 13, 3) := by decide +kernel
theorem dX5_again_32 : decode cX5_again 32 = .ok (.new 40, 3) := by decide +kernel
theorem dX5_again_35 : decode cX5_again 35 = .ok (.dup, 1) := by decide +kernel
theorem dX5_again_36 : decode cX5_again 36 = .ok (.ldc 79, 2) := by decide +kernel
theorem dX5_again_38 : decode cX5_again 38 = .ok (.invokespecial 44, 3) := by decide +kernel
theorem dX5_again_41 : decode cX5_again 41 = .ok (.athrow, 1) := by decide +kernel
theorem dX5_again_42 : decode cX5_again 42 = .ok (.aload_n 0, 1) := by decide +kernel
theorem dX5_again_43 : decode cX5_again 43 = .ok (.getfield 33, 3) := by decide +kernel
theorem dX5_again_46 : decode cX5_again 46 = .ok (.iload_n 1, 1) := by decide +kernel
theorem dX5_again_47 : decode cX5_again 47 = .ok (.invokevirtual 184, 3) := by decide +kernel
theorem dX5_again_50 : decode cX5_again 50 = .ok (.checkcast 173, 3) := by decide +kernel
theorem dX5_again_53 : decode cX5_again 53 = .ok (.astore_n 3, 1) := by decide +kernel
theorem dX5_again_54 : decode cX5_again 54 = .ok (.aload_n 0, 1) := by decide +kernel
theorem dX5_again_55 : decode cX5_again 55 = .ok (.aload_n 3, 1) := by decide +kernel
theorem dX5_again_56 : decode cX5_again 56 = .ok (.iload_n 2, 1) := by decide +kernel
theorem dX5_again_57 : decode cX5_again 57 = .ok (.invokevirtual 188, 3) := by decide +kernel
theorem dX5_again_60 : decode cX5_again 60 = .ok (.aload_n 0, 1) := by decide +kernel
theorem dX5_again_61 : decode cX5_again 61 = .ok (.getfield 10, 3) := by decide +kernel
theorem dX5_again_64 : decode cX5_again 64 = .ok (.iload_n 2, 1) := by decide +kernel
theorem dX5_again_65 : decode cX5_again 65 = .ok (.invokevirtual 92, 3) := by decide +kernel
theorem dX5_again_68 : decode cX5_again 68 = .ok (.isub, 1) := by decide +kernel
theorem dX5_again_69 : decode cX5_again 69 = .ok (.istore 4, 2) := by decide +kernel
theorem dX5_again_71 : decode cX5_again 71 = .ok (.iload_n 2, 1) := by decide +kernel
theorem dX5_again_72 : decode cX5_again 72 = .ok (.iconst 1, 1) := by decide +kernel
theorem dX5_again_73 : decode cX5_again 73 = .ok (.iadd, 1) := by decide +kernel
theorem dX5_again_74 : decode cX5_again 74 = .ok (.istore 5, 2) := by decide +kernel
theorem dX5_again_76 : decode cX5_again 76 = .ok (.iload 5, 2) := by decide +kernel
theorem dX5_again_78 : decode cX5_again 78 = .ok (.iload_n 2, 1) := by decide +kernel
theorem dX5_again_79 : decode cX5_again 79 = .ok (.bipush 100, 2) := by decide +kernel
theorem dX5_again_81 : decode cX5_again 81 = .ok (.iadd, 1) := by decide +kernel
theorem dX5_again_82 : decode cX5_again 82 = .ok (.if_icmp .gt 42, 3) := by decide +kernel
theorem dX5_again_85 : decode cX5_again 85 = .ok (.iload 5, 2) := by decide +kernel
theorem dX5_again_87 : decode cX5_again 87 = .ok (.sipush 1000, 3) := by decide +kernel
theorem dX5_again_90 : decode cX5_again 90 = .ok (.if_icmp .ge 34, 3) := by decide +kernel
theorem dX5_again_93 : decode cX5_again 93 = .ok (.aload_n 0, 1) := by decide +kernel
theorem dX5_again_94 : decode cX5_again 94 = .ok (.aload_n 3, 1) := by decide +kernel
theorem dX5_again_95 : decode cX5_again 95 = .ok (.iload 5, 2) := by decide +kernel
theorem dX5_again_97 : decode cX5_again 97 = .ok (.invokevirtual 188, 3) := by decide +kernel
theorem dX5_again_100 : decode cX5_again 100 = .ok (.aload_n 0, 1) := by decide +kernel
theorem dX5_again_101 : decode cX5_again 101 = .ok (.getfield 10, 3) := by decide +kernel
theorem dX5_again_104 : decode cX5_again 104 = .ok (.iload 5, 2) := by decide +kernel
theorem dX5_again_106 : decode cX5_again 106 = .ok (.invokevirtual 92, 3) := by decide +kernel
theorem dX5_again_109 : decode cX5_again 109 = .ok (.isub, 1) := by decide +kernel
theorem dX5_again_110 : decode cX5_again 110 = .ok (.iload 4, 2) := by decide +kernel
theorem dX5_again_112 : decode cX5_again 112 = .ok (.if_icmp .ne 6, 3) := by decide +kernel
theorem dX5_again_115 : decode cX5_again 115 = .ok (.iload 5, 2) := by decide +kernel
theorem dX5_again_117 : decode cX5_again 117 = .ok (.ireturn, 1) := by decide +kernel
theorem dX5_again_118 : decode cX5_again 118 = .ok (.iinc 5 1, 3) := by decide +kernel
theorem dX5_again_121 : decode cX5_again 121 = .ok (.goto (-45), 3) := by decide +kernel
theorem dX5_again_124 : decode cX5_again 124 = .ok (.iconst (-1), 1) := by decide +kernel
theorem dX5_again_125 : decode cX5_again 125 = .ok (.ireturn, 1) := by decide +kernel
set_option maxRecDepth 20000 in
theorem ggX5_print_X5_isYear : GoodIn wsX5_print wsX5_isYear := goodIn_r _ [12] (by decide +kernel) (by decide +kernel)
set_option maxRecDepth 20000 in
theorem gX5_print_X5_isYear : GoodIn wsX5_print (va_wsS RX5 75 yX5_isYear wsX5_isYear) := goodIn_app (goodIn_of _ (by decide +kernel)) ggX5_print_X5_isYear
set_option maxRecDepth 20000 in
theorem ggX5_print_Jx4a65c_size_8abf5 : GoodIn wsX5_print wsJx4a65c_size_8abf5 := goodIn_r _ [17, 18, 170, 171, 172] (by decide +kernel) (by decide +kernel)
set_option maxRecDepth 20000 in
theorem gX5_print_Jx4a65c_size_8abf5 : GoodIn wsX5_print (wsV RX5 164 RJx4a65c yJx4a65c_size_8abf5 wsJx4a65c_size_8abf5) := goodIn_app (goodIn_of _ (by decide +kernel)) ggX5_print_Jx4a65c_size_8abf5
set_option maxRecDepth 20000 in
theorem ggX5_print_X3_init : GoodIn wsX5_print wsX3_init := goodIn_r _ [21, 22, 23, 24, 25, 26, 27, 166, 167, 168, 169] (by decide +kernel) (by decide +kernel)
set_option maxRecDepth 20000 in
theorem gX5_print_X3_init : GoodIn wsX5_print (wsX3_init) := ggX5_print_X3_init
set_option maxRecDepth 20000 in
theorem ggX5_print_X5_fill : GoodIn wsX5_print wsX5_fill := goodIn_r _ [31, 32, 33, 34, 35, 36, 13, 14, 15, 16, 17, 18, 37, 38, 39, 40, 41, 42, 43, 44, 45, 46, 47, 48, 49, 50, 51, 52, 53, 54, 55, 56, 11, 57, 58, 59, 60, 61, 62, 63, 64, 65, 66, 67, 68, 69, 70, 71, 72, 73, 74, 75, 76, 77, 78, 79, 80, 81, 82, 83, 84, 85, 86, 87, 88, 8, 89, 90, 26, 91, 92, 93, 94, 95, 96, 97, 98, 99, 100, 101, 102, 103, 104, 105, 166, 167, 168, 169, 159, 160, 161, 162, 163, 164, 165, 170, 171, 172, 173, 174, 175, 176, 177, 178, 179, 180, 181, 182, 183] (by decide +kernel) (by decide +kernel)
set_option maxRecDepth 20000 in
theorem gX5_print_X5_fill : GoodIn wsX5_print (wsV RX5 203 RX5 yX5_fill wsX5_fill) := goodIn_app (goodIn_of _ (by decide +kernel)) ggX5_print_X5_fill
set_option maxRecDepth 20000 in
theorem ggX5_print_Jx4a65c_add_9ea2d : GoodIn wsX5_print wsJx4a65c_add_9ea2d := goodIn_r _ [109, 110, 111, 53, 18, 112, 113, 114, 16, 115, 116, 117, 118, 119, 120, 121, 122, 123, 124, 125, 126, 127, 128, 129, 130, 131, 132, 133, 134, 135, 136, 137, 138, 139, 140, 141, 142, 143, 144, 145, 146, 147, 148, 149, 150, 151, 152, 153, 154, 155, 156, 157, 158, 170, 171, 172] (by decide +kernel) (by decide +kernel)
set_option maxRecDepth 20000 in
theorem gX5_print_Jx4a65c_add_9ea2d : GoodIn wsX5_print (wsV RX5 178 RJx4a65c yJx4a65c_add_9ea2d wsJx4a65c_add_9ea2d) := goodIn_app (goodIn_of _ (by decide +kernel)) ggX5_print_Jx4a65c_add_9ea2d
theorem dX5_print_0 : decode cX5_print 0 = .ok (.iload_n 1, 1) := by decide +kernel
theorem dX5_print_1 : decode cX5_print 1 = .ok (.invokestatic 75, 3) := by decide +kernel
theorem dX5_print_4 : decode cX5_print 4 = .ok (.ifCond .ne 13, 3) := by decide +kernel
theorem dX5_print_7 : decode cX5_print 7 = .ok (.new 40, 3) := by decide +kernel
theorem dX5_print_10 : decode cX5_print 10 = .ok (.dup, 1) := by decide +kernel
theorem dX5_print_11 : decode cX5_print 11 = .ok (.ldc 79, 2) := by decide +kernel
theorem dX5_print_13 : decode cX5_print 13 = .ok (.invokespecial 44, 3) := by decide +kernel
theorem dX5_print_16 : decode cX5_print 16 = .ok (.athrow, 1) := by decide +kernel
theorem dX5_print_17 : decode cX5_print 17 = .ok (.aload_n 0, 1) := by decide +kernel
theorem dX5_print_18 : decode cX5_print 18 = .ok (.getfield 37, 3) := by decide +kernel
theorem dX5_print_21 : decode cX5_print 21 = .ok (.invokevirtual 164, 3) := by decide +kernel
theorem dX5_print_24 : decode cX5_print 24 = .ok (.bipush 10, 2) := by decide +kernel
theorem dX5_print_26 : decode cX5_print 26 = .ok (.if_icmp .lt 13, 3) := by decide +kernel
theorem dX5_print_29 : decode cX5_print 29 = .ok (.new 168, 3) := by decide +kernel
theorem dX5_print_32 : decode cX5_print 32 = .ok (.dup, 1) := by decide +kernel
theorem dX5_print_33 : decode cX5_print 33 = .ok (.ldc 196, 2) := by decide +kernel
theorem dX5_print_35 : decode cX5_print 35 = .ok (.invokespecial 172, 3) := by decide +kernel
theorem dX5_print_38 : decode cX5_print 38 = .ok (.athrow, 1) := by decide +kernel
theorem dX5_print_39 : decode cX5_print 39 = .ok (.new 198, 3) := by decide +kernel
theorem dX5_print_42 : decode cX5_print 42 = .ok (.dup, 1) := by decide +kernel
theorem dX5_print_43 : decode cX5_print 43 = .ok (.iload_n 1, 1) := by decide +kernel
theorem dX5_print_44 : decode cX5_print 44 = .ok (.invokespecial 200, 3) := by decide +kernel
theorem dX5_print_47 : decode cX5_print 47 = .ok (.astore_n 2, 1) := by decide +kernel
theorem dX5_print_48 : decode cX5_print 48 = .ok (.aload_n 0, 1) := by decide +kernel
theorem dX5_print_49 : decode cX5_print 49 = .ok (.aload_n 2, 1) := by decide +kernel
theorem dX5_print_50 : decode cX5_print 50 = .ok (.invokevirtual 203, 3) := by decide +kernel
theorem dX5_print_53 : decode cX5_print 53 = .ok (.aload_n 0, 1) := by decide +kernel
theorem dX5_print_54 : decode cX5_print 54 = .ok (.getfield 37, 3) := by decide +kernel
theorem dX5_print_57 : decode cX5_print 57 = .ok (.aload_n 2, 1) := by decide +kernel
theorem dX5_print_58 : decode cX5_print 58 = .ok (.invokevirtual 178, 3) := by decide +kernel
theorem dX5_print_61 : decode cX5_print 61 = .ok (.pop, 1) := by decide +kernel
theorem dX5_print_62 : decode cX5_print 62 = .ok (.aload_n 0, 1) := by decide +kernel
theorem dX5_print_63 : decode cX5_print 63 = .ok (.getfield 37, 3) := by decide +kernel
theorem dX5_print_66 : decode cX5_print 66 = .ok (.invokevirtual 164, 3) := by decide +kernel
theorem dX5_print_69 : decode cX5_print 69 = .ok (.iconst 1, 1) := by decide +kernel
theorem dX5_print_70 : decode cX5_print 70 = .ok (.isub, 1) := by decide +kernel
theorem dX5_print_71 : decode cX5_print 71 = .ok (.ireturn, 1) := by decide +kernel
set_option maxRecDepth 20000 in
theorem ggX5_reprint_X5_isSheet : GoodIn wsX5_reprint wsX5_isSheet := goodIn_r _ [9, 3, 10, 11, 12, 13, 14, 15, 104, 105, 106, 107, 108, 109, 110, 111, 112, 113] (by decide +kernel) (by decide +kernel)
set_option maxRecDepth 20000 in
theorem gX5_reprint_X5_isSheet : GoodIn wsX5_reprint (wsV RX5 207 RX5 yX5_isSheet wsX5_isSheet) := goodIn_app (goodIn_of _ (by decide +kernel)) ggX5_reprint_X5_isSheet
set_option maxRecDepth 20000 in
theorem ggX5_reprint_Jx4a65c_get_915e3 : GoodIn wsX5_reprint wsJx4a65c_get_915e3 := goodIn_r _ [19, 15, 20, 21, 22, 23, 24, 25, 26, 27, 28, 29, 30, 13, 31, 32, 111, 112, 113] (by decide +kernel) (by decide +kernel)
set_option maxRecDepth 20000 in
theorem gX5_reprint_Jx4a65c_get_915e3 : GoodIn wsX5_reprint (wsV RX5 184 RJx4a65c yJx4a65c_get_915e3 wsJx4a65c_get_915e3) := goodIn_app (goodIn_of _ (by decide +kernel)) ggX5_reprint_Jx4a65c_get_915e3
set_option maxRecDepth 20000 in
theorem ggX5_reprint_X5_changedDays : GoodIn wsX5_reprint wsX5_changedDays := goodIn_r _ [36, 37, 38, 39, 40, 10, 11, 12, 13, 14, 15, 16, 17, 18, 19, 20, 21, 22, 23, 24, 25, 26, 27, 28, 29, 30, 31, 32, 41, 42, 43, 8, 44, 45, 46, 47, 48, 49, 50, 51, 52, 53, 54, 55, 56, 57, 58, 59, 60, 61, 62, 63, 64, 65, 66, 67, 68, 69, 70, 71, 72, 73, 74, 75, 76, 77, 78, 114, 115, 116, 117, 104, 105, 106, 107, 108, 109, 110, 111, 112, 113, 118, 119, 120, 121, 122, 123, 124, 125, 126] (by decide +kernel) (by decide +kernel)
set_option maxRecDepth 20000 in
theorem gX5_reprint_X5_changedDays : GoodIn wsX5_reprint (wsV RX5 212 RX5 yX5_changedDays wsX5_changedDays) := goodIn_app (goodIn_of _ (by decide +kernel)) ggX5_reprint_X5_changedDays
set_option maxRecDepth 20000 in
theorem ggX5_reprint_X5_fill : GoodIn wsX5_reprint wsX5_fill := goodIn_r _ [82, 37, 38, 39, 40, 83, 10, 11, 12, 13, 14, 15, 16, 17, 18, 19, 20, 21, 22, 23, 24, 25, 26, 27, 28, 29, 30, 31, 32, 41, 42, 43, 8, 44, 45, 46, 47, 48, 49, 50, 51, 52, 53, 54, 55, 56, 57, 58, 59, 60, 61, 62, 63, 64, 65, 66, 67, 68, 69, 70, 71, 72, 84, 85, 86, 76, 87, 88, 78, 89, 90, 91, 92, 93, 94, 95, 96, 97, 98, 99, 100, 101, 102, 103, 114, 115, 116, 117, 104, 105, 106, 107, 108, 109, 110, 111, 112, 113, 118, 119, 120, 121, 122, 123, 124, 125, 126, 127, 128] (by decide +kernel) (by decide +kernel)
set_option maxRecDepth 20000 in
theorem gX5_reprint_X5_fill : GoodIn wsX5_reprint (wsV RX5 203 RX5 yX5_fill wsX5_fill) := goodIn_app (goodIn_of _ (by decide +kernel)) ggX5_reprint_X5_fill
theorem dX5_reprint_0 : decode cX5_reprint 0 = .ok (.aload_n 0, 1) := by decide +kernel
theorem dX5_reprint_1 : decode cX5_reprint 1 = .ok (.iload_n 1, 1) := by decide +kernel
theorem dX5_reprint_2 : decode cX5_reprint 2 = .ok (.invokevirtual 207, 3) := by decide +kernel
theorem dX5_reprint_5 : decode cX5_reprint 5 = .ok (.ifCond .ne 13, 3) := by decide +kernel
theorem dX5_reprint_8 : decode cX5_reprint 8 = .ok (.new 114, 3) := by decide +kernel
theorem dX5_reprint_11 : decode cX5_reprint 11 = .ok (.dup, 1) := by decide +kernel
theorem dX5_reprint_12 : decode cX5_reprint 12 = .ok (.ldc 210, 2) := by decide +kernel
theorem dX5_reprint_14 : decode cX5_reprint 14 = .ok (.invokespecial 118, 3) := by decide +kernel
theorem dX5_reprint_17 : decode cX5_reprint 17 = .ok (.athrow, 1) := by decide +kernel
theorem dX5_reprint_18 : decode cX5_reprint 18 = .ok (.aload_n 0, 1) := by decide +kernel
theorem dX5_reprint_19 : decode cX5_reprint 19 = .ok (.getfield 37, 3) := by decide +kernel
theorem dX5_reprint_22 : decode cX5_reprint 22 = .ok (.iload_n 1, 1) := by decide +kernel
theorem dX5_reprint_23 : decode cX5_reprint 23 = .ok (.invokevirtual 184, 3) := by decide +kernel
theorem dX5_reprint_26 : decode cX5_reprint 26 = .ok (.checkcast 198, 3) := by decide +kernel
theorem dX5_reprint_29 : decode cX5_reprint 29 = .ok (.astore_n 2, 1) := by decide +kernel
theorem dX5_reprint_30 : decode cX5_reprint 30 = .ok (.aload_n 0, 1) := by decide +kernel
theorem dX5_reprint_31 : decode cX5_reprint 31 = .ok (.aload_n 2, 1) := by decide +kernel
theorem dX5_reprint_32 : decode cX5_reprint 32 = .ok (.invokevirtual 212, 3) := by decide +kernel
theorem dX5_reprint_35 : decode cX5_reprint 35 = .ok (.istore_n 3, 1) := by decide +kernel
theorem dX5_reprint_36 : decode cX5_reprint 36 = .ok (.aload_n 0, 1) := by decide +kernel
theorem dX5_reprint_37 : decode cX5_reprint 37 = .ok (.aload_n 2, 1) := by decide +kernel
theorem dX5_reprint_38 : decode cX5_reprint 38 = .ok (.invokevirtual 203, 3) := by decide +kernel
theorem dX5_reprint_41 : decode cX5_reprint 41 = .ok (.iload_n 3, 1) := by decide +kernel
theorem dX5_reprint_42 : decode cX5_reprint 42 = .ok (.ireturn, 1) := by decide +kernel
set_option maxRecDepth 20000 in
theorem ggX5_sheet_X5_isSheet : GoodIn wsX5_sheet wsX5_isSheet := goodIn_r _ [12, 3, 13, 14, 15, 16, 17, 18, 110, 111, 112, 113, 114, 115, 116, 121, 122, 123] (by decide +kernel) (by decide +kernel)
set_option maxRecDepth 20000 in
theorem gX5_sheet_X5_isSheet : GoodIn wsX5_sheet (wsV RX5 207 RX5 yX5_isSheet wsX5_isSheet) := goodIn_app (goodIn_of _ (by decide +kernel)) ggX5_sheet_X5_isSheet
set_option maxRecDepth 20000 in
theorem ggX5_sheet_Jx4a65c_get_915e3 : GoodIn wsX5_sheet wsJx4a65c_get_915e3 := goodIn_r _ [22, 18, 23, 24, 25, 26, 27, 28, 29, 30, 31, 32, 33, 16, 34, 35, 121, 122, 123] (by decide +kernel) (by decide +kernel)
set_option maxRecDepth 20000 in
theorem gX5_sheet_Jx4a65c_get_915e3 : GoodIn wsX5_sheet (wsV RX5 184 RJx4a65c yJx4a65c_get_915e3 wsJx4a65c_get_915e3) := goodIn_app (goodIn_of _ (by decide +kernel)) ggX5_sheet_Jx4a65c_get_915e3
set_option maxRecDepth 20000 in
theorem ggX5_sheet_X5_isWrong : GoodIn wsX5_sheet wsX5_isWrong := goodIn_r _ [39, 5, 7, 40, 41, 42, 11, 43, 44, 45, 46, 47, 48, 49, 50, 51, 52, 53, 54, 55, 56, 57, 58, 59, 60, 61, 62, 63, 64, 65, 66, 67, 68, 69, 70, 71, 72, 73, 74, 75, 76, 77, 78, 6, 79, 80, 13, 14, 15, 16, 17, 18, 19, 20, 21, 22, 23, 24, 25, 26, 27, 28, 29, 30, 31, 32, 33, 34, 35, 81, 82, 83, 84, 85, 86, 87, 88, 89, 90, 91, 92, 93, 94, 95, 96, 97, 98, 117, 118, 119, 120, 110, 111, 112, 113, 114, 115, 116, 124, 125, 126, 127, 128, 129, 121, 122, 123, 130, 131, 132, 133, 134] (by decide +kernel) (by decide +kernel)
set_option maxRecDepth 20000 in
theorem gX5_sheet_X5_isWrong : GoodIn wsX5_sheet (wsV RX5 225 RX5 yX5_isWrong wsX5_isWrong) := goodIn_app (goodIn_of _ (by decide +kernel)) ggX5_sheet_X5_isWrong
set_option maxRecDepth 20000 in
theorem ggX5_sheet_X5_greatestShift : GoodIn wsX5_sheet wsX5_greatestShift := goodIn_r _ [102, 6, 79, 80, 5, 103, 104, 105, 106, 107, 108, 109, 13, 14, 15, 16, 17, 18, 19, 20, 21, 22, 23, 24, 25, 26, 27, 28, 29, 30, 31, 32, 33, 34, 35, 81, 82, 83, 11, 84, 45, 85, 86, 87, 44, 88, 89, 47, 48, 49, 50, 51, 52, 53, 90, 91, 92, 54, 55, 56, 57, 58, 59, 60, 61, 62, 63, 64, 93, 94, 95, 96, 97, 98, 117, 118, 119, 120, 110, 111, 112, 113, 114, 115, 116, 121, 122, 123, 130, 131, 132, 133, 134, 124, 125, 126, 127] (by decide +kernel) (by decide +kernel)
set_option maxRecDepth 20000 in
theorem gX5_sheet_X5_greatestShift : GoodIn wsX5_sheet (wsV RX5 229 RX5 yX5_greatestShift wsX5_greatestShift) := goodIn_app (goodIn_of _ (by decide +kernel)) ggX5_sheet_X5_greatestShift
theorem dX5_sheet_0 : decode cX5_sheet 0 = .ok (.aload_n 0, 1) := by decide +kernel
theorem dX5_sheet_1 : decode cX5_sheet 1 = .ok (.iload_n 1, 1) := by decide +kernel
theorem dX5_sheet_2 : decode cX5_sheet 2 = .ok (.invokevirtual 207, 3) := by decide +kernel
theorem dX5_sheet_5 : decode cX5_sheet 5 = .ok (.ifCond .ne 13, 3) := by decide +kernel
theorem dX5_sheet_8 : decode cX5_sheet 8 = .ok (.new 114, 3) := by decide +kernel
theorem dX5_sheet_11 : decode cX5_sheet 11 = .ok (.dup, 1) := by decide +kernel
theorem dX5_sheet_12 : decode cX5_sheet 12 = .ok (.ldc 210, 2) := by decide +kernel
theorem dX5_sheet_14 : decode cX5_sheet 14 = .ok (.invokespecial 118, 3) := by decide +kernel
theorem dX5_sheet_17 : decode cX5_sheet 17 = .ok (.athrow, 1) := by decide +kernel
theorem dX5_sheet_18 : decode cX5_sheet 18 = .ok (.aload_n 0, 1) := by decide +kernel
theorem dX5_sheet_19 : decode cX5_sheet 19 = .ok (.getfield 37, 3) := by decide +kernel
theorem dX5_sheet_22 : decode cX5_sheet 22 = .ok (.iload_n 1, 1) := by decide +kernel
theorem dX5_sheet_23 : decode cX5_sheet 23 = .ok (.invokevirtual 184, 3) := by decide +kernel
theorem dX5_sheet_26 : decode cX5_sheet 26 = .ok (.checkcast 198, 3) := by decide +kernel
theorem dX5_sheet_29 : decode cX5_sheet 29 = .ok (.astore_n 3, 1) := by decide +kernel
theorem dX5_sheet_30 : decode cX5_sheet 30 = .ok (.iload_n 2, 1) := by decide +kernel
theorem dX5_sheet_31 : decode cX5_sheet 31 = .ok (.tableswitch 68 0 4 #[33, 38, 43, 48, 62], 33) := by decide +kernel
theorem dX5_sheet_64 : decode cX5_sheet 64 = .ok (.aload_n 3, 1) := by decide +kernel
theorem dX5_sheet_65 : decode cX5_sheet 65 = .ok (.getfield 216, 3) := by decide +kernel
theorem dX5_sheet_68 : decode cX5_sheet 68 = .ok (.ireturn, 1) := by decide +kernel
theorem dX5_sheet_69 : decode cX5_sheet 69 = .ok (.aload_n 3, 1) := by decide +kernel
theorem dX5_sheet_70 : decode cX5_sheet 70 = .ok (.getfield 219, 3) := by decide +kernel
theorem dX5_sheet_73 : decode cX5_sheet 73 = .ok (.ireturn, 1) := by decide +kernel
theorem dX5_sheet_74 : decode cX5_sheet 74 = .ok (.aload_n 3, 1) := by decide +kernel
theorem dX5_sheet_75 : decode cX5_sheet 75 = .ok (.getfield 222, 3) := by decide +kernel
theorem dX5_sheet_78 : decode cX5_sheet 78 = .ok (.ireturn, 1) := by decide +kernel
theorem dX5_sheet_79 : decode cX5_sheet 79 = .ok (.aload_n 0, 1) := by decide +kernel
theorem dX5_sheet_80 : decode cX5_sheet 80 = .ok (.aload_n 3, 1) := by decide +kernel
theorem dX5_sheet_81 : decode cX5_sheet 81 = .ok (.invokevirtual 225, 3) := by decide +kernel
theorem dX5_sheet_84 : decode cX5_sheet 84 = .ok (.ifCond .eq 7, 3) := by decide +kernel
theorem dX5_sheet_87 : decode cX5_sheet 87 = .ok (.iconst 1, 1) := by decide +kernel
theorem dX5_sheet_88 : decode cX5_sheet 88 = .ok (.goto 4, 3) := by decide +kernel
theorem dX5_sheet_91 : decode cX5_sheet 91 = .ok (.iconst 0, 1) := by decide +kernel
theorem dX5_sheet_92 : decode cX5_sheet 92 = .ok (.ireturn, 1) := by decide +kernel
theorem dX5_sheet_93 : decode cX5_sheet 93 = .ok (.aload_n 0, 1) := by decide +kernel
theorem dX5_sheet_94 : decode cX5_sheet 94 = .ok (.aload_n 3, 1) := by decide +kernel
theorem dX5_sheet_95 : decode cX5_sheet 95 = .ok (.invokevirtual 229, 3) := by decide +kernel
theorem dX5_sheet_98 : decode cX5_sheet 98 = .ok (.ireturn, 1) := by decide +kernel
theorem dX5_sheet_99 : decode cX5_sheet 99 = .ok (.new 114, 3) := by decide +kernel
theorem dX5_sheet_102 : decode cX5_sheet 102 = .ok (.dup, 1) := by decide +kernel
theorem dX5_sheet_103 : decode cX5_sheet 103 = .ok (.ldc 232, 2) := by decide +kernel
theorem dX5_sheet_105 : decode cX5_sheet 105 = .ok (.invokespecial 118, 3) := by decide +kernel
theorem dX5_sheet_108 : decode cX5_sheet 108 = .ok (.athrow, 1) := by decide +kernel
set_option maxRecDepth 20000 in
theorem ggX5_printed_X5_isSheet : GoodIn wsX5_printed wsX5_isSheet := goodIn_r _ [10, 3, 11, 12, 13, 14, 15, 16, 40, 41, 42, 43, 44, 45, 46, 51, 52, 53] (by decide +kernel) (by decide +kernel)
set_option maxRecDepth 20000 in
theorem gX5_printed_X5_isSheet : GoodIn wsX5_printed (wsV RX5 207 RX5 yX5_isSheet wsX5_isSheet) := goodIn_app (goodIn_of _ (by decide +kernel)) ggX5_printed_X5_isSheet
set_option maxRecDepth 20000 in
theorem ggX5_printed_Jx4a65c_get_915e3 : GoodIn wsX5_printed wsJx4a65c_get_915e3 := goodIn_r _ [20, 16, 21, 22, 23, 24, 25, 26, 27, 28, 29, 30, 31, 14, 32, 33, 51, 52, 53] (by decide +kernel) (by decide +kernel)
set_option maxRecDepth 20000 in
theorem gX5_printed_Jx4a65c_get_915e3 : GoodIn wsX5_printed (wsV RX5 184 RJx4a65c yJx4a65c_get_915e3 wsJx4a65c_get_915e3) := goodIn_app (goodIn_of _ (by decide +kernel)) ggX5_printed_Jx4a65c_get_915e3
set_option maxRecDepth 20000 in
theorem ggX5_printed_X3_dayAt : GoodIn wsX5_printed wsX3_dayAt := goodIn_r _ [38, 39, 47, 48, 49, 50] (by decide +kernel) (by decide +kernel)
set_option maxRecDepth 20000 in
theorem gX5_printed_X3_dayAt : GoodIn wsX5_printed (wsV RX5 236 RX3 yX3_dayAt wsX3_dayAt) := goodIn_app (goodIn_of _ (by decide +kernel)) ggX5_printed_X3_dayAt
theorem dX5_printed_0 : decode cX5_printed 0 = .ok (.aload_n 0, 1) := by decide +kernel
theorem dX5_printed_1 : decode cX5_printed 1 = .ok (.iload_n 1, 1) := by decide +kernel
theorem dX5_printed_2 : decode cX5_printed 2 = .ok (.invokevirtual 207, 3) := by decide +kernel
theorem dX5_printed_5 : decode cX5_printed 5 = .ok (.ifCond .ne 13, 3) := by decide +kernel
theorem dX5_printed_8 : decode cX5_printed 8 = .ok (.new 114, 3) := by decide +kernel
theorem dX5_printed_11 : decode cX5_printed 11 = .ok (.dup, 1) := by decide +kernel
theorem dX5_printed_12 : decode cX5_printed 12 = .ok (.ldc 210, 2) := by decide +kernel
theorem dX5_printed_14 : decode cX5_printed 14 = .ok (.invokespecial 118, 3) := by decide +kernel
theorem dX5_printed_17 : decode cX5_printed 17 = .ok (.athrow, 1) := by decide +kernel
theorem dX5_printed_18 : decode cX5_printed 18 = .ok (.aload_n 0, 1) := by decide +kernel
theorem dX5_printed_19 : decode cX5_printed 19 = .ok (.getfield 37, 3) := by decide +kernel
theorem dX5_printed_22 : decode cX5_printed 22 = .ok (.iload_n 1, 1) := by decide +kernel
theorem dX5_printed_23 : decode cX5_printed 23 = .ok (.invokevirtual 184, 3) := by decide +kernel
theorem dX5_printed_26 : decode cX5_printed 26 = .ok (.checkcast 198, 3) := by decide +kernel
theorem dX5_printed_29 : decode cX5_printed 29 = .ok (.astore_n 3, 1) := by decide +kernel
theorem dX5_printed_30 : decode cX5_printed 30 = .ok (.iload_n 2, 1) := by decide +kernel
theorem dX5_printed_31 : decode cX5_printed 31 = .ok (.ifCond .lt 11, 3) := by decide +kernel
theorem dX5_printed_34 : decode cX5_printed 34 = .ok (.iload_n 2, 1) := by decide +kernel
theorem dX5_printed_35 : decode cX5_printed 35 = .ok (.aload_n 3, 1) := by decide +kernel
theorem dX5_printed_36 : decode cX5_printed 36 = .ok (.getfield 219, 3) := by decide +kernel
theorem dX5_printed_39 : decode cX5_printed 39 = .ok (.if_icmp .lt 13, 3) := by decide +kernel
theorem dX5_printed_42 : decode cX5_printed 42 = .ok (.new 114, 3) := by decide +kernel
theorem dX5_printed_45 : decode cX5_printed 45 = .ok (.dup, 1) := by decide +kernel
theorem dX5_printed_46 : decode cX5_printed 46 = .ok (.ldc 234, 2) := by decide +kernel
theorem dX5_printed_48 : decode cX5_printed 48 = .ok (.invokespecial 118, 3) := by decide +kernel
theorem dX5_printed_51 : decode cX5_printed 51 = .ok (.athrow, 1) := by decide +kernel
theorem dX5_printed_52 : decode cX5_printed 52 = .ok (.aload_n 3, 1) := by decide +kernel
theorem dX5_printed_53 : decode cX5_printed 53 = .ok (.iload_n 2, 1) := by decide +kernel
theorem dX5_printed_54 : decode cX5_printed 54 = .ok (.invokevirtual 236, 3) := by decide +kernel
theorem dX5_printed_57 : decode cX5_printed 57 = .ok (.ireturn, 1) := by decide +kernel
set_option maxRecDepth 20000 in
theorem ggX5_count_Jx4a65c_size_8abf5 : GoodIn wsX5_count wsJx4a65c_size_8abf5 := goodIn_r _ [20, 21, 120, 121, 122] (by decide +kernel) (by decide +kernel)
set_option maxRecDepth 20000 in
theorem gX5_count_Jx4a65c_size_8abf5 : GoodIn wsX5_count (wsV RX5 164 RJx4a65c yJx4a65c_size_8abf5 wsJx4a65c_size_8abf5) := goodIn_app (goodIn_of _ (by decide +kernel)) ggX5_count_Jx4a65c_size_8abf5
set_option maxRecDepth 20000 in
theorem ggX5_count_X5_wrongSheets : GoodIn wsX5_count wsX5_wrongSheets := goodIn_r _ [26, 13, 27, 16, 17, 18, 19, 20, 21, 28, 29, 30, 31, 32, 33, 34, 35, 36, 37, 38, 39, 40, 41, 42, 43, 44, 45, 46, 47, 25, 48, 49, 50, 51, 52, 53, 54, 6, 3, 9, 55, 56, 57, 58, 59, 60, 61, 62, 63, 64, 65, 66, 67, 68, 69, 70, 71, 72, 73, 74, 75, 76, 77, 78, 79, 80, 81, 82, 83, 84, 85, 86, 87, 12, 88, 89, 90, 91, 92, 93, 94, 95, 96, 97, 98, 99, 100, 101, 102, 103, 104, 105, 106, 107, 108, 109, 110, 111, 112, 113, 120, 121, 122, 123, 124, 125, 126, 114, 115, 116, 117, 118, 119, 127, 128, 129, 130, 131] (by decide +kernel) (by decide +kernel)
set_option maxRecDepth 20000 in
theorem gX5_count_X5_wrongSheets : GoodIn wsX5_count (wsV RX5 239 RX5 yX5_wrongSheets wsX5_wrongSheets) := goodIn_app (goodIn_of _ (by decide +kernel)) ggX5_count_X5_wrongSheets
theorem dX5_count_0 : decode cX5_count 0 = .ok (.iload_n 1, 1) := by decide +kernel
theorem dX5_count_1 : decode cX5_count 1 = .ok (.tableswitch 138 0 10 #[59, 67, 75, 83, 91, 99, 107, 115, 123, 128, 133], 59) := by decide +kernel
theorem dX5_count_60 : decode cX5_count 60 = .ok (.aload_n 0, 1) := by decide +kernel
theorem dX5_count_61 : decode cX5_count 61 = .ok (.getfield 10, 3) := by decide +kernel
theorem dX5_count_64 : decode cX5_count 64 = .ok (.getfield 47, 3) := by decide +kernel
theorem dX5_count_67 : decode cX5_count 67 = .ok (.ireturn, 1) := by decide +kernel
theorem dX5_count_68 : decode cX5_count 68 = .ok (.aload_n 0, 1) := by decide +kernel
theorem dX5_count_69 : decode cX5_count 69 = .ok (.getfield 10, 3) := by decide +kernel
theorem dX5_count_72 : decode cX5_count 72 = .ok (.getfield 51, 3) := by decide +kernel
theorem dX5_count_75 : decode cX5_count 75 = .ok (.ireturn, 1) := by decide +kernel
theorem dX5_count_76 : decode cX5_count 76 = .ok (.aload_n 0, 1) := by decide +kernel
theorem dX5_count_77 : decode cX5_count 77 = .ok (.getfield 19, 3) := by decide +kernel
theorem dX5_count_80 : decode cX5_count 80 = .ok (.getfield 58, 3) := by decide +kernel
theorem dX5_count_83 : decode cX5_count 83 = .ok (.ireturn, 1) := by decide +kernel
theorem dX5_count_84 : decode cX5_count 84 = .ok (.aload_n 0, 1) := by decide +kernel
theorem dX5_count_85 : decode cX5_count 85 = .ok (.getfield 19, 3) := by decide +kernel
theorem dX5_count_88 : decode cX5_count 88 = .ok (.getfield 61, 3) := by decide +kernel
theorem dX5_count_91 : decode cX5_count 91 = .ok (.ireturn, 1) := by decide +kernel
theorem dX5_count_92 : decode cX5_count 92 = .ok (.aload_n 0, 1) := by decide +kernel
theorem dX5_count_93 : decode cX5_count 93 = .ok (.getfield 26, 3) := by decide +kernel
theorem dX5_count_96 : decode cX5_count 96 = .ok (.getfield 69, 3) := by decide +kernel
theorem dX5_count_99 : decode cX5_count 99 = .ok (.ireturn, 1) := by decide +kernel
theorem dX5_count_100 : decode cX5_count 100 = .ok (.aload_n 0, 1) := by decide +kernel
theorem dX5_count_101 : decode cX5_count 101 = .ok (.getfield 26, 3) := by decide +kernel
theorem dX5_count_104 : decode cX5_count 104 = .ok (.getfield 72, 3) := by decide +kernel
theorem dX5_count_107 : decode cX5_count 107 = .ok (.ireturn, 1) := by decide +kernel
theorem dX5_count_108 : decode cX5_count 108 = .ok (.aload_n 0, 1) := by decide +kernel
theorem dX5_count_109 : decode cX5_count 109 = .ok (.getfield 33, 3) := by decide +kernel
theorem dX5_count_112 : decode cX5_count 112 = .ok (.invokevirtual 164, 3) := by decide +kernel
theorem dX5_count_115 : decode cX5_count 115 = .ok (.ireturn, 1) := by decide +kernel
theorem dX5_count_116 : decode cX5_count 116 = .ok (.aload_n 0, 1) := by decide +kernel
theorem dX5_count_117 : decode cX5_count 117 = .ok (.getfield 37, 3) := by decide +kernel
theorem dX5_count_120 : decode cX5_count 120 = .ok (.invokevirtual 164, 3) := by decide +kernel
theorem dX5_count_123 : decode cX5_count 123 = .ok (.ireturn, 1) := by decide +kernel
theorem dX5_count_124 : decode cX5_count 124 = .ok (.aload_n 0, 1) := by decide +kernel
theorem dX5_count_125 : decode cX5_count 125 = .ok (.invokevirtual 239, 3) := by decide +kernel
theorem dX5_count_128 : decode cX5_count 128 = .ok (.ireturn, 1) := by decide +kernel
theorem dX5_count_129 : decode cX5_count 129 = .ok (.aload_n 0, 1) := by decide +kernel
theorem dX5_count_130 : decode cX5_count 130 = .ok (.getfield 150, 3) := by decide +kernel
theorem dX5_count_133 : decode cX5_count 133 = .ok (.ireturn, 1) := by decide +kernel
theorem dX5_count_134 : decode cX5_count 134 = .ok (.aload_n 0, 1) := by decide +kernel
theorem dX5_count_135 : decode cX5_count 135 = .ok (.getfield 157, 3) := by decide +kernel
theorem dX5_count_138 : decode cX5_count 138 = .ok (.ireturn, 1) := by decide +kernel
theorem dX5_count_139 : decode cX5_count 139 = .ok (.new 114, 3) := by decide +kernel
theorem dX5_count_142 : decode cX5_count 142 = .ok (.dup, 1) := by decide +kernel
theorem dX5_count_143 : decode cX5_count 143 = .ok (.ldc 242, 2) := by decide +kernel
theorem dX5_count_145 : decode cX5_count 145 = .ok (.invokespecial 118, 3) := by decide +kernel
theorem dX5_count_148 : decode cX5_count 148 = .ok (.athrow, 1) := by decide +kernel
theorem dX5_mean_0 : decode cX5_mean 0 = .ok (.aload_n 0, 1) := by decide +kernel
theorem dX5_mean_1 : decode cX5_mean 1 = .ok (.getfield 10, 3) := by decide +kernel
theorem dX5_mean_4 : decode cX5_mean 4 = .ok (.getfield 47, 3) := by decide +kernel
theorem dX5_mean_7 : decode cX5_mean 7 = .ok (.iconst 1, 1) := by decide +kernel
theorem dX5_mean_8 : decode cX5_mean 8 = .ok (.if_icmp .ge 9, 3) := by decide +kernel
theorem dX5_mean_11 : decode cX5_mean 11 = .ok (.ldc2_w 250, 3) := by decide +kernel
theorem dX5_mean_14 : decode cX5_mean 14 = .ok (.goto 24, 3) := by decide +kernel
theorem dX5_mean_17 : decode cX5_mean 17 = .ok (.ldc2_w 250, 3) := by decide +kernel
theorem dX5_mean_20 : decode cX5_mean 20 = .ok (.aload_n 0, 1) := by decide +kernel
theorem dX5_mean_21 : decode cX5_mean 21 = .ok (.getfield 10, 3) := by decide +kernel
theorem dX5_mean_24 : decode cX5_mean 24 = .ok (.getfield 51, 3) := by decide +kernel
theorem dX5_mean_27 : decode cX5_mean 27 = .ok (.i2d, 1) := by decide +kernel
theorem dX5_mean_28 : decode cX5_mean 28 = .ok (.aload_n 0, 1) := by decide +kernel
theorem dX5_mean_29 : decode cX5_mean 29 = .ok (.getfield 10, 3) := by decide +kernel
theorem dX5_mean_32 : decode cX5_mean 32 = .ok (.getfield 47, 3) := by decide +kernel
theorem dX5_mean_35 : decode cX5_mean 35 = .ok (.i2d, 1) := by decide +kernel
theorem dX5_mean_36 : decode cX5_mean 36 = .ok (.ddiv, 1) := by decide +kernel
theorem dX5_mean_37 : decode cX5_mean 37 = .ok (.dadd, 1) := by decide +kernel
theorem dX5_mean_38 : decode cX5_mean 38 = .ok (.dreturn, 1) := by decide +kernel
theorem dX5_isYear_0 : decode cX5_isYear 0 = .ok (.iload_n 0, 1) := by decide +kernel
theorem dX5_isYear_1 : decode cX5_isYear 1 = .ok (.ifCond .lt 14, 3) := by decide +kernel
theorem dX5_isYear_4 : decode cX5_isYear 4 = .ok (.iload_n 0, 1) := by decide +kernel
theorem dX5_isYear_5 : decode cX5_isYear 5 = .ok (.sipush 1000, 3) := by decide +kernel
theorem dX5_isYear_8 : decode cX5_isYear 8 = .ok (.if_icmp .ge 7, 3) := by decide +kernel
theorem dX5_isYear_11 : decode cX5_isYear 11 = .ok (.iconst 1, 1) := by decide +kernel
theorem dX5_isYear_12 : decode cX5_isYear 12 = .ok (.goto 4, 3) := by decide +kernel
theorem dX5_isYear_15 : decode cX5_isYear 15 = .ok (.iconst 0, 1) := by decide +kernel
theorem dX5_isYear_16 : decode cX5_isYear 16 = .ok (.ireturn, 1) := by decide +kernel
set_option maxRecDepth 20000 in
theorem ggX5_isDay_X4_firstDay : GoodIn wsX5_isDay wsX4_firstDay := goodIn_r _ [6, 7, 8, 16, 17] (by decide +kernel) (by decide +kernel)
set_option maxRecDepth 20000 in
theorem gX5_isDay_X4_firstDay : GoodIn wsX5_isDay (wsV RX5 92 RX4 yX4_firstDay wsX4_firstDay) := goodIn_app (goodIn_of _ (by decide +kernel)) ggX5_isDay_X4_firstDay
theorem dX5_isDay_0 : decode cX5_isDay 0 = .ok (.iload_n 1, 1) := by decide +kernel
theorem dX5_isDay_1 : decode cX5_isDay 1 = .ok (.ifCond .lt 21, 3) := by decide +kernel
theorem dX5_isDay_4 : decode cX5_isDay 4 = .ok (.iload_n 1, 1) := by decide +kernel
theorem dX5_isDay_5 : decode cX5_isDay 5 = .ok (.aload_n 0, 1) := by decide +kernel
theorem dX5_isDay_6 : decode cX5_isDay 6 = .ok (.getfield 10, 3) := by decide +kernel
theorem dX5_isDay_9 : decode cX5_isDay 9 = .ok (.sipush 1000, 3) := by decide +kernel
theorem dX5_isDay_12 : decode cX5_isDay 12 = .ok (.invokevirtual 92, 3) := by decide +kernel
theorem dX5_isDay_15 : decode cX5_isDay 15 = .ok (.if_icmp .ge 7, 3) := by decide +kernel
theorem dX5_isDay_18 : decode cX5_isDay 18 = .ok (.iconst 1, 1) := by decide +kernel
theorem dX5_isDay_19 : decode cX5_isDay 19 = .ok (.goto 4, 3) := by decide +kernel
theorem dX5_isDay_22 : decode cX5_isDay 22 = .ok (.iconst 0, 1) := by decide +kernel
theorem dX5_isDay_23 : decode cX5_isDay 23 = .ok (.ireturn, 1) := by decide +kernel
set_option maxRecDepth 20000 in
theorem ggX5_isSheet_Jx4a65c_size_8abf5 : GoodIn wsX5_isSheet wsJx4a65c_size_8abf5 := goodIn_r _ [6, 7, 15, 16, 17] (by decide +kernel) (by decide +kernel)
set_option maxRecDepth 20000 in
theorem gX5_isSheet_Jx4a65c_size_8abf5 : GoodIn wsX5_isSheet (wsV RX5 164 RJx4a65c yJx4a65c_size_8abf5 wsJx4a65c_size_8abf5) := goodIn_app (goodIn_of _ (by decide +kernel)) ggX5_isSheet_Jx4a65c_size_8abf5
theorem dX5_isSheet_0 : decode cX5_isSheet 0 = .ok (.iload_n 1, 1) := by decide +kernel
theorem dX5_isSheet_1 : decode cX5_isSheet 1 = .ok (.ifCond .lt 18, 3) := by decide +kernel
theorem dX5_isSheet_4 : decode cX5_isSheet 4 = .ok (.iload_n 1, 1) := by decide +kernel
theorem dX5_isSheet_5 : decode cX5_isSheet 5 = .ok (.aload_n 0, 1) := by decide +kernel
theorem dX5_isSheet_6 : decode cX5_isSheet 6 = .ok (.getfield 37, 3) := by decide +kernel
theorem dX5_isSheet_9 : decode cX5_isSheet 9 = .ok (.invokevirtual 164, 3) := by decide +kernel
theorem dX5_isSheet_12 : decode cX5_isSheet 12 = .ok (.if_icmp .ge 7, 3) := by decide +kernel
theorem dX5_isSheet_15 : decode cX5_isSheet 15 = .ok (.iconst 1, 1) := by decide +kernel
theorem dX5_isSheet_16 : decode cX5_isSheet 16 = .ok (.goto 4, 3) := by decide +kernel
theorem dX5_isSheet_19 : decode cX5_isSheet 19 = .ok (.iconst 0, 1) := by decide +kernel
theorem dX5_isSheet_20 : decode cX5_isSheet 20 = .ok (.ireturn, 1) := by decide +kernel
theorem dX5_inYear_0 : decode cX5_inYear 0 = .ok (.bipush 30, 2) := by decide +kernel
theorem dX5_inYear_2 : decode cX5_inYear 2 = .ok (.iload_n 0, 1) := by decide +kernel
theorem dX5_inYear_3 : decode cX5_inYear 3 = .ok (.imul, 1) := by decide +kernel
theorem dX5_inYear_4 : decode cX5_inYear 4 = .ok (.iload_n 0, 1) := by decide +kernel
theorem dX5_inYear_5 : decode cX5_inYear 5 = .ok (.iconst 2, 1) := by decide +kernel
theorem dX5_inYear_6 : decode cX5_inYear 6 = .ok (.idiv, 1) := by decide +kernel
theorem dX5_inYear_7 : decode cX5_inYear 7 = .ok (.iadd, 1) := by decide +kernel
theorem dX5_inYear_8 : decode cX5_inYear 8 = .ok (.iload_n 1, 1) := by decide +kernel
theorem dX5_inYear_9 : decode cX5_inYear 9 = .ok (.iadd, 1) := by decide +kernel
theorem dX5_inYear_10 : decode cX5_inYear 10 = .ok (.ireturn, 1) := by decide +kernel
set_option maxRecDepth 20000 in
theorem ggX5_daysSinceNewMoon_X1_firstFrom : GoodIn wsX5_daysSinceNewMoon wsX1_firstFrom := goodIn_r _ [6, 7, 8, 20, 21] (by decide +kernel) (by decide +kernel)
set_option maxRecDepth 20000 in
theorem gX5_daysSinceNewMoon_X1_firstFrom : GoodIn wsX5_daysSinceNewMoon (wsV RX5 269 RX1 yX1_firstFrom wsX1_firstFrom) := goodIn_app (goodIn_of _ (by decide +kernel)) ggX5_daysSinceNewMoon_X1_firstFrom
set_option maxRecDepth 20000 in
theorem ggX5_daysSinceNewMoon_X1_timeOf : GoodIn wsX5_daysSinceNewMoon wsX1_timeOf := goodIn_r _ [12, 7, 8, 20, 21] (by decide +kernel) (by decide +kernel)
set_option maxRecDepth 20000 in
theorem gX5_daysSinceNewMoon_X1_timeOf : GoodIn wsX5_daysSinceNewMoon (wsV RX5 128 RX1 yX1_timeOf wsX1_timeOf) := goodIn_app (goodIn_of _ (by decide +kernel)) ggX5_daysSinceNewMoon_X1_timeOf
theorem dX5_daysSinceNewMoon_0 : decode cX5_daysSinceNewMoon 0 = .ok (.aload_n 0, 1) := by decide +kernel
theorem dX5_daysSinceNewMoon_1 : decode cX5_daysSinceNewMoon 1 = .ok (.getfield 19, 3) := by decide +kernel
theorem dX5_daysSinceNewMoon_4 : decode cX5_daysSinceNewMoon 4 = .ok (.sipush 1000, 3) := by decide +kernel
theorem dX5_daysSinceNewMoon_7 : decode cX5_daysSinceNewMoon 7 = .ok (.iload_n 1, 1) := by decide +kernel
theorem dX5_daysSinceNewMoon_8 : decode cX5_daysSinceNewMoon 8 = .ok (.iconst 1, 1) := by decide +kernel
theorem dX5_daysSinceNewMoon_9 : decode cX5_daysSinceNewMoon 9 = .ok (.iadd, 1) := by decide +kernel
theorem dX5_daysSinceNewMoon_10 : decode cX5_daysSinceNewMoon 10 = .ok (.imul, 1) := by decide +kernel
theorem dX5_daysSinceNewMoon_11 : decode cX5_daysSinceNewMoon 11 = .ok (.iconst 0, 1) := by decide +kernel
theorem dX5_daysSinceNewMoon_12 : decode cX5_daysSinceNewMoon 12 = .ok (.invokevirtual 269, 3) := by decide +kernel
theorem dX5_daysSinceNewMoon_15 : decode cX5_daysSinceNewMoon 15 = .ok (.iconst 1, 1) := by decide +kernel
theorem dX5_daysSinceNewMoon_16 : decode cX5_daysSinceNewMoon 16 = .ok (.isub, 1) := by decide +kernel
theorem dX5_daysSinceNewMoon_17 : decode cX5_daysSinceNewMoon 17 = .ok (.istore_n 2, 1) := by decide +kernel
theorem dX5_daysSinceNewMoon_18 : decode cX5_daysSinceNewMoon 18 = .ok (.iload_n 2, 1) := by decide +kernel
theorem dX5_daysSinceNewMoon_19 : decode cX5_daysSinceNewMoon 19 = .ok (.ifCond .ge 7, 3) := by decide +kernel
theorem dX5_daysSinceNewMoon_22 : decode cX5_daysSinceNewMoon 22 = .ok (.iconst (-1), 1) := by decide +kernel
theorem dX5_daysSinceNewMoon_23 : decode cX5_daysSinceNewMoon 23 = .ok (.goto 18, 3) := by decide +kernel
theorem dX5_daysSinceNewMoon_26 : decode cX5_daysSinceNewMoon 26 = .ok (.iload_n 1, 1) := by decide +kernel
theorem dX5_daysSinceNewMoon_27 : decode cX5_daysSinceNewMoon 27 = .ok (.aload_n 0, 1) := by decide +kernel
theorem dX5_daysSinceNewMoon_28 : decode cX5_daysSinceNewMoon 28 = .ok (.getfield 19, 3) := by decide +kernel
theorem dX5_daysSinceNewMoon_31 : decode cX5_daysSinceNewMoon 31 = .ok (.iload_n 2, 1) := by decide +kernel
theorem dX5_daysSinceNewMoon_32 : decode cX5_daysSinceNewMoon 32 = .ok (.iconst 0, 1) := by decide +kernel
theorem dX5_daysSinceNewMoon_33 : decode cX5_daysSinceNewMoon 33 = .ok (.invokevirtual 128, 3) := by decide +kernel
theorem dX5_daysSinceNewMoon_36 : decode cX5_daysSinceNewMoon 36 = .ok (.sipush 1000, 3) := by decide +kernel
theorem dX5_daysSinceNewMoon_39 : decode cX5_daysSinceNewMoon 39 = .ok (.idiv, 1) := by decide +kernel
theorem dX5_daysSinceNewMoon_40 : decode cX5_daysSinceNewMoon 40 = .ok (.isub, 1) := by decide +kernel
theorem dX5_daysSinceNewMoon_41 : decode cX5_daysSinceNewMoon 41 = .ok (.ireturn, 1) := by decide +kernel
set_option maxRecDepth 20000 in
theorem ggX5_countEclipses_X4_firstDay : GoodIn wsX5_countEclipses wsX4_firstDay := goodIn_r _ [8, 9, 10, 40, 41] (by decide +kernel) (by decide +kernel)
set_option maxRecDepth 20000 in
theorem gX5_countEclipses_X4_firstDay : GoodIn wsX5_countEclipses (wsV RX5 92 RX4 yX4_firstDay wsX4_firstDay) := goodIn_app (goodIn_of _ (by decide +kernel)) ggX5_countEclipses_X4_firstDay
set_option maxRecDepth 20000 in
theorem ggX5_countEclipses_X1_firstFrom : GoodIn wsX5_countEclipses wsX1_firstFrom := goodIn_r _ [15, 16, 17, 42, 43] (by decide +kernel) (by decide +kernel)
set_option maxRecDepth 20000 in
theorem gX5_countEclipses_X1_firstFrom : GoodIn wsX5_countEclipses (wsV RX5 269 RX1 yX1_firstFrom wsX1_firstFrom) := goodIn_app (goodIn_of _ (by decide +kernel)) ggX5_countEclipses_X1_firstFrom
set_option maxRecDepth 20000 in
theorem ggX5_countEclipses_X1_timeOf : GoodIn wsX5_countEclipses wsX1_timeOf := goodIn_r _ [21, 16, 17, 42, 43] (by decide +kernel) (by decide +kernel)
set_option maxRecDepth 20000 in
theorem gX5_countEclipses_X1_timeOf : GoodIn wsX5_countEclipses (wsV RX5 128 RX1 yX1_timeOf wsX1_timeOf) := goodIn_app (goodIn_of _ (by decide +kernel)) ggX5_countEclipses_X1_timeOf
set_option maxRecDepth 20000 in
theorem ggX5_countEclipses_X5_reach : GoodIn wsX5_countEclipses wsX5_reach := goodIn_r _ [25] (by decide +kernel) (by decide +kernel)
set_option maxRecDepth 20000 in
theorem gX5_countEclipses_X5_reach : GoodIn wsX5_countEclipses (va_wsS RX5 272 yX5_reach wsX5_reach) := goodIn_app (goodIn_of _ (by decide +kernel)) ggX5_countEclipses_X5_reach
set_option maxRecDepth 20000 in
theorem ggX5_countEclipses_X2_isNear : GoodIn wsX5_countEclipses wsX2_isNear := goodIn_r _ [30, 31, 32, 44, 45] (by decide +kernel) (by decide +kernel)
set_option maxRecDepth 20000 in
theorem gX5_countEclipses_X2_isNear : GoodIn wsX5_countEclipses (wsV RX5 276 RX2 yX2_isNear wsX2_isNear) := goodIn_app (goodIn_of _ (by decide +kernel)) ggX5_countEclipses_X2_isNear
theorem dX5_countEclipses_0 : decode cX5_countEclipses 0 = .ok (.aload_n 0, 1) := by decide +kernel
theorem dX5_countEclipses_1 : decode cX5_countEclipses 1 = .ok (.getfield 19, 3) := by decide +kernel
theorem dX5_countEclipses_4 : decode cX5_countEclipses 4 = .ok (.sipush 1000, 3) := by decide +kernel
theorem dX5_countEclipses_7 : decode cX5_countEclipses 7 = .ok (.aload_n 0, 1) := by decide +kernel
theorem dX5_countEclipses_8 : decode cX5_countEclipses 8 = .ok (.getfield 10, 3) := by decide +kernel
theorem dX5_countEclipses_11 : decode cX5_countEclipses 11 = .ok (.iload_n 1, 1) := by decide +kernel
theorem dX5_countEclipses_12 : decode cX5_countEclipses 12 = .ok (.iconst 1, 1) := by decide +kernel
theorem dX5_countEclipses_13 : decode cX5_countEclipses 13 = .ok (.iadd, 1) := by decide +kernel
theorem dX5_countEclipses_14 : decode cX5_countEclipses 14 = .ok (.invokevirtual 92, 3) := by decide +kernel
theorem dX5_countEclipses_17 : decode cX5_countEclipses 17 = .ok (.imul, 1) := by decide +kernel
theorem dX5_countEclipses_18 : decode cX5_countEclipses 18 = .ok (.iload_n 2, 1) := by decide +kernel
theorem dX5_countEclipses_19 : decode cX5_countEclipses 19 = .ok (.invokevirtual 269, 3) := by decide +kernel
theorem dX5_countEclipses_22 : decode cX5_countEclipses 22 = .ok (.istore_n 3, 1) := by decide +kernel
theorem dX5_countEclipses_23 : decode cX5_countEclipses 23 = .ok (.iconst 0, 1) := by decide +kernel
theorem dX5_countEclipses_24 : decode cX5_countEclipses 24 = .ok (.istore 4, 2) := by decide +kernel
theorem dX5_countEclipses_26 : decode cX5_countEclipses 26 = .ok (.aload_n 0, 1) := by decide +kernel
theorem dX5_countEclipses_27 : decode cX5_countEclipses 27 = .ok (.getfield 19, 3) := by decide +kernel
theorem dX5_countEclipses_30 : decode cX5_countEclipses 30 = .ok (.sipush 1000, 3) := by decide +kernel
theorem dX5_countEclipses_33 : decode cX5_countEclipses 33 = .ok (.aload_n 0, 1) := by decide +kernel
theorem dX5_countEclipses_34 : decode cX5_countEclipses 34 = .ok (.getfield 10, 3) := by decide +kernel
theorem dX5_countEclipses_37 : decode cX5_countEclipses 37 = .ok (.iload_n 1, 1) := by decide +kernel
theorem dX5_countEclipses_38 : decode cX5_countEclipses 38 = .ok (.invokevirtual 92, 3) := by decide +kernel
theorem dX5_countEclipses_41 : decode cX5_countEclipses 41 = .ok (.imul, 1) := by decide +kernel
theorem dX5_countEclipses_42 : decode cX5_countEclipses 42 = .ok (.iload_n 2, 1) := by decide +kernel
theorem dX5_countEclipses_43 : decode cX5_countEclipses 43 = .ok (.invokevirtual 269, 3) := by decide +kernel
theorem dX5_countEclipses_46 : decode cX5_countEclipses 46 = .ok (.istore 5, 2) := by decide +kernel
theorem dX5_countEclipses_48 : decode cX5_countEclipses 48 = .ok (.iload 5, 2) := by decide +kernel
theorem dX5_countEclipses_50 : decode cX5_countEclipses 50 = .ok (.iload_n 3, 1) := by decide +kernel
theorem dX5_countEclipses_51 : decode cX5_countEclipses 51 = .ok (.if_icmp .ge 36, 3) := by decide +kernel
theorem dX5_countEclipses_54 : decode cX5_countEclipses 54 = .ok (.aload_n 0, 1) := by decide +kernel
theorem dX5_countEclipses_55 : decode cX5_countEclipses 55 = .ok (.getfield 26, 3) := by decide +kernel
theorem dX5_countEclipses_58 : decode cX5_countEclipses 58 = .ok (.aload_n 0, 1) := by decide +kernel
theorem dX5_countEclipses_59 : decode cX5_countEclipses 59 = .ok (.getfield 19, 3) := by decide +kernel
theorem dX5_countEclipses_62 : decode cX5_countEclipses 62 = .ok (.iload 5, 2) := by decide +kernel
theorem dX5_countEclipses_64 : decode cX5_countEclipses 64 = .ok (.iload_n 2, 1) := by decide +kernel
theorem dX5_countEclipses_65 : decode cX5_countEclipses 65 = .ok (.invokevirtual 128, 3) := by decide +kernel
theorem dX5_countEclipses_68 : decode cX5_countEclipses 68 = .ok (.iload_n 2, 1) := by decide +kernel
theorem dX5_countEclipses_69 : decode cX5_countEclipses 69 = .ok (.invokestatic 272, 3) := by decide +kernel
theorem dX5_countEclipses_72 : decode cX5_countEclipses 72 = .ok (.invokevirtual 276, 3) := by decide +kernel
theorem dX5_countEclipses_75 : decode cX5_countEclipses 75 = .ok (.ifCond .eq 6, 3) := by decide +kernel
theorem dX5_countEclipses_78 : decode cX5_countEclipses 78 = .ok (.iinc 4 1, 3) := by decide +kernel
theorem dX5_countEclipses_81 : decode cX5_countEclipses 81 = .ok (.iinc 5 1, 3) := by decide +kernel
theorem dX5_countEclipses_84 : decode cX5_countEclipses 84 = .ok (.goto (-36), 3) := by decide +kernel
theorem dX5_countEclipses_87 : decode cX5_countEclipses 87 = .ok (.iload 4, 2) := by decide +kernel
theorem dX5_countEclipses_89 : decode cX5_countEclipses 89 = .ok (.ireturn, 1) := by decide +kernel
set_option maxRecDepth 20000 in
theorem ggX5_firstEclipse_X1_firstFrom : GoodIn wsX5_firstEclipse wsX1_firstFrom := goodIn_r _ [7, 8, 9, 32, 33] (by decide +kernel) (by decide +kernel)
set_option maxRecDepth 20000 in
theorem gX5_firstEclipse_X1_firstFrom : GoodIn wsX5_firstEclipse (wsV RX5 269 RX1 yX1_firstFrom wsX1_firstFrom) := goodIn_app (goodIn_of _ (by decide +kernel)) ggX5_firstEclipse_X1_firstFrom
set_option maxRecDepth 20000 in
theorem ggX5_firstEclipse_X1_timeOf : GoodIn wsX5_firstEclipse wsX1_timeOf := goodIn_r _ [13, 8, 9, 32, 33] (by decide +kernel) (by decide +kernel)
set_option maxRecDepth 20000 in
theorem gX5_firstEclipse_X1_timeOf : GoodIn wsX5_firstEclipse (wsV RX5 128 RX1 yX1_timeOf wsX1_timeOf) := goodIn_app (goodIn_of _ (by decide +kernel)) ggX5_firstEclipse_X1_timeOf
set_option maxRecDepth 20000 in
theorem ggX5_firstEclipse_X5_reach : GoodIn wsX5_firstEclipse wsX5_reach := goodIn_r _ [17] (by decide +kernel) (by decide +kernel)
set_option maxRecDepth 20000 in
theorem gX5_firstEclipse_X5_reach : GoodIn wsX5_firstEclipse (va_wsS RX5 272 yX5_reach wsX5_reach) := goodIn_app (goodIn_of _ (by decide +kernel)) ggX5_firstEclipse_X5_reach
set_option maxRecDepth 20000 in
theorem ggX5_firstEclipse_X2_isNear : GoodIn wsX5_firstEclipse wsX2_isNear := goodIn_r _ [22, 23, 24, 34, 35] (by decide +kernel) (by decide +kernel)
set_option maxRecDepth 20000 in
theorem gX5_firstEclipse_X2_isNear : GoodIn wsX5_firstEclipse (wsV RX5 276 RX2 yX2_isNear wsX2_isNear) := goodIn_app (goodIn_of _ (by decide +kernel)) ggX5_firstEclipse_X2_isNear
theorem dX5_firstEclipse_0 : decode cX5_firstEclipse 0 = .ok (.aload_n 0, 1) := by decide +kernel
theorem dX5_firstEclipse_1 : decode cX5_firstEclipse 1 = .ok (.getfield 19, 3) := by decide +kernel
theorem dX5_firstEclipse_4 : decode cX5_firstEclipse 4 = .ok (.sipush 1000, 3) := by decide +kernel
theorem dX5_firstEclipse_7 : decode cX5_firstEclipse 7 = .ok (.iload_n 1, 1) := by decide +kernel
theorem dX5_firstEclipse_8 : decode cX5_firstEclipse 8 = .ok (.sipush 3000, 3) := by decide +kernel
theorem dX5_firstEclipse_11 : decode cX5_firstEclipse 11 = .ok (.iadd, 1) := by decide +kernel
theorem dX5_firstEclipse_12 : decode cX5_firstEclipse 12 = .ok (.imul, 1) := by decide +kernel
theorem dX5_firstEclipse_13 : decode cX5_firstEclipse 13 = .ok (.iload_n 2, 1) := by decide +kernel
theorem dX5_firstEclipse_14 : decode cX5_firstEclipse 14 = .ok (.invokevirtual 269, 3) := by decide +kernel
theorem dX5_firstEclipse_17 : decode cX5_firstEclipse 17 = .ok (.istore_n 3, 1) := by decide +kernel
theorem dX5_firstEclipse_18 : decode cX5_firstEclipse 18 = .ok (.aload_n 0, 1) := by decide +kernel
theorem dX5_firstEclipse_19 : decode cX5_firstEclipse 19 = .ok (.getfield 19, 3) := by decide +kernel
theorem dX5_firstEclipse_22 : decode cX5_firstEclipse 22 = .ok (.sipush 1000, 3) := by decide +kernel
theorem dX5_firstEclipse_25 : decode cX5_firstEclipse 25 = .ok (.iload_n 1, 1) := by decide +kernel
theorem dX5_firstEclipse_26 : decode cX5_firstEclipse 26 = .ok (.imul, 1) := by decide +kernel
theorem dX5_firstEclipse_27 : decode cX5_firstEclipse 27 = .ok (.iload_n 2, 1) := by decide +kernel
theorem dX5_firstEclipse_28 : decode cX5_firstEclipse 28 = .ok (.invokevirtual 269, 3) := by decide +kernel
theorem dX5_firstEclipse_31 : decode cX5_firstEclipse 31 = .ok (.istore 4, 2) := by decide +kernel
theorem dX5_firstEclipse_33 : decode cX5_firstEclipse 33 = .ok (.iload 4, 2) := by decide +kernel
theorem dX5_firstEclipse_35 : decode cX5_firstEclipse 35 = .ok (.iload_n 3, 1) := by decide +kernel
theorem dX5_firstEclipse_36 : decode cX5_firstEclipse 36 = .ok (.if_icmp .ge 44, 3) := by decide +kernel
theorem dX5_firstEclipse_39 : decode cX5_firstEclipse 39 = .ok (.aload_n 0, 1) := by decide +kernel
theorem dX5_firstEclipse_40 : decode cX5_firstEclipse 40 = .ok (.getfield 19, 3) := by decide +kernel
theorem dX5_firstEclipse_43 : decode cX5_firstEclipse 43 = .ok (.iload 4, 2) := by decide +kernel
theorem dX5_firstEclipse_45 : decode cX5_firstEclipse 45 = .ok (.iload_n 2, 1) := by decide +kernel
theorem dX5_firstEclipse_46 : decode cX5_firstEclipse 46 = .ok (.invokevirtual 128, 3) := by decide +kernel
theorem dX5_firstEclipse_49 : decode cX5_firstEclipse 49 = .ok (.istore 5, 2) := by decide +kernel
theorem dX5_firstEclipse_51 : decode cX5_firstEclipse 51 = .ok (.aload_n 0, 1) := by decide +kernel
theorem dX5_firstEclipse_52 : decode cX5_firstEclipse 52 = .ok (.getfield 26, 3) := by decide +kernel
theorem dX5_firstEclipse_55 : decode cX5_firstEclipse 55 = .ok (.iload 5, 2) := by decide +kernel
theorem dX5_firstEclipse_57 : decode cX5_firstEclipse 57 = .ok (.iload_n 2, 1) := by decide +kernel
theorem dX5_firstEclipse_58 : decode cX5_firstEclipse 58 = .ok (.invokestatic 272, 3) := by decide +kernel
theorem dX5_firstEclipse_61 : decode cX5_firstEclipse 61 = .ok (.invokevirtual 276, 3) := by decide +kernel
theorem dX5_firstEclipse_64 : decode cX5_firstEclipse 64 = .ok (.ifCond .eq 10, 3) := by decide +kernel
theorem dX5_firstEclipse_67 : decode cX5_firstEclipse 67 = .ok (.iload 5, 2) := by decide +kernel
theorem dX5_firstEclipse_69 : decode cX5_firstEclipse 69 = .ok (.sipush 1000, 3) := by decide +kernel
theorem dX5_firstEclipse_72 : decode cX5_firstEclipse 72 = .ok (.idiv, 1) := by decide +kernel
theorem dX5_firstEclipse_73 : decode cX5_firstEclipse 73 = .ok (.ireturn, 1) := by decide +kernel
theorem dX5_firstEclipse_74 : decode cX5_firstEclipse 74 = .ok (.iinc 4 1, 3) := by decide +kernel
theorem dX5_firstEclipse_77 : decode cX5_firstEclipse 77 = .ok (.goto (-44), 3) := by decide +kernel
theorem dX5_firstEclipse_80 : decode cX5_firstEclipse 80 = .ok (.iconst (-1), 1) := by decide +kernel
theorem dX5_firstEclipse_81 : decode cX5_firstEclipse 81 = .ok (.ireturn, 1) := by decide +kernel
theorem dX5_reach_0 : decode cX5_reach 0 = .ok (.iload_n 0, 1) := by decide +kernel
theorem dX5_reach_1 : decode cX5_reach 1 = .ok (.ifCond .eq 9, 3) := by decide +kernel
theorem dX5_reach_4 : decode cX5_reach 4 = .ok (.sipush 11000, 3) := by decide +kernel
theorem dX5_reach_7 : decode cX5_reach 7 = .ok (.goto 6, 3) := by decide +kernel
theorem dX5_reach_10 : decode cX5_reach 10 = .ok (.sipush 15000, 3) := by decide +kernel
theorem dX5_reach_13 : decode cX5_reach 13 = .ok (.ireturn, 1) := by decide +kernel
set_option maxRecDepth 20000 in
theorem ggX5_feastDay_X4_firstDay : GoodIn wsX5_feastDay wsX4_firstDay := goodIn_r _ [12, 13, 14, 42, 43] (by decide +kernel) (by decide +kernel)
set_option maxRecDepth 20000 in
theorem gX5_feastDay_X4_firstDay : GoodIn wsX5_feastDay (wsV RX5 92 RX4 yX4_firstDay wsX4_firstDay) := goodIn_app (goodIn_of _ (by decide +kernel)) ggX5_feastDay_X4_firstDay
set_option maxRecDepth 20000 in
theorem ggX5_feastDay_X5_inYear : GoodIn wsX5_feastDay wsX5_inYear := goodIn_r _ [18] (by decide +kernel) (by decide +kernel)
set_option maxRecDepth 20000 in
theorem gX5_feastDay_X5_inYear : GoodIn wsX5_feastDay (va_wsS RX5 96 yX5_inYear wsX5_inYear) := goodIn_app (goodIn_of _ (by decide +kernel)) ggX5_feastDay_X5_inYear
set_option maxRecDepth 20000 in
theorem ggX5_feastDay_X1_firstFrom : GoodIn wsX5_feastDay wsX1_firstFrom := goodIn_r _ [23, 24, 25, 44, 45] (by decide +kernel) (by decide +kernel)
set_option maxRecDepth 20000 in
theorem gX5_feastDay_X1_firstFrom : GoodIn wsX5_feastDay (wsV RX5 269 RX1 yX1_firstFrom wsX1_firstFrom) := goodIn_app (goodIn_of _ (by decide +kernel)) ggX5_feastDay_X1_firstFrom
set_option maxRecDepth 20000 in
theorem ggX5_feastDay_X1_timeOf : GoodIn wsX5_feastDay wsX1_timeOf := goodIn_r _ [29, 24, 25, 44, 45] (by decide +kernel) (by decide +kernel)
set_option maxRecDepth 20000 in
theorem gX5_feastDay_X1_timeOf : GoodIn wsX5_feastDay (wsV RX5 128 RX1 yX1_timeOf wsX1_timeOf) := goodIn_app (goodIn_of _ (by decide +kernel)) ggX5_feastDay_X1_timeOf
theorem dX5_feastDay_0 : decode cX5_feastDay 0 = .ok (.aload_n 0, 1) := by decide +kernel
theorem dX5_feastDay_1 : decode cX5_feastDay 1 = .ok (.getfield 10, 3) := by decide +kernel
theorem dX5_feastDay_4 : decode cX5_feastDay 4 = .ok (.iload_n 2, 1) := by decide +kernel
theorem dX5_feastDay_5 : decode cX5_feastDay 5 = .ok (.invokevirtual 92, 3) := by decide +kernel
theorem dX5_feastDay_8 : decode cX5_feastDay 8 = .ok (.aload_n 1, 1) := by decide +kernel
theorem dX5_feastDay_9 : decode cX5_feastDay 9 = .ok (.getfield 279, 3) := by decide +kernel
theorem dX5_feastDay_12 : decode cX5_feastDay 12 = .ok (.aload_n 1, 1) := by decide +kernel
theorem dX5_feastDay_13 : decode cX5_feastDay 13 = .ok (.getfield 282, 3) := by decide +kernel
theorem dX5_feastDay_16 : decode cX5_feastDay 16 = .ok (.invokestatic 96, 3) := by decide +kernel
theorem dX5_feastDay_19 : decode cX5_feastDay 19 = .ok (.iadd, 1) := by decide +kernel
theorem dX5_feastDay_20 : decode cX5_feastDay 20 = .ok (.istore_n 3, 1) := by decide +kernel
theorem dX5_feastDay_21 : decode cX5_feastDay 21 = .ok (.aload_n 1, 1) := by decide +kernel
theorem dX5_feastDay_22 : decode cX5_feastDay 22 = .ok (.getfield 285, 3) := by decide +kernel
theorem dX5_feastDay_25 : decode cX5_feastDay 25 = .ok (.iconst 1, 1) := by decide +kernel
theorem dX5_feastDay_26 : decode cX5_feastDay 26 = .ok (.if_icmp .lt 40, 3) := by decide +kernel
theorem dX5_feastDay_29 : decode cX5_feastDay 29 = .ok (.aload_n 0, 1) := by decide +kernel
theorem dX5_feastDay_30 : decode cX5_feastDay 30 = .ok (.getfield 19, 3) := by decide +kernel
theorem dX5_feastDay_33 : decode cX5_feastDay 33 = .ok (.sipush 1000, 3) := by decide +kernel
theorem dX5_feastDay_36 : decode cX5_feastDay 36 = .ok (.iload_n 3, 1) := by decide +kernel
theorem dX5_feastDay_37 : decode cX5_feastDay 37 = .ok (.imul, 1) := by decide +kernel
theorem dX5_feastDay_38 : decode cX5_feastDay 38 = .ok (.iconst 1, 1) := by decide +kernel
theorem dX5_feastDay_39 : decode cX5_feastDay 39 = .ok (.invokevirtual 269, 3) := by decide +kernel
theorem dX5_feastDay_42 : decode cX5_feastDay 42 = .ok (.aload_n 1, 1) := by decide +kernel
theorem dX5_feastDay_43 : decode cX5_feastDay 43 = .ok (.getfield 285, 3) := by decide +kernel
theorem dX5_feastDay_46 : decode cX5_feastDay 46 = .ok (.iadd, 1) := by decide +kernel
theorem dX5_feastDay_47 : decode cX5_feastDay 47 = .ok (.iconst 1, 1) := by decide +kernel
theorem dX5_feastDay_48 : decode cX5_feastDay 48 = .ok (.isub, 1) := by decide +kernel
theorem dX5_feastDay_49 : decode cX5_feastDay 49 = .ok (.istore 4, 2) := by decide +kernel
theorem dX5_feastDay_51 : decode cX5_feastDay 51 = .ok (.aload_n 0, 1) := by decide +kernel
theorem dX5_feastDay_52 : decode cX5_feastDay 52 = .ok (.getfield 19, 3) := by decide +kernel
theorem dX5_feastDay_55 : decode cX5_feastDay 55 = .ok (.iload 4, 2) := by decide +kernel
theorem dX5_feastDay_57 : decode cX5_feastDay 57 = .ok (.iconst 1, 1) := by decide +kernel
theorem dX5_feastDay_58 : decode cX5_feastDay 58 = .ok (.invokevirtual 128, 3) := by decide +kernel
theorem dX5_feastDay_61 : decode cX5_feastDay 61 = .ok (.sipush 1000, 3) := by decide +kernel
theorem dX5_feastDay_64 : decode cX5_feastDay 64 = .ok (.idiv, 1) := by decide +kernel
theorem dX5_feastDay_65 : decode cX5_feastDay 65 = .ok (.istore_n 3, 1) := by decide +kernel
theorem dX5_feastDay_66 : decode cX5_feastDay 66 = .ok (.aload_n 1, 1) := by decide +kernel
theorem dX5_feastDay_67 : decode cX5_feastDay 67 = .ok (.getfield 287, 3) := by decide +kernel
theorem dX5_feastDay_70 : decode cX5_feastDay 70 = .ok (.ifCond .lt 21, 3) := by decide +kernel
theorem dX5_feastDay_73 : decode cX5_feastDay 73 = .ok (.iload_n 3, 1) := by decide +kernel
theorem dX5_feastDay_74 : decode cX5_feastDay 74 = .ok (.aload_n 1, 1) := by decide +kernel
theorem dX5_feastDay_75 : decode cX5_feastDay 75 = .ok (.getfield 287, 3) := by decide +kernel
theorem dX5_feastDay_78 : decode cX5_feastDay 78 = .ok (.iload_n 3, 1) := by decide +kernel
theorem dX5_feastDay_79 : decode cX5_feastDay 79 = .ok (.bipush 7, 2) := by decide +kernel
theorem dX5_feastDay_81 : decode cX5_feastDay 81 = .ok (.irem, 1) := by decide +kernel
theorem dX5_feastDay_82 : decode cX5_feastDay 82 = .ok (.isub, 1) := by decide +kernel
theorem dX5_feastDay_83 : decode cX5_feastDay 83 = .ok (.bipush 7, 2) := by decide +kernel
theorem dX5_feastDay_85 : decode cX5_feastDay 85 = .ok (.iadd, 1) := by decide +kernel
theorem dX5_feastDay_86 : decode cX5_feastDay 86 = .ok (.bipush 7, 2) := by decide +kernel
theorem dX5_feastDay_88 : decode cX5_feastDay 88 = .ok (.irem, 1) := by decide +kernel
theorem dX5_feastDay_89 : decode cX5_feastDay 89 = .ok (.iadd, 1) := by decide +kernel
theorem dX5_feastDay_90 : decode cX5_feastDay 90 = .ok (.istore_n 3, 1) := by decide +kernel
theorem dX5_feastDay_91 : decode cX5_feastDay 91 = .ok (.iload_n 3, 1) := by decide +kernel
theorem dX5_feastDay_92 : decode cX5_feastDay 92 = .ok (.aload_n 1, 1) := by decide +kernel
theorem dX5_feastDay_93 : decode cX5_feastDay 93 = .ok (.getfield 290, 3) := by decide +kernel
theorem dX5_feastDay_96 : decode cX5_feastDay 96 = .ok (.iadd, 1) := by decide +kernel
theorem dX5_feastDay_97 : decode cX5_feastDay 97 = .ok (.ireturn, 1) := by decide +kernel
set_option maxRecDepth 20000 in
theorem ggX5_fill_Jx4a65c_size_8abf5 : GoodIn wsX5_fill wsJx4a65c_size_8abf5 := goodIn_r _ [10, 11, 95, 96, 97] (by decide +kernel) (by decide +kernel)
set_option maxRecDepth 20000 in
theorem gX5_fill_Jx4a65c_size_8abf5 : GoodIn wsX5_fill (wsV RX5 164 RJx4a65c yJx4a65c_size_8abf5 wsJx4a65c_size_8abf5) := goodIn_app (goodIn_of _ (by decide +kernel)) ggX5_fill_Jx4a65c_size_8abf5
set_option maxRecDepth 20000 in
theorem ggX5_fill_Jx4a65c_get_915e3 : GoodIn wsX5_fill wsJx4a65c_get_915e3 := goodIn_r _ [15, 11, 16, 17, 18, 19, 20, 21, 22, 23, 24, 25, 26, 9, 27, 28, 95, 96, 97] (by decide +kernel) (by decide +kernel)
set_option maxRecDepth 20000 in
theorem gX5_fill_Jx4a65c_get_915e3 : GoodIn wsX5_fill (wsV RX5 184 RJx4a65c yJx4a65c_get_915e3 wsJx4a65c_get_915e3) := goodIn_app (goodIn_of _ (by decide +kernel)) ggX5_fill_Jx4a65c_get_915e3
set_option maxRecDepth 20000 in
theorem ggX5_fill_X5_feastDay : GoodIn wsX5_fill wsX5_feastDay := goodIn_r _ [33, 34, 35, 36, 37, 38, 39, 40, 41, 42, 43, 44, 45, 46, 47, 48, 49, 32, 50, 51, 52, 53, 54, 55, 56, 57, 58, 59, 60, 61, 88, 89, 90, 91, 92, 93, 94, 98, 99, 100, 101, 102, 103, 104, 105, 106] (by decide +kernel) (by decide +kernel)
set_option maxRecDepth 20000 in
theorem gX5_fill_X5_feastDay : GoodIn wsX5_fill (wsV RX5 188 RX5 yX5_feastDay wsX5_feastDay) := goodIn_app (goodIn_of _ (by decide +kernel)) ggX5_fill_X5_feastDay
set_option maxRecDepth 20000 in
theorem ggX5_fill_X3_addDay : GoodIn wsX5_fill wsX3_addDay := goodIn_r _ [66, 67, 68, 84, 85, 86, 87] (by decide +kernel) (by decide +kernel)
set_option maxRecDepth 20000 in
theorem gX5_fill_X3_addDay : GoodIn wsX5_fill (wsV RX5 293 RX3 yX3_addDay wsX3_addDay) := goodIn_app (goodIn_of _ (by decide +kernel)) ggX5_fill_X3_addDay
set_option maxRecDepth 20000 in
theorem ggX5_fill_X5_countEclipses : GoodIn wsX5_fill wsX5_countEclipses := goodIn_r _ [72, 38, 34, 73, 41, 42, 43, 44, 45, 46, 47, 51, 52, 53, 54, 55, 56, 57, 58, 59, 60, 61, 74, 75, 32, 76, 77, 78, 79, 80, 81, 82, 83, 88, 89, 90, 91, 92, 93, 94, 103, 104, 105, 106, 107, 108] (by decide +kernel) (by decide +kernel)
set_option maxRecDepth 20000 in
theorem gX5_fill_X5_countEclipses : GoodIn wsX5_fill (wsV RX5 132 RX5 yX5_countEclipses wsX5_countEclipses) := goodIn_app (goodIn_of _ (by decide +kernel)) ggX5_fill_X5_countEclipses
theorem dX5_fill_0 : decode cX5_fill 0 = .ok (.aload_n 1, 1) := by decide +kernel
theorem dX5_fill_1 : decode cX5_fill 1 = .ok (.iconst 0, 1) := by decide +kernel
theorem dX5_fill_2 : decode cX5_fill 2 = .ok (.putfield 219, 3) := by decide +kernel
theorem dX5_fill_5 : decode cX5_fill 5 = .ok (.iconst 0, 1) := by decide +kernel
theorem dX5_fill_6 : decode cX5_fill 6 = .ok (.istore_n 2, 1) := by decide +kernel
theorem dX5_fill_7 : decode cX5_fill 7 = .ok (.iload_n 2, 1) := by decide +kernel
theorem dX5_fill_8 : decode cX5_fill 8 = .ok (.aload_n 0, 1) := by decide +kernel
theorem dX5_fill_9 : decode cX5_fill 9 = .ok (.getfield 33, 3) := by decide +kernel
theorem dX5_fill_12 : decode cX5_fill 12 = .ok (.invokevirtual 164, 3) := by decide +kernel
theorem dX5_fill_15 : decode cX5_fill 15 = .ok (.if_icmp .ge 32, 3) := by decide +kernel
theorem dX5_fill_18 : decode cX5_fill 18 = .ok (.aload_n 1, 1) := by decide +kernel
theorem dX5_fill_19 : decode cX5_fill 19 = .ok (.aload_n 0, 1) := by decide +kernel
theorem dX5_fill_20 : decode cX5_fill 20 = .ok (.aload_n 0, 1) := by decide +kernel
theorem dX5_fill_21 : decode cX5_fill 21 = .ok (.getfield 33, 3) := by decide +kernel
theorem dX5_fill_24 : decode cX5_fill 24 = .ok (.iload_n 2, 1) := by decide +kernel
theorem dX5_fill_25 : decode cX5_fill 25 = .ok (.invokevirtual 184, 3) := by decide +kernel
theorem dX5_fill_28 : decode cX5_fill 28 = .ok (.checkcast 173, 3) := by decide +kernel
theorem dX5_fill_31 : decode cX5_fill 31 = .ok (.aload_n 1, 1) := by decide +kernel
theorem dX5_fill_32 : decode cX5_fill 32 = .ok (.getfield 216, 3) := by decide +kernel
theorem dX5_fill_35 : decode cX5_fill 35 = .ok (.invokevirtual 188, 3) := by decide +kernel
theorem dX5_fill_38 : decode cX5_fill 38 = .ok (.invokevirtual 293, 3) := by decide +kernel
theorem dX5_fill_41 : decode cX5_fill 41 = .ok (.iinc 2 1, 3) := by decide +kernel
theorem dX5_fill_44 : decode cX5_fill 44 = .ok (.goto (-37), 3) := by decide +kernel
theorem dX5_fill_47 : decode cX5_fill 47 = .ok (.aload_n 1, 1) := by decide +kernel
theorem dX5_fill_48 : decode cX5_fill 48 = .ok (.aload_n 0, 1) := by decide +kernel
theorem dX5_fill_49 : decode cX5_fill 49 = .ok (.aload_n 1, 1) := by decide +kernel
theorem dX5_fill_50 : decode cX5_fill 50 = .ok (.getfield 216, 3) := by decide +kernel
theorem dX5_fill_53 : decode cX5_fill 53 = .ok (.iconst 0, 1) := by decide +kernel
theorem dX5_fill_54 : decode cX5_fill 54 = .ok (.invokevirtual 132, 3) := by decide +kernel
theorem dX5_fill_57 : decode cX5_fill 57 = .ok (.aload_n 0, 1) := by decide +kernel
theorem dX5_fill_58 : decode cX5_fill 58 = .ok (.aload_n 1, 1) := by decide +kernel
theorem dX5_fill_59 : decode cX5_fill 59 = .ok (.getfield 216, 3) := by decide +kernel
theorem dX5_fill_62 : decode cX5_fill 62 = .ok (.iconst 1, 1) := by decide +kernel
theorem dX5_fill_63 : decode cX5_fill 63 = .ok (.invokevirtual 132, 3) := by decide +kernel
theorem dX5_fill_66 : decode cX5_fill 66 = .ok (.iadd, 1) := by decide +kernel
theorem dX5_fill_67 : decode cX5_fill 67 = .ok (.putfield 222, 3) := by decide +kernel
theorem dX5_fill_70 : decode cX5_fill 70 = .ok (.return_, 1) := by decide +kernel
set_option maxRecDepth 20000 in
theorem ggX5_changedDays_Jx4a65c_size_8abf5 : GoodIn wsX5_changedDays wsJx4a65c_size_8abf5 := goodIn_r _ [9, 10, 78, 79, 80] (by decide +kernel) (by decide +kernel)
set_option maxRecDepth 20000 in
theorem gX5_changedDays_Jx4a65c_size_8abf5 : GoodIn wsX5_changedDays (wsV RX5 164 RJx4a65c yJx4a65c_size_8abf5 wsJx4a65c_size_8abf5) := goodIn_app (goodIn_of _ (by decide +kernel)) ggX5_changedDays_Jx4a65c_size_8abf5
set_option maxRecDepth 20000 in
theorem ggX5_changedDays_Jx4a65c_get_915e3 : GoodIn wsX5_changedDays wsJx4a65c_get_915e3 := goodIn_r _ [14, 10, 15, 16, 17, 18, 19, 20, 21, 22, 23, 24, 25, 8, 26, 27, 78, 79, 80] (by decide +kernel) (by decide +kernel)
set_option maxRecDepth 20000 in
theorem gX5_changedDays_Jx4a65c_get_915e3 : GoodIn wsX5_changedDays (wsV RX5 184 RJx4a65c yJx4a65c_get_915e3 wsJx4a65c_get_915e3) := goodIn_app (goodIn_of _ (by decide +kernel)) ggX5_changedDays_Jx4a65c_get_915e3
set_option maxRecDepth 20000 in
theorem ggX5_changedDays_X5_feastDay : GoodIn wsX5_changedDays wsX5_feastDay := goodIn_r _ [32, 33, 34, 35, 36, 37, 38, 39, 40, 41, 42, 43, 44, 45, 46, 47, 48, 31, 49, 50, 51, 52, 53, 54, 55, 56, 57, 58, 59, 60, 71, 72, 73, 74, 75, 76, 77, 81, 82, 83, 84, 85, 86, 87, 88, 89] (by decide +kernel) (by decide +kernel)
set_option maxRecDepth 20000 in
theorem gX5_changedDays_X5_feastDay : GoodIn wsX5_changedDays (wsV RX5 188 RX5 yX5_feastDay wsX5_feastDay) := goodIn_app (goodIn_of _ (by decide +kernel)) ggX5_changedDays_X5_feastDay
set_option maxRecDepth 20000 in
theorem ggX5_changedDays_X3_dayAt : GoodIn wsX5_changedDays wsX3_dayAt := goodIn_r _ [65, 66, 67, 68, 69, 70] (by decide +kernel) (by decide +kernel)
set_option maxRecDepth 20000 in
theorem gX5_changedDays_X3_dayAt : GoodIn wsX5_changedDays (wsV RX5 236 RX3 yX3_dayAt wsX3_dayAt) := goodIn_app (goodIn_of _ (by decide +kernel)) ggX5_changedDays_X3_dayAt
theorem dX5_changedDays_0 : decode cX5_changedDays 0 = .ok (.iconst 0, 1) := by decide +kernel
theorem dX5_changedDays_1 : decode cX5_changedDays 1 = .ok (.istore_n 2, 1) := by decide +kernel
theorem dX5_changedDays_2 : decode cX5_changedDays 2 = .ok (.iconst 0, 1) := by decide +kernel
theorem dX5_changedDays_3 : decode cX5_changedDays 3 = .ok (.istore_n 3, 1) := by decide +kernel
theorem dX5_changedDays_4 : decode cX5_changedDays 4 = .ok (.iload_n 3, 1) := by decide +kernel
theorem dX5_changedDays_5 : decode cX5_changedDays 5 = .ok (.aload_n 1, 1) := by decide +kernel
theorem dX5_changedDays_6 : decode cX5_changedDays 6 = .ok (.getfield 219, 3) := by decide +kernel
theorem dX5_changedDays_9 : decode cX5_changedDays 9 = .ok (.if_icmp .ge 50, 3) := by decide +kernel
theorem dX5_changedDays_12 : decode cX5_changedDays 12 = .ok (.iload_n 3, 1) := by decide +kernel
theorem dX5_changedDays_13 : decode cX5_changedDays 13 = .ok (.aload_n 0, 1) := by decide +kernel
theorem dX5_changedDays_14 : decode cX5_changedDays 14 = .ok (.getfield 33, 3) := by decide +kernel
theorem dX5_changedDays_17 : decode cX5_changedDays 17 = .ok (.invokevirtual 164, 3) := by decide +kernel
theorem dX5_changedDays_20 : decode cX5_changedDays 20 = .ok (.if_icmp .ge 39, 3) := by decide +kernel
theorem dX5_changedDays_23 : decode cX5_changedDays 23 = .ok (.aload_n 0, 1) := by decide +kernel
theorem dX5_changedDays_24 : decode cX5_changedDays 24 = .ok (.aload_n 0, 1) := by decide +kernel
theorem dX5_changedDays_25 : decode cX5_changedDays 25 = .ok (.getfield 33, 3) := by decide +kernel
theorem dX5_changedDays_28 : decode cX5_changedDays 28 = .ok (.iload_n 3, 1) := by decide +kernel
theorem dX5_changedDays_29 : decode cX5_changedDays 29 = .ok (.invokevirtual 184, 3) := by decide +kernel
theorem dX5_changedDays_32 : decode cX5_changedDays 32 = .ok (.checkcast 173, 3) := by decide +kernel
theorem dX5_changedDays_35 : decode cX5_changedDays 35 = .ok (.aload_n 1, 1) := by decide +kernel
theorem dX5_changedDays_36 : decode cX5_changedDays 36 = .ok (.getfield 216, 3) := by decide +kernel
theorem dX5_changedDays_39 : decode cX5_changedDays 39 = .ok (.invokevirtual 188, 3) := by decide +kernel
theorem dX5_changedDays_42 : decode cX5_changedDays 42 = .ok (.aload_n 1, 1) := by decide +kernel
theorem dX5_changedDays_43 : decode cX5_changedDays 43 = .ok (.iload_n 3, 1) := by decide +kernel
theorem dX5_changedDays_44 : decode cX5_changedDays 44 = .ok (.invokevirtual 236, 3) := by decide +kernel
theorem dX5_changedDays_47 : decode cX5_changedDays 47 = .ok (.if_icmp .eq 6, 3) := by decide +kernel
theorem dX5_changedDays_50 : decode cX5_changedDays 50 = .ok (.iinc 2 1, 3) := by decide +kernel
theorem dX5_changedDays_53 : decode cX5_changedDays 53 = .ok (.iinc 3 1, 3) := by decide +kernel
theorem dX5_changedDays_56 : decode cX5_changedDays 56 = .ok (.goto (-52), 3) := by decide +kernel
theorem dX5_changedDays_59 : decode cX5_changedDays 59 = .ok (.iload_n 2, 1) := by decide +kernel
theorem dX5_changedDays_60 : decode cX5_changedDays 60 = .ok (.ireturn, 1) := by decide +kernel
set_option maxRecDepth 20000 in
theorem ggX5_greatestShift_Jx4a65c_size_8abf5 : GoodIn wsX5_greatestShift wsJx4a65c_size_8abf5 := goodIn_r _ [16, 17, 85, 86, 87] (by decide +kernel) (by decide +kernel)
set_option maxRecDepth 20000 in
theorem gX5_greatestShift_Jx4a65c_size_8abf5 : GoodIn wsX5_greatestShift (wsV RX5 164 RJx4a65c yJx4a65c_size_8abf5 wsJx4a65c_size_8abf5) := goodIn_app (goodIn_of _ (by decide +kernel)) ggX5_greatestShift_Jx4a65c_size_8abf5
set_option maxRecDepth 20000 in
theorem ggX5_greatestShift_Jx4a65c_get_915e3 : GoodIn wsX5_greatestShift wsJx4a65c_get_915e3 := goodIn_r _ [21, 17, 22, 23, 24, 25, 26, 27, 28, 29, 30, 31, 32, 15, 33, 34, 85, 86, 87] (by decide +kernel) (by decide +kernel)
set_option maxRecDepth 20000 in
theorem gX5_greatestShift_Jx4a65c_get_915e3 : GoodIn wsX5_greatestShift (wsV RX5 184 RJx4a65c yJx4a65c_get_915e3 wsJx4a65c_get_915e3) := goodIn_app (goodIn_of _ (by decide +kernel)) ggX5_greatestShift_Jx4a65c_get_915e3
set_option maxRecDepth 20000 in
theorem ggX5_greatestShift_X5_feastDay : GoodIn wsX5_greatestShift wsX5_feastDay := goodIn_r _ [39, 40, 41, 42, 43, 44, 45, 46, 47, 48, 49, 50, 51, 52, 53, 54, 55, 38, 56, 57, 58, 59, 60, 61, 62, 63, 64, 65, 66, 67, 78, 79, 80, 81, 82, 83, 84, 88, 89, 90, 91, 92, 93, 94, 95, 96] (by decide +kernel) (by decide +kernel)
set_option maxRecDepth 20000 in
theorem gX5_greatestShift_X5_feastDay : GoodIn wsX5_greatestShift (wsV RX5 188 RX5 yX5_feastDay wsX5_feastDay) := goodIn_app (goodIn_of _ (by decide +kernel)) ggX5_greatestShift_X5_feastDay
set_option maxRecDepth 20000 in
theorem ggX5_greatestShift_X3_dayAt : GoodIn wsX5_greatestShift wsX3_dayAt := goodIn_r _ [72, 73, 74, 75, 76, 77] (by decide +kernel) (by decide +kernel)
set_option maxRecDepth 20000 in
theorem gX5_greatestShift_X3_dayAt : GoodIn wsX5_greatestShift (wsV RX5 236 RX3 yX3_dayAt wsX3_dayAt) := goodIn_app (goodIn_of _ (by decide +kernel)) ggX5_greatestShift_X3_dayAt
theorem dX5_greatestShift_0 : decode cX5_greatestShift 0 = .ok (.iconst 0, 1) := by decide +kernel
theorem dX5_greatestShift_1 : decode cX5_greatestShift 1 = .ok (.istore_n 2, 1) := by decide +kernel
theorem dX5_greatestShift_2 : decode cX5_greatestShift 2 = .ok (.iconst 0, 1) := by decide +kernel
theorem dX5_greatestShift_3 : decode cX5_greatestShift 3 = .ok (.istore_n 3, 1) := by decide +kernel
theorem dX5_greatestShift_4 : decode cX5_greatestShift 4 = .ok (.iload_n 3, 1) := by decide +kernel
theorem dX5_greatestShift_5 : decode cX5_greatestShift 5 = .ok (.aload_n 1, 1) := by decide +kernel
theorem dX5_greatestShift_6 : decode cX5_greatestShift 6 = .ok (.getfield 219, 3) := by decide +kernel
theorem dX5_greatestShift_9 : decode cX5_greatestShift 9 = .ok (.if_icmp .ge 57, 3) := by decide +kernel
theorem dX5_greatestShift_12 : decode cX5_greatestShift 12 = .ok (.iload_n 3, 1) := by decide +kernel
theorem dX5_greatestShift_13 : decode cX5_greatestShift 13 = .ok (.aload_n 0, 1) := by decide +kernel
theorem dX5_greatestShift_14 : decode cX5_greatestShift 14 = .ok (.getfield 33, 3) := by decide +kernel
theorem dX5_greatestShift_17 : decode cX5_greatestShift 17 = .ok (.invokevirtual 164, 3) := by decide +kernel
theorem dX5_greatestShift_20 : decode cX5_greatestShift 20 = .ok (.if_icmp .ge 46, 3) := by decide +kernel
theorem dX5_greatestShift_23 : decode cX5_greatestShift 23 = .ok (.aload_n 0, 1) := by decide +kernel
theorem dX5_greatestShift_24 : decode cX5_greatestShift 24 = .ok (.aload_n 0, 1) := by decide +kernel
theorem dX5_greatestShift_25 : decode cX5_greatestShift 25 = .ok (.getfield 33, 3) := by decide +kernel
theorem dX5_greatestShift_28 : decode cX5_greatestShift 28 = .ok (.iload_n 3, 1) := by decide +kernel
theorem dX5_greatestShift_29 : decode cX5_greatestShift 29 = .ok (.invokevirtual 184, 3) := by decide +kernel
theorem dX5_greatestShift_32 : decode cX5_greatestShift 32 = .ok (.checkcast 173, 3) := by decide +kernel
theorem dX5_greatestShift_35 : decode cX5_greatestShift 35 = .ok (.aload_n 1, 1) := by decide +kernel
theorem dX5_greatestShift_36 : decode cX5_greatestShift 36 = .ok (.getfield 216, 3) := by decide +kernel
theorem dX5_greatestShift_39 : decode cX5_greatestShift 39 = .ok (.invokevirtual 188, 3) := by decide +kernel
theorem dX5_greatestShift_42 : decode cX5_greatestShift 42 = .ok (.aload_n 1, 1) := by decide +kernel
theorem dX5_greatestShift_43 : decode cX5_greatestShift 43 = .ok (.iload_n 3, 1) := by decide +kernel
theorem dX5_greatestShift_44 : decode cX5_greatestShift 44 = .ok (.invokevirtual 236, 3) := by decide +kernel
theorem dX5_greatestShift_47 : decode cX5_greatestShift 47 = .ok (.isub, 1) := by decide +kernel
theorem dX5_greatestShift_48 : decode cX5_greatestShift 48 = .ok (.istore 4, 2) := by decide +kernel
theorem dX5_greatestShift_50 : decode cX5_greatestShift 50 = .ok (.iload_n 2, 1) := by decide +kernel
theorem dX5_greatestShift_51 : decode cX5_greatestShift 51 = .ok (.iload 4, 2) := by decide +kernel
theorem dX5_greatestShift_53 : decode cX5_greatestShift 53 = .ok (.invokestatic 296, 3) := by decide +kernel
theorem dX5_greatestShift_56 : decode cX5_greatestShift 56 = .ok (.invokestatic 138, 3) := by decide +kernel
theorem dX5_greatestShift_59 : decode cX5_greatestShift 59 = .ok (.istore_n 2, 1) := by decide +kernel
theorem dX5_greatestShift_60 : decode cX5_greatestShift 60 = .ok (.iinc 3 1, 3) := by decide +kernel
theorem dX5_greatestShift_63 : decode cX5_greatestShift 63 = .ok (.goto (-59), 3) := by decide +kernel
theorem dX5_greatestShift_66 : decode cX5_greatestShift 66 = .ok (.iload_n 2, 1) := by decide +kernel
theorem dX5_greatestShift_67 : decode cX5_greatestShift 67 = .ok (.ireturn, 1) := by decide +kernel
set_option maxRecDepth 20000 in
theorem ggX5_isWrong_X5_countEclipses : GoodIn wsX5_isWrong wsX5_countEclipses := goodIn_r _ [7, 8, 9, 10, 11, 12, 13, 14, 15, 16, 17, 18, 19, 20, 21, 22, 23, 24, 25, 26, 27, 28, 29, 30, 6, 31, 32, 33, 34, 35, 36, 37, 38, 91, 92, 93, 94, 95, 96, 97, 98, 99, 100, 101, 102, 103] (by decide +kernel) (by decide +kernel)
set_option maxRecDepth 20000 in
theorem gX5_isWrong_X5_countEclipses : GoodIn wsX5_isWrong (wsV RX5 132 RX5 yX5_countEclipses wsX5_countEclipses) := goodIn_app (goodIn_of _ (by decide +kernel)) ggX5_isWrong_X5_countEclipses
set_option maxRecDepth 20000 in
theorem ggX5_isWrong_X5_changedDays : GoodIn wsX5_isWrong wsX5_changedDays := goodIn_r _ [42, 43, 44, 45, 1, 46, 47, 48, 49, 50, 51, 52, 53, 54, 55, 56, 57, 58, 59, 60, 61, 62, 63, 64, 65, 66, 67, 68, 69, 70, 71, 6, 72, 9, 73, 74, 75, 8, 76, 77, 11, 12, 13, 14, 15, 16, 17, 78, 79, 80, 18, 19, 20, 21, 22, 23, 24, 25, 26, 27, 28, 81, 82, 83, 84, 85, 86, 87, 88, 89, 90, 91, 92, 93, 94, 95, 96, 97, 104, 105, 106, 107, 108, 109, 110, 111, 98, 99, 100, 101] (by decide +kernel) (by decide +kernel)
set_option maxRecDepth 20000 in
theorem gX5_isWrong_X5_changedDays : GoodIn wsX5_isWrong (wsV RX5 212 RX5 yX5_changedDays wsX5_changedDays) := goodIn_app (goodIn_of _ (by decide +kernel)) ggX5_isWrong_X5_changedDays
theorem dX5_isWrong_0 : decode cX5_isWrong 0 = .ok (.aload_n 0, 1) := by decide +kernel
theorem dX5_isWrong_1 : decode cX5_isWrong 1 = .ok (.aload_n 1, 1) := by decide +kernel
theorem dX5_isWrong_2 : decode cX5_isWrong 2 = .ok (.getfield 216, 3) := by decide +kernel
theorem dX5_isWrong_5 : decode cX5_isWrong 5 = .ok (.iconst 0, 1) := by decide +kernel
theorem dX5_isWrong_6 : decode cX5_isWrong 6 = .ok (.invokevirtual 132, 3) := by decide +kernel
theorem dX5_isWrong_9 : decode cX5_isWrong 9 = .ok (.aload_n 0, 1) := by decide +kernel
theorem dX5_isWrong_10 : decode cX5_isWrong 10 = .ok (.aload_n 1, 1) := by decide +kernel
theorem dX5_isWrong_11 : decode cX5_isWrong 11 = .ok (.getfield 216, 3) := by decide +kernel
theorem dX5_isWrong_14 : decode cX5_isWrong 14 = .ok (.iconst 1, 1) := by decide +kernel
theorem dX5_isWrong_15 : decode cX5_isWrong 15 = .ok (.invokevirtual 132, 3) := by decide +kernel
theorem dX5_isWrong_18 : decode cX5_isWrong 18 = .ok (.iadd, 1) := by decide +kernel
theorem dX5_isWrong_19 : decode cX5_isWrong 19 = .ok (.istore_n 2, 1) := by decide +kernel
theorem dX5_isWrong_20 : decode cX5_isWrong 20 = .ok (.iload_n 2, 1) := by decide +kernel
theorem dX5_isWrong_21 : decode cX5_isWrong 21 = .ok (.aload_n 1, 1) := by decide +kernel
theorem dX5_isWrong_22 : decode cX5_isWrong 22 = .ok (.getfield 222, 3) := by decide +kernel
theorem dX5_isWrong_25 : decode cX5_isWrong 25 = .ok (.if_icmp .ne 11, 3) := by decide +kernel
theorem dX5_isWrong_28 : decode cX5_isWrong 28 = .ok (.aload_n 0, 1) := by decide +kernel
theorem dX5_isWrong_29 : decode cX5_isWrong 29 = .ok (.aload_n 1, 1) := by decide +kernel
theorem dX5_isWrong_30 : decode cX5_isWrong 30 = .ok (.invokevirtual 212, 3) := by decide +kernel
theorem dX5_isWrong_33 : decode cX5_isWrong 33 = .ok (.ifCond .le 7, 3) := by decide +kernel
theorem dX5_isWrong_36 : decode cX5_isWrong 36 = .ok (.iconst 1, 1) := by decide +kernel
theorem dX5_isWrong_37 : decode cX5_isWrong 37 = .ok (.goto 4, 3) := by decide +kernel
theorem dX5_isWrong_40 : decode cX5_isWrong 40 = .ok (.iconst 0, 1) := by decide +kernel
theorem dX5_isWrong_41 : decode cX5_isWrong 41 = .ok (.ireturn, 1) := by decide +kernel
set_option maxRecDepth 20000 in
theorem ggX5_wrongSheets_Jx4a65c_size_8abf5 : GoodIn wsX5_wrongSheets wsJx4a65c_size_8abf5 := goodIn_r _ [7, 8, 100, 101, 102] (by decide +kernel) (by decide +kernel)
set_option maxRecDepth 20000 in
theorem gX5_wrongSheets_Jx4a65c_size_8abf5 : GoodIn wsX5_wrongSheets (wsV RX5 164 RJx4a65c yJx4a65c_size_8abf5 wsJx4a65c_size_8abf5) := goodIn_app (goodIn_of _ (by decide +kernel)) ggX5_wrongSheets_Jx4a65c_size_8abf5
set_option maxRecDepth 20000 in
theorem ggX5_wrongSheets_Jx4a65c_get_915e3 : GoodIn wsX5_wrongSheets wsJx4a65c_get_915e3 := goodIn_r _ [12, 8, 13, 14, 15, 16, 17, 18, 19, 20, 21, 22, 23, 6, 24, 25, 100, 101, 102] (by decide +kernel) (by decide +kernel)
set_option maxRecDepth 20000 in
theorem gX5_wrongSheets_Jx4a65c_get_915e3 : GoodIn wsX5_wrongSheets (wsV RX5 184 RJx4a65c yJx4a65c_get_915e3 wsJx4a65c_get_915e3) := goodIn_app (goodIn_of _ (by decide +kernel)) ggX5_wrongSheets_Jx4a65c_get_915e3
set_option maxRecDepth 20000 in
theorem ggX5_wrongSheets_X5_isWrong : GoodIn wsX5_wrongSheets wsX5_isWrong := goodIn_r _ [30, 31, 32, 33, 34, 35, 29, 36, 37, 38, 39, 40, 41, 42, 43, 44, 45, 46, 47, 48, 49, 50, 51, 52, 53, 54, 55, 56, 57, 58, 59, 60, 61, 62, 63, 64, 65, 66, 67, 68, 69, 70, 71, 72, 73, 74, 3, 4, 5, 6, 7, 8, 9, 10, 11, 12, 13, 14, 15, 16, 17, 18, 19, 20, 21, 22, 23, 24, 25, 75, 76, 77, 78, 79, 80, 81, 82, 83, 84, 85, 86, 87, 88, 89, 90, 91, 92, 103, 104, 105, 106, 93, 94, 95, 96, 97, 98, 99, 107, 108, 109, 110, 111, 112, 100, 101, 102, 113, 114, 115, 116, 117] (by decide +kernel) (by decide +kernel)
set_option maxRecDepth 20000 in
theorem gX5_wrongSheets_X5_isWrong : GoodIn wsX5_wrongSheets (wsV RX5 225 RX5 yX5_isWrong wsX5_isWrong) := goodIn_app (goodIn_of _ (by decide +kernel)) ggX5_wrongSheets_X5_isWrong
theorem dX5_wrongSheets_0 : decode cX5_wrongSheets 0 = .ok (.iconst 0, 1) := by decide +kernel
theorem dX5_wrongSheets_1 : decode cX5_wrongSheets 1 = .ok (.istore_n 1, 1) := by decide +kernel
theorem dX5_wrongSheets_2 : decode cX5_wrongSheets 2 = .ok (.iconst 0, 1) := by decide +kernel
theorem dX5_wrongSheets_3 : decode cX5_wrongSheets 3 = .ok (.istore_n 2, 1) := by decide +kernel
theorem dX5_wrongSheets_4 : decode cX5_wrongSheets 4 = .ok (.iload_n 2, 1) := by decide +kernel
theorem dX5_wrongSheets_5 : decode cX5_wrongSheets 5 = .ok (.aload_n 0, 1) := by decide +kernel
theorem dX5_wrongSheets_6 : decode cX5_wrongSheets 6 = .ok (.getfield 37, 3) := by decide +kernel
theorem dX5_wrongSheets_9 : decode cX5_wrongSheets 9 = .ok (.invokevirtual 164, 3) := by decide +kernel
theorem dX5_wrongSheets_12 : decode cX5_wrongSheets 12 = .ok (.if_icmp .ge 30, 3) := by decide +kernel
theorem dX5_wrongSheets_15 : decode cX5_wrongSheets 15 = .ok (.aload_n 0, 1) := by decide +kernel
theorem dX5_wrongSheets_16 : decode cX5_wrongSheets 16 = .ok (.aload_n 0, 1) := by decide +kernel
theorem dX5_wrongSheets_17 : decode cX5_wrongSheets 17 = .ok (.getfield 37, 3) := by decide +kernel
theorem dX5_wrongSheets_20 : decode cX5_wrongSheets 20 = .ok (.iload_n 2, 1) := by decide +kernel
theorem dX5_wrongSheets_21 : decode cX5_wrongSheets 21 = .ok (.invokevirtual 184, 3) := by decide +kernel
theorem dX5_wrongSheets_24 : decode cX5_wrongSheets 24 = .ok (.checkcast 198, 3) := by decide +kernel
theorem dX5_wrongSheets_27 : decode cX5_wrongSheets 27 = .ok (.invokevirtual 225, 3) := by decide +kernel
theorem dX5_wrongSheets_30 : decode cX5_wrongSheets 30 = .ok (.ifCond .eq 6, 3) := by decide +kernel
theorem dX5_wrongSheets_33 : decode cX5_wrongSheets 33 = .ok (.iinc 1 1, 3) := by decide +kernel
theorem dX5_wrongSheets_36 : decode cX5_wrongSheets 36 = .ok (.iinc 2 1, 3) := by decide +kernel
theorem dX5_wrongSheets_39 : decode cX5_wrongSheets 39 = .ok (.goto (-35), 3) := by decide +kernel
theorem dX5_wrongSheets_42 : decode cX5_wrongSheets 42 = .ok (.iload_n 1, 1) := by decide +kernel
theorem dX5_wrongSheets_43 : decode cX5_wrongSheets 43 = .ok (.ireturn, 1) := by decide +kernel
