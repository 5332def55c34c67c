theorem dX6_done_0 : decode cX6_done 0 = .ok (.aload_n 0, 1) := by decide +kernel
theorem dX6_done_1 : decode cX6_done 1 = .ok (.iload_n 1, 1) := by decide +kernel
theorem dX6_done_2 : decode cX6_done 2 = .ok (.invokevirtual 193, 3) := by decide +kernel
theorem dX6_done_5 : decode cX6_done 5 = .ok (.istore_n 2, 1) := by decide +kernel
theorem dX6_done_6 : decode cX6_done 6 = .ok (.iload_n 2, 1) := by decide +kernel
theorem dX6_done_7 : decode cX6_done 7 = .ok (.ifCond .ge 7, 3) := by decide +kernel
theorem dX6_done_10 : decode cX6_done 10 = .ok (.iload_n 2, 1) := by decide +kernel
theorem dX6_done_11 : decode cX6_done 11 = .ok (.goto 4, 3) := by decide +kernel
theorem dX6_done_14 : decode cX6_done 14 = .ok (.iconst 1, 1) := by decide +kernel
theorem dX6_done_15 : decode cX6_done 15 = .ok (.ireturn, 1) := by decide +kernel
set_option maxRecDepth 20000 in
theorem ggX6_copy_X6_isGame : GoodIn wsX6_copy wsX6_isGame := goodIn_r _ [5, 6, 7, 8, 4, 9] (by decide +kernel) (by decide +kernel)
set_option maxRecDepth 20000 in
theorem gX6_copy_X6_isGame : GoodIn wsX6_copy (va_wsS RX6 85 yX6_isGame wsX6_isGame) := goodIn_app (goodIn_of _ (by decide +kernel)) ggX6_copy_X6_isGame
set_option maxRecDepth 20000 in
theorem ggX6_copy_X6_all : GoodIn wsX6_copy wsX6_all := goodIn_r _ [13, 14, 15, 16, 4, 17, 1, 22, 23, 24, 25, 26, 27, 28, 29, 30, 31, 32, 33, 34, 35, 36, 37] (by decide +kernel) (by decide +kernel)
set_option maxRecDepth 20000 in
theorem gX6_copy_X6_all : GoodIn wsX6_copy (wsV RX6 80 RX6 yX6_all wsX6_all) := goodIn_app (goodIn_of _ (by decide +kernel)) ggX6_copy_X6_all
set_option maxRecDepth 20000 in
theorem ggX6_copy_X6_v : GoodIn wsX6_copy wsX6_v := goodIn_r _ [21, 1, 22, 23, 24, 25, 26, 27, 28, 29, 30, 31, 32, 33, 34, 35, 36, 37] (by decide +kernel) (by decide +kernel)
set_option maxRecDepth 20000 in
theorem gX6_copy_X6_v : GoodIn wsX6_copy (wsV RX6 95 RX6 yX6_v wsX6_v) := goodIn_app (goodIn_of _ (by decide +kernel)) ggX6_copy_X6_v
theorem dX6_copy_0 : decode cX6_copy 0 = .ok (.iload_n 1, 1) := by decide +kernel
theorem dX6_copy_1 : decode cX6_copy 1 = .ok (.invokestatic 85, 3) := by decide +kernel
theorem dX6_copy_4 : decode cX6_copy 4 = .ok (.ifCond .eq 10, 3) := by decide +kernel
theorem dX6_copy_7 : decode cX6_copy 7 = .ok (.iload_n 2, 1) := by decide +kernel
theorem dX6_copy_8 : decode cX6_copy 8 = .ok (.invokestatic 85, 3) := by decide +kernel
theorem dX6_copy_11 : decode cX6_copy 11 = .ok (.ifCond .ne 5, 3) := by decide +kernel
theorem dX6_copy_14 : decode cX6_copy 14 = .ok (.iconst (-1), 1) := by decide +kernel
theorem dX6_copy_15 : decode cX6_copy 15 = .ok (.ireturn, 1) := by decide +kernel
theorem dX6_copy_16 : decode cX6_copy 16 = .ok (.iconst 0, 1) := by decide +kernel
theorem dX6_copy_17 : decode cX6_copy 17 = .ok (.istore_n 3, 1) := by decide +kernel
theorem dX6_copy_18 : decode cX6_copy 18 = .ok (.iload_n 3, 1) := by decide +kernel
theorem dX6_copy_19 : decode cX6_copy 19 = .ok (.aload_n 0, 1) := by decide +kernel
theorem dX6_copy_20 : decode cX6_copy 20 = .ok (.invokevirtual 80, 3) := by decide +kernel
theorem dX6_copy_23 : decode cX6_copy 23 = .ok (.if_icmp .gt 31, 3) := by decide +kernel
theorem dX6_copy_26 : decode cX6_copy 26 = .ok (.aload_n 0, 1) := by decide +kernel
theorem dX6_copy_27 : decode cX6_copy 27 = .ok (.getfield 11, 3) := by decide +kernel
theorem dX6_copy_30 : decode cX6_copy 30 = .ok (.sipush 183, 3) := by decide +kernel
theorem dX6_copy_33 : decode cX6_copy 33 = .ok (.sipush 512, 3) := by decide +kernel
theorem dX6_copy_36 : decode cX6_copy 36 = .ok (.iload_n 1, 1) := by decide +kernel
theorem dX6_copy_37 : decode cX6_copy 37 = .ok (.imul, 1) := by decide +kernel
theorem dX6_copy_38 : decode cX6_copy 38 = .ok (.iadd, 1) := by decide +kernel
theorem dX6_copy_39 : decode cX6_copy 39 = .ok (.iload_n 3, 1) := by decide +kernel
theorem dX6_copy_40 : decode cX6_copy 40 = .ok (.iadd, 1) := by decide +kernel
theorem dX6_copy_41 : decode cX6_copy 41 = .ok (.aload_n 0, 1) := by decide +kernel
theorem dX6_copy_42 : decode cX6_copy 42 = .ok (.iload_n 2, 1) := by decide +kernel
theorem dX6_copy_43 : decode cX6_copy 43 = .ok (.iload_n 3, 1) := by decide +kernel
theorem dX6_copy_44 : decode cX6_copy 44 = .ok (.invokevirtual 95, 3) := by decide +kernel
theorem dX6_copy_47 : decode cX6_copy 47 = .ok (.lastore, 1) := by decide +kernel
theorem dX6_copy_48 : decode cX6_copy 48 = .ok (.iinc 3 1, 3) := by decide +kernel
theorem dX6_copy_51 : decode cX6_copy 51 = .ok (.goto (-33), 3) := by decide +kernel
theorem dX6_copy_54 : decode cX6_copy 54 = .ok (.iconst 1, 1) := by decide +kernel
theorem dX6_copy_55 : decode cX6_copy 55 = .ok (.ireturn, 1) := by decide +kernel
set_option maxRecDepth 20000 in
theorem ggX6_add_X6_isGame : GoodIn wsX6_add wsX6_isGame := goodIn_r _ [6, 7, 8, 9, 5, 10] (by decide +kernel) (by decide +kernel)
set_option maxRecDepth 20000 in
theorem gX6_add_X6_isGame : GoodIn wsX6_add (va_wsS RX6 85 yX6_isGame wsX6_isGame) := goodIn_app (goodIn_of _ (by decide +kernel)) ggX6_add_X6_isGame
set_option maxRecDepth 20000 in
theorem ggX6_add_X6_all : GoodIn wsX6_add wsX6_all := goodIn_r _ [14, 15, 16, 17, 5, 18, 19, 36, 37, 38, 39, 40, 41, 42, 43, 44, 45, 46, 47, 48, 49, 50, 51] (by decide +kernel) (by decide +kernel)
set_option maxRecDepth 20000 in
theorem gX6_add_X6_all : GoodIn wsX6_add (wsV RX6 80 RX6 yX6_all wsX6_all) := goodIn_app (goodIn_of _ (by decide +kernel)) ggX6_add_X6_all
set_option maxRecDepth 20000 in
theorem ggX6_add_X6_v : GoodIn wsX6_add wsX6_v := goodIn_r _ [23, 19, 36, 37, 38, 39, 40, 41, 42, 43, 44, 45, 46, 47, 48, 49, 50, 51] (by decide +kernel) (by decide +kernel)
set_option maxRecDepth 20000 in
theorem gX6_add_X6_v : GoodIn wsX6_add (wsV RX6 95 RX6 yX6_v wsX6_v) := goodIn_app (goodIn_of _ (by decide +kernel)) ggX6_add_X6_v
set_option maxRecDepth 20000 in
theorem ggX6_add_X6_plus : GoodIn wsX6_add wsX6_plus := goodIn_r _ [27, 1, 36, 37, 38, 39, 40, 41, 42, 43, 44, 45, 46, 47, 48, 49, 50, 51] (by decide +kernel) (by decide +kernel)
set_option maxRecDepth 20000 in
theorem gX6_add_X6_plus : GoodIn wsX6_add (wsV RX6 196 RX6 yX6_plus wsX6_plus) := goodIn_app (goodIn_of _ (by decide +kernel)) ggX6_add_X6_plus
set_option maxRecDepth 20000 in
theorem ggX6_add_X6_done : GoodIn wsX6_add wsX6_done := goodIn_r _ [31, 32, 33, 34, 5, 35, 1, 2, 19, 11, 12, 13, 14, 15, 16, 17, 18, 20, 21, 22, 23, 36, 37, 38, 39, 40, 41, 42, 43, 44, 45, 46, 47, 48, 49, 50, 51] (by decide +kernel) (by decide +kernel)
set_option maxRecDepth 20000 in
theorem gX6_add_X6_done : GoodIn wsX6_add (wsV RX6 199 RX6 yX6_done wsX6_done) := goodIn_app (goodIn_of _ (by decide +kernel)) ggX6_add_X6_done
theorem dX6_add_0 : decode cX6_add 0 = .ok (.iload_n 1, 1) := by decide +kernel
theorem dX6_add_1 : decode cX6_add 1 = .ok (.invokestatic 85, 3) := by decide +kernel
theorem dX6_add_4 : decode cX6_add 4 = .ok (.ifCond .eq 10, 3) := by decide +kernel
theorem dX6_add_7 : decode cX6_add 7 = .ok (.iload_n 2, 1) := by decide +kernel
theorem dX6_add_8 : decode cX6_add 8 = .ok (.invokestatic 85, 3) := by decide +kernel
theorem dX6_add_11 : decode cX6_add 11 = .ok (.ifCond .ne 5, 3) := by decide +kernel
theorem dX6_add_14 : decode cX6_add 14 = .ok (.iconst (-1), 1) := by decide +kernel
theorem dX6_add_15 : decode cX6_add 15 = .ok (.ireturn, 1) := by decide +kernel
theorem dX6_add_16 : decode cX6_add 16 = .ok (.aload_n 0, 1) := by decide +kernel
theorem dX6_add_17 : decode cX6_add 17 = .ok (.iconst 0, 1) := by decide +kernel
theorem dX6_add_18 : decode cX6_add 18 = .ok (.putfield 54, 3) := by decide +kernel
theorem dX6_add_21 : decode cX6_add 21 = .ok (.iconst 0, 1) := by decide +kernel
theorem dX6_add_22 : decode cX6_add 22 = .ok (.istore_n 3, 1) := by decide +kernel
theorem dX6_add_23 : decode cX6_add 23 = .ok (.iload_n 3, 1) := by decide +kernel
theorem dX6_add_24 : decode cX6_add 24 = .ok (.aload_n 0, 1) := by decide +kernel
theorem dX6_add_25 : decode cX6_add 25 = .ok (.invokevirtual 80, 3) := by decide +kernel
theorem dX6_add_28 : decode cX6_add 28 = .ok (.if_icmp .gt 31, 3) := by decide +kernel
theorem dX6_add_31 : decode cX6_add 31 = .ok (.aload_n 0, 1) := by decide +kernel
theorem dX6_add_32 : decode cX6_add 32 = .ok (.getfield 18, 3) := by decide +kernel
theorem dX6_add_35 : decode cX6_add 35 = .ok (.iload_n 3, 1) := by decide +kernel
theorem dX6_add_36 : decode cX6_add 36 = .ok (.aload_n 0, 1) := by decide +kernel
theorem dX6_add_37 : decode cX6_add 37 = .ok (.aload_n 0, 1) := by decide +kernel
theorem dX6_add_38 : decode cX6_add 38 = .ok (.iload_n 1, 1) := by decide +kernel
theorem dX6_add_39 : decode cX6_add 39 = .ok (.iload_n 3, 1) := by decide +kernel
theorem dX6_add_40 : decode cX6_add 40 = .ok (.invokevirtual 95, 3) := by decide +kernel
theorem dX6_add_43 : decode cX6_add 43 = .ok (.aload_n 0, 1) := by decide +kernel
theorem dX6_add_44 : decode cX6_add 44 = .ok (.iload_n 2, 1) := by decide +kernel
theorem dX6_add_45 : decode cX6_add 45 = .ok (.iload_n 3, 1) := by decide +kernel
theorem dX6_add_46 : decode cX6_add 46 = .ok (.invokevirtual 95, 3) := by decide +kernel
theorem dX6_add_49 : decode cX6_add 49 = .ok (.invokevirtual 196, 3) := by decide +kernel
theorem dX6_add_52 : decode cX6_add 52 = .ok (.lastore, 1) := by decide +kernel
theorem dX6_add_53 : decode cX6_add 53 = .ok (.iinc 3 1, 3) := by decide +kernel
theorem dX6_add_56 : decode cX6_add 56 = .ok (.goto (-33), 3) := by decide +kernel
theorem dX6_add_59 : decode cX6_add 59 = .ok (.aload_n 0, 1) := by decide +kernel
theorem dX6_add_60 : decode cX6_add 60 = .ok (.iload_n 1, 1) := by decide +kernel
theorem dX6_add_61 : decode cX6_add 61 = .ok (.invokevirtual 199, 3) := by decide +kernel
theorem dX6_add_64 : decode cX6_add 64 = .ok (.ireturn, 1) := by decide +kernel
set_option maxRecDepth 20000 in
theorem ggX6_times_X6_isGame : GoodIn wsX6_times wsX6_isGame := goodIn_r _ [8, 9, 10, 11, 7, 12] (by decide +kernel) (by decide +kernel)
set_option maxRecDepth 20000 in
theorem gX6_times_X6_isGame : GoodIn wsX6_times (va_wsS RX6 85 yX6_isGame wsX6_isGame) := goodIn_app (goodIn_of _ (by decide +kernel)) ggX6_times_X6_isGame
set_option maxRecDepth 20000 in
theorem ggX6_times_X6_isIn : GoodIn wsX6_times wsX6_isIn := goodIn_r _ [12] (by decide +kernel) (by decide +kernel)
set_option maxRecDepth 20000 in
theorem gX6_times_X6_isIn : GoodIn wsX6_times (va_wsS RX6 70 yX6_isIn wsX6_isIn) := goodIn_app (goodIn_of _ (by decide +kernel)) ggX6_times_X6_isIn
set_option maxRecDepth 20000 in
theorem ggX6_times_X6_all : GoodIn wsX6_times wsX6_all := goodIn_r _ [16, 17, 18, 19, 7, 20, 21, 40, 41, 42, 43, 44, 45, 46, 47, 48, 49, 50, 51, 52, 53, 54, 55] (by decide +kernel) (by decide +kernel)
set_option maxRecDepth 20000 in
theorem gX6_times_X6_all : GoodIn wsX6_times (wsV RX6 80 RX6 yX6_all wsX6_all) := goodIn_app (goodIn_of _ (by decide +kernel)) ggX6_times_X6_all
set_option maxRecDepth 20000 in
theorem ggX6_times_X6_v : GoodIn wsX6_times wsX6_v := goodIn_r _ [25, 21, 40, 41, 42, 43, 44, 45, 46, 47, 48, 49, 50, 51, 52, 53, 54, 55] (by decide +kernel) (by decide +kernel)
set_option maxRecDepth 20000 in
theorem gX6_times_X6_v : GoodIn wsX6_times (wsV RX6 95 RX6 yX6_v wsX6_v) := goodIn_app (goodIn_of _ (by decide +kernel)) ggX6_times_X6_v
set_option maxRecDepth 20000 in
theorem ggX6_times_X6_product : GoodIn wsX6_times wsX6_product := goodIn_r _ [29, 3, 30, 31, 40, 41, 42, 43, 44, 45, 46, 47, 48, 49, 50, 51, 52, 53, 54, 55] (by decide +kernel) (by decide +kernel)
set_option maxRecDepth 20000 in
theorem gX6_times_X6_product : GoodIn wsX6_times (wsV RX6 204 RX6 yX6_product wsX6_product) := goodIn_app (goodIn_of _ (by decide +kernel)) ggX6_times_X6_product
set_option maxRecDepth 20000 in
theorem ggX6_times_X6_done : GoodIn wsX6_times wsX6_done := goodIn_r _ [35, 36, 37, 38, 7, 39, 3, 4, 21, 13, 14, 15, 16, 17, 18, 19, 20, 22, 23, 24, 25, 40, 41, 42, 43, 44, 45, 46, 47, 48, 49, 50, 51, 52, 53, 54, 55] (by decide +kernel) (by decide +kernel)
set_option maxRecDepth 20000 in
theorem gX6_times_X6_done : GoodIn wsX6_times (wsV RX6 199 RX6 yX6_done wsX6_done) := goodIn_app (goodIn_of _ (by decide +kernel)) ggX6_times_X6_done
theorem dX6_times_0 : decode cX6_times 0 = .ok (.iload_n 1, 1) := by decide +kernel
theorem dX6_times_1 : decode cX6_times 1 = .ok (.invokestatic 85, 3) := by decide +kernel
theorem dX6_times_4 : decode cX6_times 4 = .ok (.ifCond .ne 5, 3) := by decide +kernel
theorem dX6_times_7 : decode cX6_times 7 = .ok (.iconst (-1), 1) := by decide +kernel
theorem dX6_times_8 : decode cX6_times 8 = .ok (.ireturn, 1) := by decide +kernel
theorem dX6_times_9 : decode cX6_times 9 = .ok (.iload_n 2, 1) := by decide +kernel
theorem dX6_times_10 : decode cX6_times 10 = .ok (.i2l, 1) := by decide +kernel
theorem dX6_times_11 : decode cX6_times 11 = .ok (.ldc2_w 202, 3) := by decide +kernel
theorem dX6_times_14 : decode cX6_times 14 = .ok (.ldc2_w 99, 3) := by decide +kernel
theorem dX6_times_17 : decode cX6_times 17 = .ok (.invokestatic 70, 3) := by decide +kernel
theorem dX6_times_20 : decode cX6_times 20 = .ok (.ifCond .ne 6, 3) := by decide +kernel
theorem dX6_times_23 : decode cX6_times 23 = .ok (.bipush (-2), 2) := by decide +kernel
theorem dX6_times_25 : decode cX6_times 25 = .ok (.ireturn, 1) := by decide +kernel
theorem dX6_times_26 : decode cX6_times 26 = .ok (.aload_n 0, 1) := by decide +kernel
theorem dX6_times_27 : decode cX6_times 27 = .ok (.iconst 0, 1) := by decide +kernel
theorem dX6_times_28 : decode cX6_times 28 = .ok (.putfield 54, 3) := by decide +kernel
theorem dX6_times_31 : decode cX6_times 31 = .ok (.iconst 0, 1) := by decide +kernel
theorem dX6_times_32 : decode cX6_times 32 = .ok (.istore_n 3, 1) := by decide +kernel
theorem dX6_times_33 : decode cX6_times 33 = .ok (.iload_n 3, 1) := by decide +kernel
theorem dX6_times_34 : decode cX6_times 34 = .ok (.aload_n 0, 1) := by decide +kernel
theorem dX6_times_35 : decode cX6_times 35 = .ok (.invokevirtual 80, 3) := by decide +kernel
theorem dX6_times_38 : decode cX6_times 38 = .ok (.if_icmp .gt 27, 3) := by decide +kernel
theorem dX6_times_41 : decode cX6_times 41 = .ok (.aload_n 0, 1) := by decide +kernel
theorem dX6_times_42 : decode cX6_times 42 = .ok (.getfield 18, 3) := by decide +kernel
theorem dX6_times_45 : decode cX6_times 45 = .ok (.iload_n 3, 1) := by decide +kernel
theorem dX6_times_46 : decode cX6_times 46 = .ok (.aload_n 0, 1) := by decide +kernel
theorem dX6_times_47 : decode cX6_times 47 = .ok (.aload_n 0, 1) := by decide +kernel
theorem dX6_times_48 : decode cX6_times 48 = .ok (.iload_n 1, 1) := by decide +kernel
theorem dX6_times_49 : decode cX6_times 49 = .ok (.iload_n 3, 1) := by decide +kernel
theorem dX6_times_50 : decode cX6_times 50 = .ok (.invokevirtual 95, 3) := by decide +kernel
theorem dX6_times_53 : decode cX6_times 53 = .ok (.iload_n 2, 1) := by decide +kernel
theorem dX6_times_54 : decode cX6_times 54 = .ok (.i2l, 1) := by decide +kernel
theorem dX6_times_55 : decode cX6_times 55 = .ok (.invokevirtual 204, 3) := by decide +kernel
theorem dX6_times_58 : decode cX6_times 58 = .ok (.lastore, 1) := by decide +kernel
theorem dX6_times_59 : decode cX6_times 59 = .ok (.iinc 3 1, 3) := by decide +kernel
theorem dX6_times_62 : decode cX6_times 62 = .ok (.goto (-29), 3) := by decide +kernel
theorem dX6_times_65 : decode cX6_times 65 = .ok (.aload_n 0, 1) := by decide +kernel
theorem dX6_times_66 : decode cX6_times 66 = .ok (.iload_n 1, 1) := by decide +kernel
theorem dX6_times_67 : decode cX6_times 67 = .ok (.invokevirtual 199, 3) := by decide +kernel
theorem dX6_times_70 : decode cX6_times 70 = .ok (.ireturn, 1) := by decide +kernel
set_option maxRecDepth 20000 in
theorem ggX6_dual_X6_isGame : GoodIn wsX6_dual wsX6_isGame := goodIn_r _ [6, 7, 8, 9, 5, 10] (by decide +kernel) (by decide +kernel)
set_option maxRecDepth 20000 in
theorem gX6_dual_X6_isGame : GoodIn wsX6_dual (va_wsS RX6 85 yX6_isGame wsX6_isGame) := goodIn_app (goodIn_of _ (by decide +kernel)) ggX6_dual_X6_isGame
set_option maxRecDepth 20000 in
theorem ggX6_dual_X6_all : GoodIn wsX6_dual wsX6_all := goodIn_r _ [14, 15, 16, 17, 5, 18, 19, 36, 37, 38, 39, 40, 41, 42, 43, 44, 45, 46, 47, 48, 49, 50, 51] (by decide +kernel) (by decide +kernel)
set_option maxRecDepth 20000 in
theorem gX6_dual_X6_all : GoodIn wsX6_dual (wsV RX6 80 RX6 yX6_all wsX6_all) := goodIn_app (goodIn_of _ (by decide +kernel)) ggX6_dual_X6_all
set_option maxRecDepth 20000 in
theorem ggX6_dual_X6_v : GoodIn wsX6_dual wsX6_v := goodIn_r _ [23, 19, 36, 37, 38, 39, 40, 41, 42, 43, 44, 45, 46, 47, 48, 49, 50, 51] (by decide +kernel) (by decide +kernel)
set_option maxRecDepth 20000 in
theorem gX6_dual_X6_v : GoodIn wsX6_dual (wsV RX6 95 RX6 yX6_v wsX6_v) := goodIn_app (goodIn_of _ (by decide +kernel)) ggX6_dual_X6_v
set_option maxRecDepth 20000 in
theorem ggX6_dual_X6_minus : GoodIn wsX6_dual wsX6_minus := goodIn_r _ [27, 1, 36, 37, 38, 39, 40, 41, 42, 43, 44, 45, 46, 47, 48, 49, 50, 51] (by decide +kernel) (by decide +kernel)
set_option maxRecDepth 20000 in
theorem gX6_dual_X6_minus : GoodIn wsX6_dual (wsV RX6 207 RX6 yX6_minus wsX6_minus) := goodIn_app (goodIn_of _ (by decide +kernel)) ggX6_dual_X6_minus
set_option maxRecDepth 20000 in
theorem ggX6_dual_X6_done : GoodIn wsX6_dual wsX6_done := goodIn_r _ [31, 32, 33, 34, 5, 35, 1, 2, 19, 11, 12, 13, 14, 15, 16, 17, 18, 20, 21, 22, 23, 36, 37, 38, 39, 40, 41, 42, 43, 44, 45, 46, 47, 48, 49, 50, 51] (by decide +kernel) (by decide +kernel)
set_option maxRecDepth 20000 in
theorem gX6_dual_X6_done : GoodIn wsX6_dual (wsV RX6 199 RX6 yX6_done wsX6_done) := goodIn_app (goodIn_of _ (by decide +kernel)) ggX6_dual_X6_done
theorem dX6_dual_0 : decode cX6_dual 0 = .ok (.iload_n 1, 1) := by decide +kernel
theorem dX6_dual_1 : decode cX6_dual 1 = .ok (.invokestatic 85, 3) := by decide +kernel
theorem dX6_dual_4 : decode cX6_dual 4 = .ok (.ifCond .ne 5, 3) := by decide +kernel
theorem dX6_dual_7 : decode cX6_dual 7 = .ok (.iconst (-1), 1) := by decide +kernel
theorem dX6_dual_8 : decode cX6_dual 8 = .ok (.ireturn, 1) := by decide +kernel
theorem dX6_dual_9 : decode cX6_dual 9 = .ok (.aload_n 0, 1) := by decide +kernel
theorem dX6_dual_10 : decode cX6_dual 10 = .ok (.iconst 0, 1) := by decide +kernel
theorem dX6_dual_11 : decode cX6_dual 11 = .ok (.putfield 54, 3) := by decide +kernel
theorem dX6_dual_14 : decode cX6_dual 14 = .ok (.iconst 0, 1) := by decide +kernel
theorem dX6_dual_15 : decode cX6_dual 15 = .ok (.istore_n 2, 1) := by decide +kernel
theorem dX6_dual_16 : decode cX6_dual 16 = .ok (.iload_n 2, 1) := by decide +kernel
theorem dX6_dual_17 : decode cX6_dual 17 = .ok (.aload_n 0, 1) := by decide +kernel
theorem dX6_dual_18 : decode cX6_dual 18 = .ok (.invokevirtual 80, 3) := by decide +kernel
theorem dX6_dual_21 : decode cX6_dual 21 = .ok (.if_icmp .gt 41, 3) := by decide +kernel
theorem dX6_dual_24 : decode cX6_dual 24 = .ok (.aload_n 0, 1) := by decide +kernel
theorem dX6_dual_25 : decode cX6_dual 25 = .ok (.getfield 18, 3) := by decide +kernel
theorem dX6_dual_28 : decode cX6_dual 28 = .ok (.iload_n 2, 1) := by decide +kernel
theorem dX6_dual_29 : decode cX6_dual 29 = .ok (.aload_n 0, 1) := by decide +kernel
theorem dX6_dual_30 : decode cX6_dual 30 = .ok (.aload_n 0, 1) := by decide +kernel
theorem dX6_dual_31 : decode cX6_dual 31 = .ok (.iload_n 1, 1) := by decide +kernel
theorem dX6_dual_32 : decode cX6_dual 32 = .ok (.aload_n 0, 1) := by decide +kernel
theorem dX6_dual_33 : decode cX6_dual 33 = .ok (.invokevirtual 80, 3) := by decide +kernel
theorem dX6_dual_36 : decode cX6_dual 36 = .ok (.invokevirtual 95, 3) := by decide +kernel
theorem dX6_dual_39 : decode cX6_dual 39 = .ok (.aload_n 0, 1) := by decide +kernel
theorem dX6_dual_40 : decode cX6_dual 40 = .ok (.iload_n 1, 1) := by decide +kernel
theorem dX6_dual_41 : decode cX6_dual 41 = .ok (.aload_n 0, 1) := by decide +kernel
theorem dX6_dual_42 : decode cX6_dual 42 = .ok (.invokevirtual 80, 3) := by decide +kernel
theorem dX6_dual_45 : decode cX6_dual 45 = .ok (.iload_n 2, 1) := by decide +kernel
theorem dX6_dual_46 : decode cX6_dual 46 = .ok (.iconst (-1), 1) := by decide +kernel
theorem dX6_dual_47 : decode cX6_dual 47 = .ok (.ixor, 1) := by decide +kernel
theorem dX6_dual_48 : decode cX6_dual 48 = .ok (.iand, 1) := by decide +kernel
theorem dX6_dual_49 : decode cX6_dual 49 = .ok (.invokevirtual 95, 3) := by decide +kernel
theorem dX6_dual_52 : decode cX6_dual 52 = .ok (.invokevirtual 207, 3) := by decide +kernel
theorem dX6_dual_55 : decode cX6_dual 55 = .ok (.lastore, 1) := by decide +kernel
theorem dX6_dual_56 : decode cX6_dual 56 = .ok (.iinc 2 1, 3) := by decide +kernel
theorem dX6_dual_59 : decode cX6_dual 59 = .ok (.goto (-43), 3) := by decide +kernel
theorem dX6_dual_62 : decode cX6_dual 62 = .ok (.aload_n 0, 1) := by decide +kernel
theorem dX6_dual_63 : decode cX6_dual 63 = .ok (.iload_n 1, 1) := by decide +kernel
theorem dX6_dual_64 : decode cX6_dual 64 = .ok (.invokevirtual 199, 3) := by decide +kernel
theorem dX6_dual_67 : decode cX6_dual 67 = .ok (.ireturn, 1) := by decide +kernel
set_option maxRecDepth 20000 in
theorem ggX6_covered_X6_v : GoodIn wsX6_covered wsX6_v := goodIn_r _ [10, 11, 17, 18, 19, 20, 21, 22, 23, 24, 25, 26, 27, 28, 29, 30, 31, 32] (by decide +kernel) (by decide +kernel)
set_option maxRecDepth 20000 in
theorem gX6_covered_X6_v : GoodIn wsX6_covered (wsV RX6 95 RX6 yX6_v wsX6_v) := goodIn_app (goodIn_of _ (by decide +kernel)) ggX6_covered_X6_v
set_option maxRecDepth 20000 in
theorem ggX6_covered_X6_plus : GoodIn wsX6_covered wsX6_plus := goodIn_r _ [15, 16, 17, 18, 19, 20, 21, 22, 23, 24, 25, 26, 27, 28, 29, 30, 31, 32] (by decide +kernel) (by decide +kernel)
set_option maxRecDepth 20000 in
theorem gX6_covered_X6_plus : GoodIn wsX6_covered (wsV RX6 196 RX6 yX6_plus wsX6_plus) := goodIn_app (goodIn_of _ (by decide +kernel)) ggX6_covered_X6_plus
theorem dX6_covered_0 : decode cX6_covered 0 = .ok (.iload_n 2, 1) := by decide +kernel
theorem dX6_covered_1 : decode cX6_covered 1 = .ok (.iload_n 2, 1) := by decide +kernel
theorem dX6_covered_2 : decode cX6_covered 2 = .ok (.ineg, 1) := by decide +kernel
theorem dX6_covered_3 : decode cX6_covered 3 = .ok (.iand, 1) := by decide +kernel
theorem dX6_covered_4 : decode cX6_covered 4 = .ok (.istore_n 3, 1) := by decide +kernel
theorem dX6_covered_5 : decode cX6_covered 5 = .ok (.aload_n 0, 1) := by decide +kernel
theorem dX6_covered_6 : decode cX6_covered 6 = .ok (.iload_n 1, 1) := by decide +kernel
theorem dX6_covered_7 : decode cX6_covered 7 = .ok (.iload_n 2, 1) := by decide +kernel
theorem dX6_covered_8 : decode cX6_covered 8 = .ok (.invokevirtual 95, 3) := by decide +kernel
theorem dX6_covered_11 : decode cX6_covered 11 = .ok (.lstore 4, 2) := by decide +kernel
theorem dX6_covered_13 : decode cX6_covered 13 = .ok (.iload_n 3, 1) := by decide +kernel
theorem dX6_covered_14 : decode cX6_covered 14 = .ok (.istore 6, 2) := by decide +kernel
theorem dX6_covered_16 : decode cX6_covered 16 = .ok (.iload 6, 2) := by decide +kernel
theorem dX6_covered_18 : decode cX6_covered 18 = .ok (.iload_n 2, 1) := by decide +kernel
theorem dX6_covered_19 : decode cX6_covered 19 = .ok (.if_icmp .ge 54, 3) := by decide +kernel
theorem dX6_covered_22 : decode cX6_covered 22 = .ok (.iload 6, 2) := by decide +kernel
theorem dX6_covered_24 : decode cX6_covered 24 = .ok (.iload_n 2, 1) := by decide +kernel
theorem dX6_covered_25 : decode cX6_covered 25 = .ok (.iconst (-1), 1) := by decide +kernel
theorem dX6_covered_26 : decode cX6_covered 26 = .ok (.ixor, 1) := by decide +kernel
theorem dX6_covered_27 : decode cX6_covered 27 = .ok (.iand, 1) := by decide +kernel
theorem dX6_covered_28 : decode cX6_covered 28 = .ok (.ifCond .ne 39, 3) := by decide +kernel
theorem dX6_covered_31 : decode cX6_covered 31 = .ok (.iload 6, 2) := by decide +kernel
theorem dX6_covered_33 : decode cX6_covered 33 = .ok (.iload_n 3, 1) := by decide +kernel
theorem dX6_covered_34 : decode cX6_covered 34 = .ok (.iand, 1) := by decide +kernel
theorem dX6_covered_35 : decode cX6_covered 35 = .ok (.ifCond .eq 32, 3) := by decide +kernel
theorem dX6_covered_38 : decode cX6_covered 38 = .ok (.lload 4, 2) := by decide +kernel
theorem dX6_covered_40 : decode cX6_covered 40 = .ok (.aload_n 0, 1) := by decide +kernel
theorem dX6_covered_41 : decode cX6_covered 41 = .ok (.aload_n 0, 1) := by decide +kernel
theorem dX6_covered_42 : decode cX6_covered 42 = .ok (.iload_n 1, 1) := by decide +kernel
theorem dX6_covered_43 : decode cX6_covered 43 = .ok (.iload 6, 2) := by decide +kernel
theorem dX6_covered_45 : decode cX6_covered 45 = .ok (.invokevirtual 95, 3) := by decide +kernel
theorem dX6_covered_48 : decode cX6_covered 48 = .ok (.aload_n 0, 1) := by decide +kernel
theorem dX6_covered_49 : decode cX6_covered 49 = .ok (.getfield 18, 3) := by decide +kernel
theorem dX6_covered_52 : decode cX6_covered 52 = .ok (.iload_n 2, 1) := by decide +kernel
theorem dX6_covered_53 : decode cX6_covered 53 = .ok (.iload 6, 2) := by decide +kernel
theorem dX6_covered_55 : decode cX6_covered 55 = .ok (.iconst (-1), 1) := by decide +kernel
theorem dX6_covered_56 : decode cX6_covered 56 = .ok (.ixor, 1) := by decide +kernel
theorem dX6_covered_57 : decode cX6_covered 57 = .ok (.iand, 1) := by decide +kernel
theorem dX6_covered_58 : decode cX6_covered 58 = .ok (.laload, 1) := by decide +kernel
theorem dX6_covered_59 : decode cX6_covered 59 = .ok (.invokevirtual 196, 3) := by decide +kernel
theorem dX6_covered_62 : decode cX6_covered 62 = .ok (.invokestatic 171, 3) := by decide +kernel
theorem dX6_covered_65 : decode cX6_covered 65 = .ok (.lstore 4, 2) := by decide +kernel
theorem dX6_covered_67 : decode cX6_covered 67 = .ok (.iinc 6 1, 3) := by decide +kernel
theorem dX6_covered_70 : decode cX6_covered 70 = .ok (.goto (-54), 3) := by decide +kernel
theorem dX6_covered_73 : decode cX6_covered 73 = .ok (.lload 4, 2) := by decide +kernel
theorem dX6_covered_75 : decode cX6_covered 75 = .ok (.lreturn, 1) := by decide +kernel
set_option maxRecDepth 20000 in
theorem ggX6_cover_X6_isGame : GoodIn wsX6_cover wsX6_isGame := goodIn_r _ [6, 7, 8, 9, 5, 10] (by decide +kernel) (by decide +kernel)
set_option maxRecDepth 20000 in
theorem gX6_cover_X6_isGame : GoodIn wsX6_cover (va_wsS RX6 85 yX6_isGame wsX6_isGame) := goodIn_app (goodIn_of _ (by decide +kernel)) ggX6_cover_X6_isGame
set_option maxRecDepth 20000 in
theorem ggX6_cover_X6_all : GoodIn wsX6_cover wsX6_all := goodIn_r _ [14, 15, 16, 17, 5, 18, 19, 40, 41, 42, 43, 44, 45, 46, 47, 48, 49, 50, 51, 52, 53, 54, 55] (by decide +kernel) (by decide +kernel)
set_option maxRecDepth 20000 in
theorem gX6_cover_X6_all : GoodIn wsX6_cover (wsV RX6 80 RX6 yX6_all wsX6_all) := goodIn_app (goodIn_of _ (by decide +kernel)) ggX6_cover_X6_all
set_option maxRecDepth 20000 in
theorem ggX6_cover_X6_covered : GoodIn wsX6_cover wsX6_covered := goodIn_r _ [23, 2, 24, 25, 26, 27, 28, 29, 30, 5, 31, 19, 32, 33, 34, 35, 1, 40, 41, 42, 43, 44, 45, 46, 47, 48, 49, 50, 51, 52, 53, 54, 55] (by decide +kernel) (by decide +kernel)
set_option maxRecDepth 20000 in
theorem gX6_cover_X6_covered : GoodIn wsX6_cover (wsV RX6 210 RX6 yX6_covered wsX6_covered) := goodIn_app (goodIn_of _ (by decide +kernel)) ggX6_cover_X6_covered
set_option maxRecDepth 20000 in
theorem ggX6_cover_X6_takes : GoodIn wsX6_cover wsX6_takes := goodIn_r _ [39, 1, 2, 19, 11, 12, 13, 5, 14, 15, 16, 17, 18, 28, 29, 30, 31, 40, 41, 42, 43, 44, 45, 46, 47, 48, 49, 50, 51, 52, 53, 54, 55] (by decide +kernel) (by decide +kernel)
set_option maxRecDepth 20000 in
theorem gX6_cover_X6_takes : GoodIn wsX6_cover (wsV RX6 193 RX6 yX6_takes wsX6_takes) := goodIn_app (goodIn_of _ (by decide +kernel)) ggX6_cover_X6_takes
theorem dX6_cover_0 : decode cX6_cover 0 = .ok (.iload_n 1, 1) := by decide +kernel
theorem dX6_cover_1 : decode cX6_cover 1 = .ok (.invokestatic 85, 3) := by decide +kernel
theorem dX6_cover_4 : decode cX6_cover 4 = .ok (.ifCond .ne 5, 3) := by decide +kernel
theorem dX6_cover_7 : decode cX6_cover 7 = .ok (.iconst (-1), 1) := by decide +kernel
theorem dX6_cover_8 : decode cX6_cover 8 = .ok (.ireturn, 1) := by decide +kernel
theorem dX6_cover_9 : decode cX6_cover 9 = .ok (.aload_n 0, 1) := by decide +kernel
theorem dX6_cover_10 : decode cX6_cover 10 = .ok (.iconst 0, 1) := by decide +kernel
theorem dX6_cover_11 : decode cX6_cover 11 = .ok (.putfield 54, 3) := by decide +kernel
theorem dX6_cover_14 : decode cX6_cover 14 = .ok (.aload_n 0, 1) := by decide +kernel
theorem dX6_cover_15 : decode cX6_cover 15 = .ok (.getfield 18, 3) := by decide +kernel
theorem dX6_cover_18 : decode cX6_cover 18 = .ok (.iconst 0, 1) := by decide +kernel
theorem dX6_cover_19 : decode cX6_cover 19 = .ok (.lconst 0, 1) := by decide +kernel
theorem dX6_cover_20 : decode cX6_cover 20 = .ok (.lastore, 1) := by decide +kernel
theorem dX6_cover_21 : decode cX6_cover 21 = .ok (.iconst 1, 1) := by decide +kernel
theorem dX6_cover_22 : decode cX6_cover 22 = .ok (.istore_n 2, 1) := by decide +kernel
theorem dX6_cover_23 : decode cX6_cover 23 = .ok (.iload_n 2, 1) := by decide +kernel
theorem dX6_cover_24 : decode cX6_cover 24 = .ok (.aload_n 0, 1) := by decide +kernel
theorem dX6_cover_25 : decode cX6_cover 25 = .ok (.invokevirtual 80, 3) := by decide +kernel
theorem dX6_cover_28 : decode cX6_cover 28 = .ok (.if_icmp .gt 21, 3) := by decide +kernel
theorem dX6_cover_31 : decode cX6_cover 31 = .ok (.aload_n 0, 1) := by decide +kernel
theorem dX6_cover_32 : decode cX6_cover 32 = .ok (.getfield 18, 3) := by decide +kernel
theorem dX6_cover_35 : decode cX6_cover 35 = .ok (.iload_n 2, 1) := by decide +kernel
theorem dX6_cover_36 : decode cX6_cover 36 = .ok (.aload_n 0, 1) := by decide +kernel
theorem dX6_cover_37 : decode cX6_cover 37 = .ok (.iload_n 1, 1) := by decide +kernel
theorem dX6_cover_38 : decode cX6_cover 38 = .ok (.iload_n 2, 1) := by decide +kernel
theorem dX6_cover_39 : decode cX6_cover 39 = .ok (.invokevirtual 210, 3) := by decide +kernel
theorem dX6_cover_42 : decode cX6_cover 42 = .ok (.lastore, 1) := by decide +kernel
theorem dX6_cover_43 : decode cX6_cover 43 = .ok (.iinc 2 1, 3) := by decide +kernel
theorem dX6_cover_46 : decode cX6_cover 46 = .ok (.goto (-23), 3) := by decide +kernel
theorem dX6_cover_49 : decode cX6_cover 49 = .ok (.aload_n 0, 1) := by decide +kernel
theorem dX6_cover_50 : decode cX6_cover 50 = .ok (.iload_n 1, 1) := by decide +kernel
theorem dX6_cover_51 : decode cX6_cover 51 = .ok (.invokevirtual 193, 3) := by decide +kernel
theorem dX6_cover_54 : decode cX6_cover 54 = .ok (.ireturn, 1) := by decide +kernel
set_option maxRecDepth 20000 in
theorem ggX6_mask_X6_isGame : GoodIn wsX6_mask wsX6_isGame := goodIn_r _ [6, 7, 8, 9, 5, 10] (by decide +kernel) (by decide +kernel)
set_option maxRecDepth 20000 in
theorem gX6_mask_X6_isGame : GoodIn wsX6_mask (va_wsS RX6 85 yX6_isGame wsX6_isGame) := goodIn_app (goodIn_of _ (by decide +kernel)) ggX6_mask_X6_isGame
set_option maxRecDepth 20000 in
theorem ggX6_mask_X6_isSet : GoodIn wsX6_mask wsX6_isSet := goodIn_r _ [14, 15, 16, 17, 5, 18, 19, 20, 21, 22, 23, 8, 9, 10, 32, 33, 34, 35, 36, 37, 38, 39, 40, 41, 42, 43, 44, 45, 46, 47] (by decide +kernel) (by decide +kernel)
set_option maxRecDepth 20000 in
theorem gX6_mask_X6_isSet : GoodIn wsX6_mask (wsV RX6 88 RX6 yX6_isSet wsX6_isSet) := goodIn_app (goodIn_of _ (by decide +kernel)) ggX6_mask_X6_isSet
set_option maxRecDepth 20000 in
theorem ggX6_mask_X6_all : GoodIn wsX6_mask wsX6_all := goodIn_r _ [18, 19, 20, 21, 5, 22, 23, 32, 33, 34, 35, 36, 37, 38, 39, 40, 41, 42, 43, 44, 45, 46, 47] (by decide +kernel) (by decide +kernel)
set_option maxRecDepth 20000 in
theorem gX6_mask_X6_all : GoodIn wsX6_mask (wsV RX6 80 RX6 yX6_all wsX6_all) := goodIn_app (goodIn_of _ (by decide +kernel)) ggX6_mask_X6_all
set_option maxRecDepth 20000 in
theorem ggX6_mask_X6_v : GoodIn wsX6_mask wsX6_v := goodIn_r _ [27, 23, 32, 33, 34, 35, 36, 37, 38, 39, 40, 41, 42, 43, 44, 45, 46, 47] (by decide +kernel) (by decide +kernel)
set_option maxRecDepth 20000 in
theorem gX6_mask_X6_v : GoodIn wsX6_mask (wsV RX6 95 RX6 yX6_v wsX6_v) := goodIn_app (goodIn_of _ (by decide +kernel)) ggX6_mask_X6_v
set_option maxRecDepth 20000 in
theorem ggX6_mask_X6_takes : GoodIn wsX6_mask wsX6_takes := goodIn_r _ [31, 1, 2, 23, 15, 16, 17, 5, 18, 19, 20, 21, 22, 24, 25, 26, 27, 32, 33, 34, 35, 36, 37, 38, 39, 40, 41, 42, 43, 44, 45, 46, 47] (by decide +kernel) (by decide +kernel)
set_option maxRecDepth 20000 in
theorem gX6_mask_X6_takes : GoodIn wsX6_mask (wsV RX6 193 RX6 yX6_takes wsX6_takes) := goodIn_app (goodIn_of _ (by decide +kernel)) ggX6_mask_X6_takes
theorem dX6_mask_0 : decode cX6_mask 0 = .ok (.iload_n 1, 1) := by decide +kernel
theorem dX6_mask_1 : decode cX6_mask 1 = .ok (.invokestatic 85, 3) := by decide +kernel
theorem dX6_mask_4 : decode cX6_mask 4 = .ok (.ifCond .ne 5, 3) := by decide +kernel
theorem dX6_mask_7 : decode cX6_mask 7 = .ok (.iconst (-1), 1) := by decide +kernel
theorem dX6_mask_8 : decode cX6_mask 8 = .ok (.ireturn, 1) := by decide +kernel
theorem dX6_mask_9 : decode cX6_mask 9 = .ok (.aload_n 0, 1) := by decide +kernel
theorem dX6_mask_10 : decode cX6_mask 10 = .ok (.iload_n 2, 1) := by decide +kernel
theorem dX6_mask_11 : decode cX6_mask 11 = .ok (.invokevirtual 88, 3) := by decide +kernel
theorem dX6_mask_14 : decode cX6_mask 14 = .ok (.ifCond .ne 6, 3) := by decide +kernel
theorem dX6_mask_17 : decode cX6_mask 17 = .ok (.bipush (-2), 2) := by decide +kernel
theorem dX6_mask_19 : decode cX6_mask 19 = .ok (.ireturn, 1) := by decide +kernel
theorem dX6_mask_20 : decode cX6_mask 20 = .ok (.aload_n 0, 1) := by decide +kernel
theorem dX6_mask_21 : decode cX6_mask 21 = .ok (.iconst 0, 1) := by decide +kernel
theorem dX6_mask_22 : decode cX6_mask 22 = .ok (.putfield 54, 3) := by decide +kernel
theorem dX6_mask_25 : decode cX6_mask 25 = .ok (.iconst 0, 1) := by decide +kernel
theorem dX6_mask_26 : decode cX6_mask 26 = .ok (.istore_n 3, 1) := by decide +kernel
theorem dX6_mask_27 : decode cX6_mask 27 = .ok (.iload_n 3, 1) := by decide +kernel
theorem dX6_mask_28 : decode cX6_mask 28 = .ok (.aload_n 0, 1) := by decide +kernel
theorem dX6_mask_29 : decode cX6_mask 29 = .ok (.invokevirtual 80, 3) := by decide +kernel
theorem dX6_mask_32 : decode cX6_mask 32 = .ok (.if_icmp .gt 23, 3) := by decide +kernel
theorem dX6_mask_35 : decode cX6_mask 35 = .ok (.aload_n 0, 1) := by decide +kernel
theorem dX6_mask_36 : decode cX6_mask 36 = .ok (.getfield 18, 3) := by decide +kernel
theorem dX6_mask_39 : decode cX6_mask 39 = .ok (.iload_n 3, 1) := by decide +kernel
theorem dX6_mask_40 : decode cX6_mask 40 = .ok (.aload_n 0, 1) := by decide +kernel
theorem dX6_mask_41 : decode cX6_mask 41 = .ok (.iload_n 1, 1) := by decide +kernel
theorem dX6_mask_42 : decode cX6_mask 42 = .ok (.iload_n 3, 1) := by decide +kernel
theorem dX6_mask_43 : decode cX6_mask 43 = .ok (.iload_n 2, 1) := by decide +kernel
theorem dX6_mask_44 : decode cX6_mask 44 = .ok (.iand, 1) := by decide +kernel
theorem dX6_mask_45 : decode cX6_mask 45 = .ok (.invokevirtual 95, 3) := by decide +kernel
theorem dX6_mask_48 : decode cX6_mask 48 = .ok (.lastore, 1) := by decide +kernel
theorem dX6_mask_49 : decode cX6_mask 49 = .ok (.iinc 3 1, 3) := by decide +kernel
theorem dX6_mask_52 : decode cX6_mask 52 = .ok (.goto (-25), 3) := by decide +kernel
theorem dX6_mask_55 : decode cX6_mask 55 = .ok (.aload_n 0, 1) := by decide +kernel
theorem dX6_mask_56 : decode cX6_mask 56 = .ok (.iload_n 1, 1) := by decide +kernel
theorem dX6_mask_57 : decode cX6_mask 57 = .ok (.invokevirtual 193, 3) := by decide +kernel
theorem dX6_mask_60 : decode cX6_mask 60 = .ok (.ireturn, 1) := by decide +kernel
set_option maxRecDepth 20000 in
theorem ggX6_unanimous_X6_isGame : GoodIn wsX6_unanimous wsX6_isGame := goodIn_r _ [8, 9, 10, 11, 7, 12] (by decide +kernel) (by decide +kernel)
set_option maxRecDepth 20000 in
theorem gX6_unanimous_X6_isGame : GoodIn wsX6_unanimous (va_wsS RX6 85 yX6_isGame wsX6_isGame) := goodIn_app (goodIn_of _ (by decide +kernel)) ggX6_unanimous_X6_isGame
set_option maxRecDepth 20000 in
theorem ggX6_unanimous_X6_isSet : GoodIn wsX6_unanimous wsX6_isSet := goodIn_r _ [16, 17, 18, 19, 7, 20, 21, 22, 23, 24, 25, 10, 11, 12, 42, 43, 44, 45, 46, 47, 48, 49, 50, 51, 52, 53, 54, 55, 56, 57] (by decide +kernel) (by decide +kernel)
set_option maxRecDepth 20000 in
theorem gX6_unanimous_X6_isSet : GoodIn wsX6_unanimous (wsV RX6 88 RX6 yX6_isSet wsX6_isSet) := goodIn_app (goodIn_of _ (by decide +kernel)) ggX6_unanimous_X6_isSet
set_option maxRecDepth 20000 in
theorem ggX6_unanimous_X6_isIn : GoodIn wsX6_unanimous wsX6_isIn := goodIn_r _ [12] (by decide +kernel) (by decide +kernel)
set_option maxRecDepth 20000 in
theorem gX6_unanimous_X6_isIn : GoodIn wsX6_unanimous (va_wsS RX6 70 yX6_isIn wsX6_isIn) := goodIn_app (goodIn_of _ (by decide +kernel)) ggX6_unanimous_X6_isIn
set_option maxRecDepth 20000 in
theorem ggX6_unanimous_X6_all : GoodIn wsX6_unanimous wsX6_all := goodIn_r _ [20, 21, 22, 23, 7, 24, 25, 42, 43, 44, 45, 46, 47, 48, 49, 50, 51, 52, 53, 54, 55, 56, 57] (by decide +kernel) (by decide +kernel)
set_option maxRecDepth 20000 in
theorem gX6_unanimous_X6_all : GoodIn wsX6_unanimous (wsV RX6 80 RX6 yX6_all wsX6_all) := goodIn_app (goodIn_of _ (by decide +kernel)) ggX6_unanimous_X6_all
set_option maxRecDepth 20000 in
theorem ggX6_unanimous_X6_v : GoodIn wsX6_unanimous wsX6_v := goodIn_r _ [29, 25, 42, 43, 44, 45, 46, 47, 48, 49, 50, 51, 52, 53, 54, 55, 56, 57] (by decide +kernel) (by decide +kernel)
set_option maxRecDepth 20000 in
theorem gX6_unanimous_X6_v : GoodIn wsX6_unanimous (wsV RX6 95 RX6 yX6_v wsX6_v) := goodIn_app (goodIn_of _ (by decide +kernel)) ggX6_unanimous_X6_v
set_option maxRecDepth 20000 in
theorem ggX6_unanimous_X6_plus : GoodIn wsX6_unanimous wsX6_plus := goodIn_r _ [33, 3, 42, 43, 44, 45, 46, 47, 48, 49, 50, 51, 52, 53, 54, 55, 56, 57] (by decide +kernel) (by decide +kernel)
set_option maxRecDepth 20000 in
theorem gX6_unanimous_X6_plus : GoodIn wsX6_unanimous (wsV RX6 196 RX6 yX6_plus wsX6_plus) := goodIn_app (goodIn_of _ (by decide +kernel)) ggX6_unanimous_X6_plus
set_option maxRecDepth 20000 in
theorem ggX6_unanimous_X6_done : GoodIn wsX6_unanimous wsX6_done := goodIn_r _ [37, 38, 39, 40, 7, 41, 3, 4, 25, 17, 18, 19, 20, 21, 22, 23, 24, 26, 27, 28, 29, 42, 43, 44, 45, 46, 47, 48, 49, 50, 51, 52, 53, 54, 55, 56, 57] (by decide +kernel) (by decide +kernel)
set_option maxRecDepth 20000 in
theorem gX6_unanimous_X6_done : GoodIn wsX6_unanimous (wsV RX6 199 RX6 yX6_done wsX6_done) := goodIn_app (goodIn_of _ (by decide +kernel)) ggX6_unanimous_X6_done
theorem dX6_unanimous_0 : decode cX6_unanimous 0 = .ok (.iload_n 1, 1) := by decide +kernel
theorem dX6_unanimous_1 : decode cX6_unanimous 1 = .ok (.invokestatic 85, 3) := by decide +kernel
theorem dX6_unanimous_4 : decode cX6_unanimous 4 = .ok (.ifCond .ne 5, 3) := by decide +kernel
theorem dX6_unanimous_7 : decode cX6_unanimous 7 = .ok (.iconst (-1), 1) := by decide +kernel
theorem dX6_unanimous_8 : decode cX6_unanimous 8 = .ok (.ireturn, 1) := by decide +kernel
theorem dX6_unanimous_9 : decode cX6_unanimous 9 = .ok (.aload_n 0, 1) := by decide +kernel
theorem dX6_unanimous_10 : decode cX6_unanimous 10 = .ok (.iload_n 2, 1) := by decide +kernel
theorem dX6_unanimous_11 : decode cX6_unanimous 11 = .ok (.invokevirtual 88, 3) := by decide +kernel
theorem dX6_unanimous_14 : decode cX6_unanimous 14 = .ok (.ifCond .eq 20, 3) := by decide +kernel
theorem dX6_unanimous_17 : decode cX6_unanimous 17 = .ok (.iload_n 2, 1) := by decide +kernel
theorem dX6_unanimous_18 : decode cX6_unanimous 18 = .ok (.ifCond .eq 16, 3) := by decide +kernel
theorem dX6_unanimous_21 : decode cX6_unanimous 21 = .ok (.lload_n 3, 1) := by decide +kernel
theorem dX6_unanimous_22 : decode cX6_unanimous 22 = .ok (.ldc2_w 91, 3) := by decide +kernel
theorem dX6_unanimous_25 : decode cX6_unanimous 25 = .ok (.ldc2_w 93, 3) := by decide +kernel
theorem dX6_unanimous_28 : decode cX6_unanimous 28 = .ok (.invokestatic 70, 3) := by decide +kernel
theorem dX6_unanimous_31 : decode cX6_unanimous 31 = .ok (.ifCond .ne 6, 3) := by decide +kernel
theorem dX6_unanimous_34 : decode cX6_unanimous 34 = .ok (.bipush (-2), 2) := by decide +kernel
theorem dX6_unanimous_36 : decode cX6_unanimous 36 = .ok (.ireturn, 1) := by decide +kernel
theorem dX6_unanimous_37 : decode cX6_unanimous 37 = .ok (.aload_n 0, 1) := by decide +kernel
theorem dX6_unanimous_38 : decode cX6_unanimous 38 = .ok (.iconst 0, 1) := by decide +kernel
theorem dX6_unanimous_39 : decode cX6_unanimous 39 = .ok (.putfield 54, 3) := by decide +kernel
theorem dX6_unanimous_42 : decode cX6_unanimous 42 = .ok (.iconst 0, 1) := by decide +kernel
theorem dX6_unanimous_43 : decode cX6_unanimous 43 = .ok (.istore 5, 2) := by decide +kernel
theorem dX6_unanimous_45 : decode cX6_unanimous 45 = .ok (.iload 5, 2) := by decide +kernel
theorem dX6_unanimous_47 : decode cX6_unanimous 47 = .ok (.aload_n 0, 1) := by decide +kernel
theorem dX6_unanimous_48 : decode cX6_unanimous 48 = .ok (.invokevirtual 80, 3) := by decide +kernel
theorem dX6_unanimous_51 : decode cX6_unanimous 51 = .ok (.if_icmp .gt 47, 3) := by decide +kernel
theorem dX6_unanimous_54 : decode cX6_unanimous 54 = .ok (.aload_n 0, 1) := by decide +kernel
theorem dX6_unanimous_55 : decode cX6_unanimous 55 = .ok (.getfield 18, 3) := by decide +kernel
theorem dX6_unanimous_58 : decode cX6_unanimous 58 = .ok (.iload 5, 2) := by decide +kernel
theorem dX6_unanimous_60 : decode cX6_unanimous 60 = .ok (.iload_n 2, 1) := by decide +kernel
theorem dX6_unanimous_61 : decode cX6_unanimous 61 = .ok (.iload 5, 2) := by decide +kernel
theorem dX6_unanimous_63 : decode cX6_unanimous 63 = .ok (.iconst (-1), 1) := by decide +kernel
theorem dX6_unanimous_64 : decode cX6_unanimous 64 = .ok (.ixor, 1) := by decide +kernel
theorem dX6_unanimous_65 : decode cX6_unanimous 65 = .ok (.iand, 1) := by decide +kernel
theorem dX6_unanimous_66 : decode cX6_unanimous 66 = .ok (.ifCond .ne 18, 3) := by decide +kernel
theorem dX6_unanimous_69 : decode cX6_unanimous 69 = .ok (.aload_n 0, 1) := by decide +kernel
theorem dX6_unanimous_70 : decode cX6_unanimous 70 = .ok (.aload_n 0, 1) := by decide +kernel
theorem dX6_unanimous_71 : decode cX6_unanimous 71 = .ok (.iload_n 1, 1) := by decide +kernel
theorem dX6_unanimous_72 : decode cX6_unanimous 72 = .ok (.iload 5, 2) := by decide +kernel
theorem dX6_unanimous_74 : decode cX6_unanimous 74 = .ok (.invokevirtual 95, 3) := by decide +kernel
theorem dX6_unanimous_77 : decode cX6_unanimous 77 = .ok (.lload_n 3, 1) := by decide +kernel
theorem dX6_unanimous_78 : decode cX6_unanimous 78 = .ok (.invokevirtual 196, 3) := by decide +kernel
theorem dX6_unanimous_81 : decode cX6_unanimous 81 = .ok (.goto 10, 3) := by decide +kernel
theorem dX6_unanimous_84 : decode cX6_unanimous 84 = .ok (.aload_n 0, 1) := by decide +kernel
theorem dX6_unanimous_85 : decode cX6_unanimous 85 = .ok (.iload_n 1, 1) := by decide +kernel
theorem dX6_unanimous_86 : decode cX6_unanimous 86 = .ok (.iload 5, 2) := by decide +kernel
theorem dX6_unanimous_88 : decode cX6_unanimous 88 = .ok (.invokevirtual 95, 3) := by decide +kernel
theorem dX6_unanimous_91 : decode cX6_unanimous 91 = .ok (.lastore, 1) := by decide +kernel
theorem dX6_unanimous_92 : decode cX6_unanimous 92 = .ok (.iinc 5 1, 3) := by decide +kernel
theorem dX6_unanimous_95 : decode cX6_unanimous 95 = .ok (.goto (-50), 3) := by decide +kernel
theorem dX6_unanimous_98 : decode cX6_unanimous 98 = .ok (.aload_n 0, 1) := by decide +kernel
theorem dX6_unanimous_99 : decode cX6_unanimous 99 = .ok (.iload_n 1, 1) := by decide +kernel
theorem dX6_unanimous_100 : decode cX6_unanimous 100 = .ok (.invokevirtual 199, 3) := by decide +kernel
theorem dX6_unanimous_103 : decode cX6_unanimous 103 = .ok (.ireturn, 1) := by decide +kernel
set_option maxRecDepth 20000 in
theorem ggX6_without_X6_isGame : GoodIn wsX6_without wsX6_isGame := goodIn_r _ [6, 7, 8, 9, 5, 10] (by decide +kernel) (by decide +kernel)
set_option maxRecDepth 20000 in
theorem gX6_without_X6_isGame : GoodIn wsX6_without (va_wsS RX6 85 yX6_isGame wsX6_isGame) := goodIn_app (goodIn_of _ (by decide +kernel)) ggX6_without_X6_isGame
set_option maxRecDepth 20000 in
theorem ggX6_without_X6_isPartner : GoodIn wsX6_without wsX6_isPartner := goodIn_r _ [14, 15, 16, 17, 5, 18, 19, 8, 9, 10, 32, 33, 34, 35, 36, 37, 38, 39, 40, 41, 42, 43, 44, 45, 46, 47] (by decide +kernel) (by decide +kernel)
set_option maxRecDepth 20000 in
theorem gX6_without_X6_isPartner : GoodIn wsX6_without (wsV RX6 74 RX6 yX6_isPartner wsX6_isPartner) := goodIn_app (goodIn_of _ (by decide +kernel)) ggX6_without_X6_isPartner
set_option maxRecDepth 20000 in
theorem ggX6_without_X6_all : GoodIn wsX6_without wsX6_all := goodIn_r _ [23, 15, 16, 17, 5, 18, 19, 32, 33, 34, 35, 36, 37, 38, 39, 40, 41, 42, 43, 44, 45, 46, 47] (by decide +kernel) (by decide +kernel)
set_option maxRecDepth 20000 in
theorem gX6_without_X6_all : GoodIn wsX6_without (wsV RX6 80 RX6 yX6_all wsX6_all) := goodIn_app (goodIn_of _ (by decide +kernel)) ggX6_without_X6_all
set_option maxRecDepth 20000 in
theorem ggX6_without_X6_v : GoodIn wsX6_without wsX6_v := goodIn_r _ [27, 19, 32, 33, 34, 35, 36, 37, 38, 39, 40, 41, 42, 43, 44, 45, 46, 47] (by decide +kernel) (by decide +kernel)
set_option maxRecDepth 20000 in
theorem gX6_without_X6_v : GoodIn wsX6_without (wsV RX6 95 RX6 yX6_v wsX6_v) := goodIn_app (goodIn_of _ (by decide +kernel)) ggX6_without_X6_v
set_option maxRecDepth 20000 in
theorem ggX6_without_X6_takes : GoodIn wsX6_without wsX6_takes := goodIn_r _ [31, 1, 2, 19, 20, 21, 22, 5, 23, 15, 16, 17, 18, 24, 25, 26, 27, 32, 33, 34, 35, 36, 37, 38, 39, 40, 41, 42, 43, 44, 45, 46, 47] (by decide +kernel) (by decide +kernel)
set_option maxRecDepth 20000 in
theorem gX6_without_X6_takes : GoodIn wsX6_without (wsV RX6 193 RX6 yX6_takes wsX6_takes) := goodIn_app (goodIn_of _ (by decide +kernel)) ggX6_without_X6_takes
theorem dX6_without_0 : decode cX6_without 0 = .ok (.iload_n 1, 1) := by decide +kernel
theorem dX6_without_1 : decode cX6_without 1 = .ok (.invokestatic 85, 3) := by decide +kernel
theorem dX6_without_4 : decode cX6_without 4 = .ok (.ifCond .eq 11, 3) := by decide +kernel
theorem dX6_without_7 : decode cX6_without 7 = .ok (.aload_n 0, 1) := by decide +kernel
theorem dX6_without_8 : decode cX6_without 8 = .ok (.iload_n 2, 1) := by decide +kernel
theorem dX6_without_9 : decode cX6_without 9 = .ok (.invokevirtual 74, 3) := by decide +kernel
theorem dX6_without_12 : decode cX6_without 12 = .ok (.ifCond .ne 5, 3) := by decide +kernel
theorem dX6_without_15 : decode cX6_without 15 = .ok (.iconst (-1), 1) := by decide +kernel
theorem dX6_without_16 : decode cX6_without 16 = .ok (.ireturn, 1) := by decide +kernel
theorem dX6_without_17 : decode cX6_without 17 = .ok (.aload_n 0, 1) := by decide +kernel
theorem dX6_without_18 : decode cX6_without 18 = .ok (.iconst 0, 1) := by decide +kernel
theorem dX6_without_19 : decode cX6_without 19 = .ok (.putfield 54, 3) := by decide +kernel
theorem dX6_without_22 : decode cX6_without 22 = .ok (.iconst 0, 1) := by decide +kernel
theorem dX6_without_23 : decode cX6_without 23 = .ok (.istore_n 3, 1) := by decide +kernel
theorem dX6_without_24 : decode cX6_without 24 = .ok (.iload_n 3, 1) := by decide +kernel
theorem dX6_without_25 : decode cX6_without 25 = .ok (.aload_n 0, 1) := by decide +kernel
theorem dX6_without_26 : decode cX6_without 26 = .ok (.invokevirtual 80, 3) := by decide +kernel
theorem dX6_without_29 : decode cX6_without 29 = .ok (.if_icmp .gt 27, 3) := by decide +kernel
theorem dX6_without_32 : decode cX6_without 32 = .ok (.aload_n 0, 1) := by decide +kernel
theorem dX6_without_33 : decode cX6_without 33 = .ok (.getfield 18, 3) := by decide +kernel
theorem dX6_without_36 : decode cX6_without 36 = .ok (.iload_n 3, 1) := by decide +kernel
theorem dX6_without_37 : decode cX6_without 37 = .ok (.aload_n 0, 1) := by decide +kernel
theorem dX6_without_38 : decode cX6_without 38 = .ok (.iload_n 1, 1) := by decide +kernel
theorem dX6_without_39 : decode cX6_without 39 = .ok (.iload_n 3, 1) := by decide +kernel
theorem dX6_without_40 : decode cX6_without 40 = .ok (.iconst 1, 1) := by decide +kernel
theorem dX6_without_41 : decode cX6_without 41 = .ok (.iload_n 2, 1) := by decide +kernel
theorem dX6_without_42 : decode cX6_without 42 = .ok (.ishl, 1) := by decide +kernel
theorem dX6_without_43 : decode cX6_without 43 = .ok (.iconst (-1), 1) := by decide +kernel
theorem dX6_without_44 : decode cX6_without 44 = .ok (.ixor, 1) := by decide +kernel
theorem dX6_without_45 : decode cX6_without 45 = .ok (.iand, 1) := by decide +kernel
theorem dX6_without_46 : decode cX6_without 46 = .ok (.invokevirtual 95, 3) := by decide +kernel
theorem dX6_without_49 : decode cX6_without 49 = .ok (.lastore, 1) := by decide +kernel
theorem dX6_without_50 : decode cX6_without 50 = .ok (.iinc 3 1, 3) := by decide +kernel
theorem dX6_without_53 : decode cX6_without 53 = .ok (.goto (-29), 3) := by decide +kernel
theorem dX6_without_56 : decode cX6_without 56 = .ok (.aload_n 0, 1) := by decide +kernel
theorem dX6_without_57 : decode cX6_without 57 = .ok (.iload_n 1, 1) := by decide +kernel
theorem dX6_without_58 : decode cX6_without 58 = .ok (.invokevirtual 193, 3) := by decide +kernel
theorem dX6_without_61 : decode cX6_without 61 = .ok (.ireturn, 1) := by decide +kernel
set_option maxRecDepth 20000 in
theorem ggX6_join_X6_isGame : GoodIn wsX6_join wsX6_isGame := goodIn_r _ [6, 7, 8, 9, 5, 10] (by decide +kernel) (by decide +kernel)
set_option maxRecDepth 20000 in
theorem gX6_join_X6_isGame : GoodIn wsX6_join (va_wsS RX6 85 yX6_isGame wsX6_isGame) := goodIn_app (goodIn_of _ (by decide +kernel)) ggX6_join_X6_isGame
set_option maxRecDepth 20000 in
theorem ggX6_join_X6_isTwo : GoodIn wsX6_join wsX6_isTwo := goodIn_r _ [14, 15, 16, 17, 5, 18, 19, 20, 21, 22, 23, 8, 9, 10, 39, 40, 41, 42, 43, 44, 45, 46, 47, 48, 49, 50, 51, 52, 53, 54] (by decide +kernel) (by decide +kernel)
set_option maxRecDepth 20000 in
theorem gX6_join_X6_isTwo : GoodIn wsX6_join (wsV RX6 116 RX6 yX6_isTwo wsX6_isTwo) := goodIn_app (goodIn_of _ (by decide +kernel)) ggX6_join_X6_isTwo
set_option maxRecDepth 20000 in
theorem ggX6_join_X6_all : GoodIn wsX6_join wsX6_all := goodIn_r _ [27, 19, 20, 21, 5, 22, 23, 39, 40, 41, 42, 43, 44, 45, 46, 47, 48, 49, 50, 51, 52, 53, 54] (by decide +kernel) (by decide +kernel)
set_option maxRecDepth 20000 in
theorem gX6_join_X6_all : GoodIn wsX6_join (wsV RX6 80 RX6 yX6_all wsX6_all) := goodIn_app (goodIn_of _ (by decide +kernel)) ggX6_join_X6_all
set_option maxRecDepth 20000 in
theorem ggX6_join_X6_has : GoodIn wsX6_join wsX6_has := goodIn_r _ [30] (by decide +kernel) (by decide +kernel)
set_option maxRecDepth 20000 in
theorem gX6_join_X6_has : GoodIn wsX6_join (va_wsS RX6 164 yX6_has wsX6_has) := goodIn_app (goodIn_of _ (by decide +kernel)) ggX6_join_X6_has
set_option maxRecDepth 20000 in
theorem ggX6_join_X6_v : GoodIn wsX6_join wsX6_v := goodIn_r _ [34, 23, 39, 40, 41, 42, 43, 44, 45, 46, 47, 48, 49, 50, 51, 52, 53, 54] (by decide +kernel) (by decide +kernel)
set_option maxRecDepth 20000 in
theorem gX6_join_X6_v : GoodIn wsX6_join (wsV RX6 95 RX6 yX6_v wsX6_v) := goodIn_app (goodIn_of _ (by decide +kernel)) ggX6_join_X6_v
set_option maxRecDepth 20000 in
theorem ggX6_join_X6_takes : GoodIn wsX6_join wsX6_takes := goodIn_r _ [38, 1, 2, 23, 24, 25, 26, 5, 27, 19, 20, 21, 22, 31, 32, 33, 34, 39, 40, 41, 42, 43, 44, 45, 46, 47, 48, 49, 50, 51, 52, 53, 54] (by decide +kernel) (by decide +kernel)
set_option maxRecDepth 20000 in
theorem gX6_join_X6_takes : GoodIn wsX6_join (wsV RX6 193 RX6 yX6_takes wsX6_takes) := goodIn_app (goodIn_of _ (by decide +kernel)) ggX6_join_X6_takes
theorem dX6_join_0 : decode cX6_join 0 = .ok (.iload_n 1, 1) := by decide +kernel
theorem dX6_join_1 : decode cX6_join 1 = .ok (.invokestatic 85, 3) := by decide +kernel
theorem dX6_join_4 : decode cX6_join 4 = .ok (.ifCond .eq 12, 3) := by decide +kernel
theorem dX6_join_7 : decode cX6_join 7 = .ok (.aload_n 0, 1) := by decide +kernel
theorem dX6_join_8 : decode cX6_join 8 = .ok (.iload_n 2, 1) := by decide +kernel
theorem dX6_join_9 : decode cX6_join 9 = .ok (.iload_n 3, 1) := by decide +kernel
theorem dX6_join_10 : decode cX6_join 10 = .ok (.invokevirtual 116, 3) := by decide +kernel
theorem dX6_join_13 : decode cX6_join 13 = .ok (.ifCond .ne 5, 3) := by decide +kernel
theorem dX6_join_16 : decode cX6_join 16 = .ok (.iconst (-1), 1) := by decide +kernel
theorem dX6_join_17 : decode cX6_join 17 = .ok (.ireturn, 1) := by decide +kernel
theorem dX6_join_18 : decode cX6_join 18 = .ok (.aload_n 0, 1) := by decide +kernel
theorem dX6_join_19 : decode cX6_join 19 = .ok (.iconst 0, 1) := by decide +kernel
theorem dX6_join_20 : decode cX6_join 20 = .ok (.putfield 54, 3) := by decide +kernel
theorem dX6_join_23 : decode cX6_join 23 = .ok (.iconst 0, 1) := by decide +kernel
theorem dX6_join_24 : decode cX6_join 24 = .ok (.istore 4, 2) := by decide +kernel
theorem dX6_join_26 : decode cX6_join 26 = .ok (.iload 4, 2) := by decide +kernel
theorem dX6_join_28 : decode cX6_join 28 = .ok (.aload_n 0, 1) := by decide +kernel
theorem dX6_join_29 : decode cX6_join 29 = .ok (.invokevirtual 80, 3) := by decide +kernel
theorem dX6_join_32 : decode cX6_join 32 = .ok (.if_icmp .gt 47, 3) := by decide +kernel
theorem dX6_join_35 : decode cX6_join 35 = .ok (.aload_n 0, 1) := by decide +kernel
theorem dX6_join_36 : decode cX6_join 36 = .ok (.getfield 18, 3) := by decide +kernel
theorem dX6_join_39 : decode cX6_join 39 = .ok (.iload 4, 2) := by decide +kernel
theorem dX6_join_41 : decode cX6_join 41 = .ok (.aload_n 0, 1) := by decide +kernel
theorem dX6_join_42 : decode cX6_join 42 = .ok (.iload_n 1, 1) := by decide +kernel
theorem dX6_join_43 : decode cX6_join 43 = .ok (.iload 4, 2) := by decide +kernel
theorem dX6_join_45 : decode cX6_join 45 = .ok (.iload_n 2, 1) := by decide +kernel
theorem dX6_join_46 : decode cX6_join 46 = .ok (.invokestatic 164, 3) := by decide +kernel
theorem dX6_join_49 : decode cX6_join 49 = .ok (.ifCond .eq 12, 3) := by decide +kernel
theorem dX6_join_52 : decode cX6_join 52 = .ok (.iload 4, 2) := by decide +kernel
theorem dX6_join_54 : decode cX6_join 54 = .ok (.iconst 1, 1) := by decide +kernel
theorem dX6_join_55 : decode cX6_join 55 = .ok (.iload_n 3, 1) := by decide +kernel
theorem dX6_join_56 : decode cX6_join 56 = .ok (.ishl, 1) := by decide +kernel
theorem dX6_join_57 : decode cX6_join 57 = .ok (.ior, 1) := by decide +kernel
theorem dX6_join_58 : decode cX6_join 58 = .ok (.goto 11, 3) := by decide +kernel
theorem dX6_join_61 : decode cX6_join 61 = .ok (.iload 4, 2) := by decide +kernel
theorem dX6_join_63 : decode cX6_join 63 = .ok (.iconst 1, 1) := by decide +kernel
theorem dX6_join_64 : decode cX6_join 64 = .ok (.iload_n 3, 1) := by decide +kernel
theorem dX6_join_65 : decode cX6_join 65 = .ok (.ishl, 1) := by decide +kernel
theorem dX6_join_66 : decode cX6_join 66 = .ok (.iconst (-1), 1) := by decide +kernel
theorem dX6_join_67 : decode cX6_join 67 = .ok (.ixor, 1) := by decide +kernel
theorem dX6_join_68 : decode cX6_join 68 = .ok (.iand, 1) := by decide +kernel
theorem dX6_join_69 : decode cX6_join 69 = .ok (.invokevirtual 95, 3) := by decide +kernel
theorem dX6_join_72 : decode cX6_join 72 = .ok (.lastore, 1) := by decide +kernel
theorem dX6_join_73 : decode cX6_join 73 = .ok (.iinc 4 1, 3) := by decide +kernel
theorem dX6_join_76 : decode cX6_join 76 = .ok (.goto (-50), 3) := by decide +kernel
theorem dX6_join_79 : decode cX6_join 79 = .ok (.aload_n 0, 1) := by decide +kernel
theorem dX6_join_80 : decode cX6_join 80 = .ok (.iload_n 1, 1) := by decide +kernel
theorem dX6_join_81 : decode cX6_join 81 = .ok (.invokevirtual 193, 3) := by decide +kernel
theorem dX6_join_84 : decode cX6_join 84 = .ok (.ireturn, 1) := by decide +kernel
set_option maxRecDepth 20000 in
theorem ggX6_swap_X6_isGame : GoodIn wsX6_swap wsX6_isGame := goodIn_r _ [6, 7, 8, 9, 5, 10] (by decide +kernel) (by decide +kernel)
set_option maxRecDepth 20000 in
theorem gX6_swap_X6_isGame : GoodIn wsX6_swap (va_wsS RX6 85 yX6_isGame wsX6_isGame) := goodIn_app (goodIn_of _ (by decide +kernel)) ggX6_swap_X6_isGame
set_option maxRecDepth 20000 in
theorem ggX6_swap_X6_isPartner : GoodIn wsX6_swap wsX6_isPartner := goodIn_r _ [14, 15, 16, 17, 5, 18, 19, 8, 9, 10, 35, 36, 37, 38, 39, 40, 41, 42, 43, 44, 45, 46, 47, 48, 49, 50] (by decide +kernel) (by decide +kernel)
set_option maxRecDepth 20000 in
theorem gX6_swap_X6_isPartner : GoodIn wsX6_swap (wsV RX6 74 RX6 yX6_isPartner wsX6_isPartner) := goodIn_app (goodIn_of _ (by decide +kernel)) ggX6_swap_X6_isPartner
set_option maxRecDepth 20000 in
theorem ggX6_swap_X6_all : GoodIn wsX6_swap wsX6_all := goodIn_r _ [23, 15, 16, 17, 5, 18, 19, 35, 36, 37, 38, 39, 40, 41, 42, 43, 44, 45, 46, 47, 48, 49, 50] (by decide +kernel) (by decide +kernel)
set_option maxRecDepth 20000 in
theorem gX6_swap_X6_all : GoodIn wsX6_swap (wsV RX6 80 RX6 yX6_all wsX6_all) := goodIn_app (goodIn_of _ (by decide +kernel)) ggX6_swap_X6_all
set_option maxRecDepth 20000 in
theorem ggX6_swap_X6_has : GoodIn wsX6_swap wsX6_has := goodIn_r _ [26] (by decide +kernel) (by decide +kernel)
set_option maxRecDepth 20000 in
theorem gX6_swap_X6_has : GoodIn wsX6_swap (va_wsS RX6 164 yX6_has wsX6_has) := goodIn_app (goodIn_of _ (by decide +kernel)) ggX6_swap_X6_has
set_option maxRecDepth 20000 in
theorem ggX6_swap_X6_v : GoodIn wsX6_swap wsX6_v := goodIn_r _ [30, 19, 35, 36, 37, 38, 39, 40, 41, 42, 43, 44, 45, 46, 47, 48, 49, 50] (by decide +kernel) (by decide +kernel)
set_option maxRecDepth 20000 in
theorem gX6_swap_X6_v : GoodIn wsX6_swap (wsV RX6 95 RX6 yX6_v wsX6_v) := goodIn_app (goodIn_of _ (by decide +kernel)) ggX6_swap_X6_v
set_option maxRecDepth 20000 in
theorem ggX6_swap_X6_takes : GoodIn wsX6_swap wsX6_takes := goodIn_r _ [34, 1, 2, 19, 20, 21, 22, 5, 23, 15, 16, 17, 18, 27, 28, 29, 30, 35, 36, 37, 38, 39, 40, 41, 42, 43, 44, 45, 46, 47, 48, 49, 50] (by decide +kernel) (by decide +kernel)
set_option maxRecDepth 20000 in
theorem gX6_swap_X6_takes : GoodIn wsX6_swap (wsV RX6 193 RX6 yX6_takes wsX6_takes) := goodIn_app (goodIn_of _ (by decide +kernel)) ggX6_swap_X6_takes
theorem dX6_swap_0 : decode cX6_swap 0 = .ok (.iload_n 1, 1) := by decide +kernel
theorem dX6_swap_1 : decode cX6_swap 1 = .ok (.invokestatic 85, 3) := by decide +kernel
theorem dX6_swap_4 : decode cX6_swap 4 = .ok (.ifCond .eq 19, 3) := by decide +kernel
theorem dX6_swap_7 : decode cX6_swap 7 = .ok (.aload_n 0, 1) := by decide +kernel
theorem dX6_swap_8 : decode cX6_swap 8 = .ok (.iload_n 2, 1) := by decide +kernel
theorem dX6_swap_9 : decode cX6_swap 9 = .ok (.invokevirtual 74, 3) := by decide +kernel
theorem dX6_swap_12 : decode cX6_swap 12 = .ok (.ifCond .eq 11, 3) := by decide +kernel
theorem dX6_swap_15 : decode cX6_swap 15 = .ok (.aload_n 0, 1) := by decide +kernel
theorem dX6_swap_16 : decode cX6_swap 16 = .ok (.iload_n 3, 1) := by decide +kernel
theorem dX6_swap_17 : decode cX6_swap 17 = .ok (.invokevirtual 74, 3) := by decide +kernel
theorem dX6_swap_20 : decode cX6_swap 20 = .ok (.ifCond .ne 5, 3) := by decide +kernel
theorem dX6_swap_23 : decode cX6_swap 23 = .ok (.iconst (-1), 1) := by decide +kernel
theorem dX6_swap_24 : decode cX6_swap 24 = .ok (.ireturn, 1) := by decide +kernel
theorem dX6_swap_25 : decode cX6_swap 25 = .ok (.aload_n 0, 1) := by decide +kernel
theorem dX6_swap_26 : decode cX6_swap 26 = .ok (.iconst 0, 1) := by decide +kernel
theorem dX6_swap_27 : decode cX6_swap 27 = .ok (.putfield 54, 3) := by decide +kernel
theorem dX6_swap_30 : decode cX6_swap 30 = .ok (.iconst 0, 1) := by decide +kernel
theorem dX6_swap_31 : decode cX6_swap 31 = .ok (.istore 4, 2) := by decide +kernel
theorem dX6_swap_33 : decode cX6_swap 33 = .ok (.iload 4, 2) := by decide +kernel
theorem dX6_swap_35 : decode cX6_swap 35 = .ok (.aload_n 0, 1) := by decide +kernel
theorem dX6_swap_36 : decode cX6_swap 36 = .ok (.invokevirtual 80, 3) := by decide +kernel
theorem dX6_swap_39 : decode cX6_swap 39 = .ok (.if_icmp .gt 51, 3) := by decide +kernel
theorem dX6_swap_42 : decode cX6_swap 42 = .ok (.aload_n 0, 1) := by decide +kernel
theorem dX6_swap_43 : decode cX6_swap 43 = .ok (.getfield 18, 3) := by decide +kernel
theorem dX6_swap_46 : decode cX6_swap 46 = .ok (.iload 4, 2) := by decide +kernel
theorem dX6_swap_48 : decode cX6_swap 48 = .ok (.aload_n 0, 1) := by decide +kernel
theorem dX6_swap_49 : decode cX6_swap 49 = .ok (.iload_n 1, 1) := by decide +kernel
theorem dX6_swap_50 : decode cX6_swap 50 = .ok (.iload 4, 2) := by decide +kernel
theorem dX6_swap_52 : decode cX6_swap 52 = .ok (.iload_n 2, 1) := by decide +kernel
theorem dX6_swap_53 : decode cX6_swap 53 = .ok (.invokestatic 164, 3) := by decide +kernel
theorem dX6_swap_56 : decode cX6_swap 56 = .ok (.iload 4, 2) := by decide +kernel
theorem dX6_swap_58 : decode cX6_swap 58 = .ok (.iload_n 3, 1) := by decide +kernel
theorem dX6_swap_59 : decode cX6_swap 59 = .ok (.invokestatic 164, 3) := by decide +kernel
theorem dX6_swap_62 : decode cX6_swap 62 = .ok (.if_icmp .ne 8, 3) := by decide +kernel
theorem dX6_swap_65 : decode cX6_swap 65 = .ok (.iload 4, 2) := by decide +kernel
theorem dX6_swap_67 : decode cX6_swap 67 = .ok (.goto 13, 3) := by decide +kernel
theorem dX6_swap_70 : decode cX6_swap 70 = .ok (.iload 4, 2) := by decide +kernel
theorem dX6_swap_72 : decode cX6_swap 72 = .ok (.iconst 1, 1) := by decide +kernel
theorem dX6_swap_73 : decode cX6_swap 73 = .ok (.iload_n 2, 1) := by decide +kernel
theorem dX6_swap_74 : decode cX6_swap 74 = .ok (.ishl, 1) := by decide +kernel
theorem dX6_swap_75 : decode cX6_swap 75 = .ok (.ixor, 1) := by decide +kernel
theorem dX6_swap_76 : decode cX6_swap 76 = .ok (.iconst 1, 1) := by decide +kernel
theorem dX6_swap_77 : decode cX6_swap 77 = .ok (.iload_n 3, 1) := by decide +kernel
theorem dX6_swap_78 : decode cX6_swap 78 = .ok (.ishl, 1) := by decide +kernel
theorem dX6_swap_79 : decode cX6_swap 79 = .ok (.ixor, 1) := by decide +kernel
theorem dX6_swap_80 : decode cX6_swap 80 = .ok (.invokevirtual 95, 3) := by decide +kernel
theorem dX6_swap_83 : decode cX6_swap 83 = .ok (.lastore, 1) := by decide +kernel
theorem dX6_swap_84 : decode cX6_swap 84 = .ok (.iinc 4 1, 3) := by decide +kernel
theorem dX6_swap_87 : decode cX6_swap 87 = .ok (.goto (-54), 3) := by decide +kernel
theorem dX6_swap_90 : decode cX6_swap 90 = .ok (.aload_n 0, 1) := by decide +kernel
theorem dX6_swap_91 : decode cX6_swap 91 = .ok (.iload_n 1, 1) := by decide +kernel
theorem dX6_swap_92 : decode cX6_swap 92 = .ok (.invokevirtual 193, 3) := by decide +kernel
theorem dX6_swap_95 : decode cX6_swap 95 = .ok (.ireturn, 1) := by decide +kernel
set_option maxRecDepth 20000 in
theorem ggX6_differ_X6_isGame : GoodIn wsX6_differ wsX6_isGame := goodIn_r _ [4, 5, 6, 7, 3, 8] (by decide +kernel) (by decide +kernel)
set_option maxRecDepth 20000 in
theorem gX6_differ_X6_isGame : GoodIn wsX6_differ (va_wsS RX6 85 yX6_isGame wsX6_isGame) := goodIn_app (goodIn_of _ (by decide +kernel)) ggX6_differ_X6_isGame
set_option maxRecDepth 20000 in
theorem ggX6_differ_X6_all : GoodIn wsX6_differ wsX6_all := goodIn_r _ [12, 13, 14, 15, 3, 16, 17, 22, 23, 24, 25, 26, 27, 28, 29, 30, 31, 32, 33, 34, 35, 36, 37] (by decide +kernel) (by decide +kernel)
set_option maxRecDepth 20000 in
theorem gX6_differ_X6_all : GoodIn wsX6_differ (wsV RX6 80 RX6 yX6_all wsX6_all) := goodIn_app (goodIn_of _ (by decide +kernel)) ggX6_differ_X6_all
set_option maxRecDepth 20000 in
theorem ggX6_differ_X6_v : GoodIn wsX6_differ wsX6_v := goodIn_r _ [21, 17, 22, 23, 24, 25, 26, 27, 28, 29, 30, 31, 32, 33, 34, 35, 36, 37] (by decide +kernel) (by decide +kernel)
set_option maxRecDepth 20000 in
theorem gX6_differ_X6_v : GoodIn wsX6_differ (wsV RX6 95 RX6 yX6_v wsX6_v) := goodIn_app (goodIn_of _ (by decide +kernel)) ggX6_differ_X6_v
theorem dX6_differ_0 : decode cX6_differ 0 = .ok (.iload_n 1, 1) := by decide +kernel
theorem dX6_differ_1 : decode cX6_differ 1 = .ok (.invokestatic 85, 3) := by decide +kernel
theorem dX6_differ_4 : decode cX6_differ 4 = .ok (.ifCond .eq 10, 3) := by decide +kernel
theorem dX6_differ_7 : decode cX6_differ 7 = .ok (.iload_n 2, 1) := by decide +kernel
theorem dX6_differ_8 : decode cX6_differ 8 = .ok (.invokestatic 85, 3) := by decide +kernel
theorem dX6_differ_11 : decode cX6_differ 11 = .ok (.ifCond .ne 5, 3) := by decide +kernel
theorem dX6_differ_14 : decode cX6_differ 14 = .ok (.iconst (-1), 1) := by decide +kernel
theorem dX6_differ_15 : decode cX6_differ 15 = .ok (.ireturn, 1) := by decide +kernel
theorem dX6_differ_16 : decode cX6_differ 16 = .ok (.iconst 0, 1) := by decide +kernel
theorem dX6_differ_17 : decode cX6_differ 17 = .ok (.istore_n 3, 1) := by decide +kernel
theorem dX6_differ_18 : decode cX6_differ 18 = .ok (.iload_n 3, 1) := by decide +kernel
theorem dX6_differ_19 : decode cX6_differ 19 = .ok (.aload_n 0, 1) := by decide +kernel
theorem dX6_differ_20 : decode cX6_differ 20 = .ok (.invokevirtual 80, 3) := by decide +kernel
theorem dX6_differ_23 : decode cX6_differ 23 = .ok (.if_icmp .gt 27, 3) := by decide +kernel
theorem dX6_differ_26 : decode cX6_differ 26 = .ok (.aload_n 0, 1) := by decide +kernel
theorem dX6_differ_27 : decode cX6_differ 27 = .ok (.iload_n 1, 1) := by decide +kernel
theorem dX6_differ_28 : decode cX6_differ 28 = .ok (.iload_n 3, 1) := by decide +kernel
theorem dX6_differ_29 : decode cX6_differ 29 = .ok (.invokevirtual 95, 3) := by decide +kernel
theorem dX6_differ_32 : decode cX6_differ 32 = .ok (.aload_n 0, 1) := by decide +kernel
theorem dX6_differ_33 : decode cX6_differ 33 = .ok (.iload_n 2, 1) := by decide +kernel
theorem dX6_differ_34 : decode cX6_differ 34 = .ok (.iload_n 3, 1) := by decide +kernel
theorem dX6_differ_35 : decode cX6_differ 35 = .ok (.invokevirtual 95, 3) := by decide +kernel
theorem dX6_differ_38 : decode cX6_differ 38 = .ok (.lcmp, 1) := by decide +kernel
theorem dX6_differ_39 : decode cX6_differ 39 = .ok (.ifCond .eq 5, 3) := by decide +kernel
theorem dX6_differ_42 : decode cX6_differ 42 = .ok (.iload_n 3, 1) := by decide +kernel
theorem dX6_differ_43 : decode cX6_differ 43 = .ok (.ireturn, 1) := by decide +kernel
theorem dX6_differ_44 : decode cX6_differ 44 = .ok (.iinc 3 1, 3) := by decide +kernel
theorem dX6_differ_47 : decode cX6_differ 47 = .ok (.goto (-29), 3) := by decide +kernel
theorem dX6_differ_50 : decode cX6_differ 50 = .ok (.bipush (-5), 2) := by decide +kernel
theorem dX6_differ_52 : decode cX6_differ 52 = .ok (.ireturn, 1) := by decide +kernel
set_option maxRecDepth 20000 in
theorem ggX6_unlike_X6_isGame : GoodIn wsX6_unlike wsX6_isGame := goodIn_r _ [4, 5, 6, 7, 3, 8] (by decide +kernel) (by decide +kernel)
set_option maxRecDepth 20000 in
theorem gX6_unlike_X6_isGame : GoodIn wsX6_unlike (va_wsS RX6 85 yX6_isGame wsX6_isGame) := goodIn_app (goodIn_of _ (by decide +kernel)) ggX6_unlike_X6_isGame
set_option maxRecDepth 20000 in
theorem ggX6_unlike_X6_all : GoodIn wsX6_unlike wsX6_all := goodIn_r _ [12, 13, 14, 15, 3, 16, 17, 22, 23, 24, 25, 26, 27, 28, 29, 30, 31, 32, 33, 34, 35, 36, 37] (by decide +kernel) (by decide +kernel)
set_option maxRecDepth 20000 in
theorem gX6_unlike_X6_all : GoodIn wsX6_unlike (wsV RX6 80 RX6 yX6_all wsX6_all) := goodIn_app (goodIn_of _ (by decide +kernel)) ggX6_unlike_X6_all
set_option maxRecDepth 20000 in
theorem ggX6_unlike_X6_v : GoodIn wsX6_unlike wsX6_v := goodIn_r _ [21, 17, 22, 23, 24, 25, 26, 27, 28, 29, 30, 31, 32, 33, 34, 35, 36, 37] (by decide +kernel) (by decide +kernel)
set_option maxRecDepth 20000 in
theorem gX6_unlike_X6_v : GoodIn wsX6_unlike (wsV RX6 95 RX6 yX6_v wsX6_v) := goodIn_app (goodIn_of _ (by decide +kernel)) ggX6_unlike_X6_v
theorem dX6_unlike_0 : decode cX6_unlike 0 = .ok (.iload_n 1, 1) := by decide +kernel
theorem dX6_unlike_1 : decode cX6_unlike 1 = .ok (.invokestatic 85, 3) := by decide +kernel
theorem dX6_unlike_4 : decode cX6_unlike 4 = .ok (.ifCond .ne 5, 3) := by decide +kernel
theorem dX6_unlike_7 : decode cX6_unlike 7 = .ok (.iconst (-1), 1) := by decide +kernel
theorem dX6_unlike_8 : decode cX6_unlike 8 = .ok (.ireturn, 1) := by decide +kernel
theorem dX6_unlike_9 : decode cX6_unlike 9 = .ok (.iconst 0, 1) := by decide +kernel
theorem dX6_unlike_10 : decode cX6_unlike 10 = .ok (.istore_n 2, 1) := by decide +kernel
theorem dX6_unlike_11 : decode cX6_unlike 11 = .ok (.iconst 0, 1) := by decide +kernel
theorem dX6_unlike_12 : decode cX6_unlike 12 = .ok (.istore_n 3, 1) := by decide +kernel
theorem dX6_unlike_13 : decode cX6_unlike 13 = .ok (.iload_n 3, 1) := by decide +kernel
theorem dX6_unlike_14 : decode cX6_unlike 14 = .ok (.aload_n 0, 1) := by decide +kernel
theorem dX6_unlike_15 : decode cX6_unlike 15 = .ok (.invokevirtual 80, 3) := by decide +kernel
theorem dX6_unlike_18 : decode cX6_unlike 18 = .ok (.if_icmp .gt 49, 3) := by decide +kernel
theorem dX6_unlike_21 : decode cX6_unlike 21 = .ok (.iconst 0, 1) := by decide +kernel
theorem dX6_unlike_22 : decode cX6_unlike 22 = .ok (.istore 4, 2) := by decide +kernel
theorem dX6_unlike_24 : decode cX6_unlike 24 = .ok (.aload_n 0, 1) := by decide +kernel
theorem dX6_unlike_25 : decode cX6_unlike 25 = .ok (.iload_n 1, 1) := by decide +kernel
theorem dX6_unlike_26 : decode cX6_unlike 26 = .ok (.iload 4, 2) := by decide +kernel
theorem dX6_unlike_28 : decode cX6_unlike 28 = .ok (.invokevirtual 95, 3) := by decide +kernel
theorem dX6_unlike_31 : decode cX6_unlike 31 = .ok (.aload_n 0, 1) := by decide +kernel
theorem dX6_unlike_32 : decode cX6_unlike 32 = .ok (.iload_n 1, 1) := by decide +kernel
theorem dX6_unlike_33 : decode cX6_unlike 33 = .ok (.iload_n 3, 1) := by decide +kernel
theorem dX6_unlike_34 : decode cX6_unlike 34 = .ok (.invokevirtual 95, 3) := by decide +kernel
theorem dX6_unlike_37 : decode cX6_unlike 37 = .ok (.lcmp, 1) := by decide +kernel
theorem dX6_unlike_38 : decode cX6_unlike 38 = .ok (.ifCond .eq 9, 3) := by decide +kernel
theorem dX6_unlike_41 : decode cX6_unlike 41 = .ok (.iinc 4 1, 3) := by decide +kernel
theorem dX6_unlike_44 : decode cX6_unlike 44 = .ok (.goto (-20), 3) := by decide +kernel
theorem dX6_unlike_47 : decode cX6_unlike 47 = .ok (.iload_n 2, 1) := by decide +kernel
theorem dX6_unlike_48 : decode cX6_unlike 48 = .ok (.iload 4, 2) := by decide +kernel
theorem dX6_unlike_50 : decode cX6_unlike 50 = .ok (.iload_n 3, 1) := by decide +kernel
theorem dX6_unlike_51 : decode cX6_unlike 51 = .ok (.if_icmp .ne 7, 3) := by decide +kernel
theorem dX6_unlike_54 : decode cX6_unlike 54 = .ok (.iconst 1, 1) := by decide +kernel
theorem dX6_unlike_55 : decode cX6_unlike 55 = .ok (.goto 4, 3) := by decide +kernel
theorem dX6_unlike_58 : decode cX6_unlike 58 = .ok (.iconst 0, 1) := by decide +kernel
theorem dX6_unlike_59 : decode cX6_unlike 59 = .ok (.iadd, 1) := by decide +kernel
theorem dX6_unlike_60 : decode cX6_unlike 60 = .ok (.istore_n 2, 1) := by decide +kernel
theorem dX6_unlike_61 : decode cX6_unlike 61 = .ok (.iinc 3 1, 3) := by decide +kernel
theorem dX6_unlike_64 : decode cX6_unlike 64 = .ok (.goto (-51), 3) := by decide +kernel
theorem dX6_unlike_67 : decode cX6_unlike 67 = .ok (.iload_n 2, 1) := by decide +kernel
theorem dX6_unlike_68 : decode cX6_unlike 68 = .ok (.ireturn, 1) := by decide +kernel
set_option maxRecDepth 20000 in
theorem ggX6_isRow_X6_isIn : GoodIn wsX6_isRow wsX6_isIn := goodIn_r _ [5] (by decide +kernel) (by decide +kernel)
set_option maxRecDepth 20000 in
theorem gX6_isRow_X6_isIn : GoodIn wsX6_isRow (va_wsS RX6 70 yX6_isIn wsX6_isIn) := goodIn_app (goodIn_of _ (by decide +kernel)) ggX6_isRow_X6_isIn
theorem dX6_isRow_0 : decode cX6_isRow 0 = .ok (.iload_n 0, 1) := by decide +kernel
theorem dX6_isRow_1 : decode cX6_isRow 1 = .ok (.i2l, 1) := by decide +kernel
theorem dX6_isRow_2 : decode cX6_isRow 2 = .ok (.lconst 0, 1) := by decide +kernel
theorem dX6_isRow_3 : decode cX6_isRow 3 = .ok (.ldc2_w 78, 3) := by decide +kernel
theorem dX6_isRow_6 : decode cX6_isRow 6 = .ok (.invokestatic 70, 3) := by decide +kernel
theorem dX6_isRow_9 : decode cX6_isRow 9 = .ok (.ireturn, 1) := by decide +kernel
set_option maxRecDepth 20000 in
theorem ggX6_isThere_X6_n : GoodIn wsX6_isThere wsX6_n := goodIn_r _ [6, 7, 8, 9, 10, 11, 12, 13, 14, 15, 16, 17, 18, 19, 20, 21, 22, 23] (by decide +kernel) (by decide +kernel)
set_option maxRecDepth 20000 in
theorem gX6_isThere_X6_n : GoodIn wsX6_isThere (wsV RX6 66 RX6 yX6_n wsX6_n) := goodIn_app (goodIn_of _ (by decide +kernel)) ggX6_isThere_X6_n
theorem dX6_isThere_0 : decode cX6_isThere 0 = .ok (.aload_n 0, 1) := by decide +kernel
theorem dX6_isThere_1 : decode cX6_isThere 1 = .ok (.getfield 44, 3) := by decide +kernel
theorem dX6_isThere_4 : decode cX6_isThere 4 = .ok (.iload_n 1, 1) := by decide +kernel
theorem dX6_isThere_5 : decode cX6_isThere 5 = .ok (.iaload, 1) := by decide +kernel
theorem dX6_isThere_6 : decode cX6_isThere 6 = .ok (.ifCond .lt 26, 3) := by decide +kernel
theorem dX6_isThere_9 : decode cX6_isThere 9 = .ok (.iload_n 2, 1) := by decide +kernel
theorem dX6_isThere_10 : decode cX6_isThere 10 = .ok (.ifCond .lt 22, 3) := by decide +kernel
theorem dX6_isThere_13 : decode cX6_isThere 13 = .ok (.iload_n 2, 1) := by decide +kernel
theorem dX6_isThere_14 : decode cX6_isThere 14 = .ok (.aload_n 0, 1) := by decide +kernel
theorem dX6_isThere_15 : decode cX6_isThere 15 = .ok (.getfield 44, 3) := by decide +kernel
theorem dX6_isThere_18 : decode cX6_isThere 18 = .ok (.iload_n 1, 1) := by decide +kernel
theorem dX6_isThere_19 : decode cX6_isThere 19 = .ok (.iaload, 1) := by decide +kernel
theorem dX6_isThere_20 : decode cX6_isThere 20 = .ok (.aload_n 0, 1) := by decide +kernel
theorem dX6_isThere_21 : decode cX6_isThere 21 = .ok (.invokevirtual 66, 3) := by decide +kernel
theorem dX6_isThere_24 : decode cX6_isThere 24 = .ok (.isub, 1) := by decide +kernel
theorem dX6_isThere_25 : decode cX6_isThere 25 = .ok (.if_icmp .gt 7, 3) := by decide +kernel
theorem dX6_isThere_28 : decode cX6_isThere 28 = .ok (.iconst 1, 1) := by decide +kernel
theorem dX6_isThere_29 : decode cX6_isThere 29 = .ok (.goto 4, 3) := by decide +kernel
theorem dX6_isThere_32 : decode cX6_isThere 32 = .ok (.iconst 0, 1) := by decide +kernel
theorem dX6_isThere_33 : decode cX6_isThere 33 = .ok (.ireturn, 1) := by decide +kernel
set_option maxRecDepth 20000 in
theorem ggX6_isOrder_X6_isThere : GoodIn wsX6_isOrder wsX6_isThere := goodIn_r _ [6, 7, 8, 9, 10, 5, 11, 12, 19, 20, 21, 22, 23, 24, 25, 26, 27, 28, 29, 30, 31, 32, 33, 34] (by decide +kernel) (by decide +kernel)
set_option maxRecDepth 20000 in
theorem gX6_isOrder_X6_isThere : GoodIn wsX6_isOrder (wsV RX6 213 RX6 yX6_isThere wsX6_isThere) := goodIn_app (goodIn_of _ (by decide +kernel)) ggX6_isOrder_X6_isThere
set_option maxRecDepth 20000 in
theorem ggX6_isOrder_X6_n : GoodIn wsX6_isOrder wsX6_n := goodIn_r _ [11, 12, 19, 20, 21, 22, 23, 24, 25, 26, 27, 28, 29, 30, 31, 32, 33, 34] (by decide +kernel) (by decide +kernel)
set_option maxRecDepth 20000 in
theorem gX6_isOrder_X6_n : GoodIn wsX6_isOrder (wsV RX6 66 RX6 yX6_n wsX6_n) := goodIn_app (goodIn_of _ (by decide +kernel)) ggX6_isOrder_X6_n
set_option maxRecDepth 20000 in
theorem ggX6_isOrder_X6_isIn : GoodIn wsX6_isOrder wsX6_isIn := goodIn_r _ [15] (by decide +kernel) (by decide +kernel)
set_option maxRecDepth 20000 in
theorem gX6_isOrder_X6_isIn : GoodIn wsX6_isOrder (va_wsS RX6 70 yX6_isIn wsX6_isIn) := goodIn_app (goodIn_of _ (by decide +kernel)) ggX6_isOrder_X6_isIn
set_option maxRecDepth 20000 in
theorem ggX6_isOrder_X6_has : GoodIn wsX6_isOrder wsX6_has := goodIn_r _ [18] (by decide +kernel) (by decide +kernel)
set_option maxRecDepth 20000 in
theorem gX6_isOrder_X6_has : GoodIn wsX6_isOrder (va_wsS RX6 164 yX6_has wsX6_has) := goodIn_app (goodIn_of _ (by decide +kernel)) ggX6_isOrder_X6_has
theorem dX6_isOrder_0 : decode cX6_isOrder 0 = .ok (.aload_n 0, 1) := by decide +kernel
theorem dX6_isOrder_1 : decode cX6_isOrder 1 = .ok (.iload_n 1, 1) := by decide +kernel
theorem dX6_isOrder_2 : decode cX6_isOrder 2 = .ok (.iload_n 2, 1) := by decide +kernel
theorem dX6_isOrder_3 : decode cX6_isOrder 3 = .ok (.invokevirtual 213, 3) := by decide +kernel
theorem dX6_isOrder_6 : decode cX6_isOrder 6 = .ok (.ifCond .ne 5, 3) := by decide +kernel
theorem dX6_isOrder_9 : decode cX6_isOrder 9 = .ok (.iconst 0, 1) := by decide +kernel
theorem dX6_isOrder_10 : decode cX6_isOrder 10 = .ok (.ireturn, 1) := by decide +kernel
theorem dX6_isOrder_11 : decode cX6_isOrder 11 = .ok (.iconst 0, 1) := by decide +kernel
theorem dX6_isOrder_12 : decode cX6_isOrder 12 = .ok (.istore_n 3, 1) := by decide +kernel
theorem dX6_isOrder_13 : decode cX6_isOrder 13 = .ok (.iconst 0, 1) := by decide +kernel
theorem dX6_isOrder_14 : decode cX6_isOrder 14 = .ok (.istore 4, 2) := by decide +kernel
theorem dX6_isOrder_16 : decode cX6_isOrder 16 = .ok (.iload 4, 2) := by decide +kernel
theorem dX6_isOrder_18 : decode cX6_isOrder 18 = .ok (.aload_n 0, 1) := by decide +kernel
theorem dX6_isOrder_19 : decode cX6_isOrder 19 = .ok (.invokevirtual 66, 3) := by decide +kernel
theorem dX6_isOrder_22 : decode cX6_isOrder 22 = .ok (.if_icmp .ge 61, 3) := by decide +kernel
theorem dX6_isOrder_25 : decode cX6_isOrder 25 = .ok (.aload_n 0, 1) := by decide +kernel
theorem dX6_isOrder_26 : decode cX6_isOrder 26 = .ok (.getfield 47, 3) := by decide +kernel
theorem dX6_isOrder_29 : decode cX6_isOrder 29 = .ok (.bipush 20, 2) := by decide +kernel
theorem dX6_isOrder_31 : decode cX6_isOrder 31 = .ok (.iload_n 1, 1) := by decide +kernel
theorem dX6_isOrder_32 : decode cX6_isOrder 32 = .ok (.imul, 1) := by decide +kernel
theorem dX6_isOrder_33 : decode cX6_isOrder 33 = .ok (.iload_n 2, 1) := by decide +kernel
theorem dX6_isOrder_34 : decode cX6_isOrder 34 = .ok (.iadd, 1) := by decide +kernel
theorem dX6_isOrder_35 : decode cX6_isOrder 35 = .ok (.iload 4, 2) := by decide +kernel
theorem dX6_isOrder_37 : decode cX6_isOrder 37 = .ok (.iadd, 1) := by decide +kernel
theorem dX6_isOrder_38 : decode cX6_isOrder 38 = .ok (.laload, 1) := by decide +kernel
theorem dX6_isOrder_39 : decode cX6_isOrder 39 = .ok (.lstore 5, 2) := by decide +kernel
theorem dX6_isOrder_41 : decode cX6_isOrder 41 = .ok (.lload 5, 2) := by decide +kernel
theorem dX6_isOrder_43 : decode cX6_isOrder 43 = .ok (.lconst 0, 1) := by decide +kernel
theorem dX6_isOrder_44 : decode cX6_isOrder 44 = .ok (.aload_n 0, 1) := by decide +kernel
theorem dX6_isOrder_45 : decode cX6_isOrder 45 = .ok (.invokevirtual 66, 3) := by decide +kernel
theorem dX6_isOrder_48 : decode cX6_isOrder 48 = .ok (.iconst 1, 1) := by decide +kernel
theorem dX6_isOrder_49 : decode cX6_isOrder 49 = .ok (.isub, 1) := by decide +kernel
theorem dX6_isOrder_50 : decode cX6_isOrder 50 = .ok (.i2l, 1) := by decide +kernel
theorem dX6_isOrder_51 : decode cX6_isOrder 51 = .ok (.invokestatic 70, 3) := by decide +kernel
theorem dX6_isOrder_54 : decode cX6_isOrder 54 = .ok (.ifCond .eq 13, 3) := by decide +kernel
theorem dX6_isOrder_57 : decode cX6_isOrder 57 = .ok (.iload_n 3, 1) := by decide +kernel
theorem dX6_isOrder_58 : decode cX6_isOrder 58 = .ok (.lload 5, 2) := by decide +kernel
theorem dX6_isOrder_60 : decode cX6_isOrder 60 = .ok (.l2i, 1) := by decide +kernel
theorem dX6_isOrder_61 : decode cX6_isOrder 61 = .ok (.invokestatic 164, 3) := by decide +kernel
theorem dX6_isOrder_64 : decode cX6_isOrder 64 = .ok (.ifCond .eq 5, 3) := by decide +kernel
theorem dX6_isOrder_67 : decode cX6_isOrder 67 = .ok (.iconst 0, 1) := by decide +kernel
theorem dX6_isOrder_68 : decode cX6_isOrder 68 = .ok (.ireturn, 1) := by decide +kernel
theorem dX6_isOrder_69 : decode cX6_isOrder 69 = .ok (.iload_n 3, 1) := by decide +kernel
theorem dX6_isOrder_70 : decode cX6_isOrder 70 = .ok (.iconst 1, 1) := by decide +kernel
theorem dX6_isOrder_71 : decode cX6_isOrder 71 = .ok (.lload 5, 2) := by decide +kernel
theorem dX6_isOrder_73 : decode cX6_isOrder 73 = .ok (.l2i, 1) := by decide +kernel
theorem dX6_isOrder_74 : decode cX6_isOrder 74 = .ok (.ishl, 1) := by decide +kernel
theorem dX6_isOrder_75 : decode cX6_isOrder 75 = .ok (.ior, 1) := by decide +kernel
theorem dX6_isOrder_76 : decode cX6_isOrder 76 = .ok (.istore_n 3, 1) := by decide +kernel
theorem dX6_isOrder_77 : decode cX6_isOrder 77 = .ok (.iinc 4 1, 3) := by decide +kernel
theorem dX6_isOrder_80 : decode cX6_isOrder 80 = .ok (.goto (-64), 3) := by decide +kernel
theorem dX6_isOrder_83 : decode cX6_isOrder 83 = .ok (.iconst 1, 1) := by decide +kernel
theorem dX6_isOrder_84 : decode cX6_isOrder 84 = .ok (.ireturn, 1) := by decide +kernel
theorem dX6_ahead_0 : decode cX6_ahead 0 = .ok (.iconst 0, 1) := by decide +kernel
theorem dX6_ahead_1 : decode cX6_ahead 1 = .ok (.istore 4, 2) := by decide +kernel
theorem dX6_ahead_3 : decode cX6_ahead 3 = .ok (.iconst 0, 1) := by decide +kernel
theorem dX6_ahead_4 : decode cX6_ahead 4 = .ok (.istore 5, 2) := by decide +kernel
theorem dX6_ahead_6 : decode cX6_ahead 6 = .ok (.iload 5, 2) := by decide +kernel
theorem dX6_ahead_8 : decode cX6_ahead 8 = .ok (.iload_n 3, 1) := by decide +kernel
theorem dX6_ahead_9 : decode cX6_ahead 9 = .ok (.if_icmp .ge 31, 3) := by decide +kernel
theorem dX6_ahead_12 : decode cX6_ahead 12 = .ok (.iload 4, 2) := by decide +kernel
theorem dX6_ahead_14 : decode cX6_ahead 14 = .ok (.iconst 1, 1) := by decide +kernel
theorem dX6_ahead_15 : decode cX6_ahead 15 = .ok (.aload_n 0, 1) := by decide +kernel
theorem dX6_ahead_16 : decode cX6_ahead 16 = .ok (.getfield 47, 3) := by decide +kernel
theorem dX6_ahead_19 : decode cX6_ahead 19 = .ok (.bipush 20, 2) := by decide +kernel
theorem dX6_ahead_21 : decode cX6_ahead 21 = .ok (.iload_n 1, 1) := by decide +kernel
theorem dX6_ahead_22 : decode cX6_ahead 22 = .ok (.imul, 1) := by decide +kernel
theorem dX6_ahead_23 : decode cX6_ahead 23 = .ok (.iload_n 2, 1) := by decide +kernel
theorem dX6_ahead_24 : decode cX6_ahead 24 = .ok (.iadd, 1) := by decide +kernel
theorem dX6_ahead_25 : decode cX6_ahead 25 = .ok (.iload 5, 2) := by decide +kernel
theorem dX6_ahead_27 : decode cX6_ahead 27 = .ok (.iadd, 1) := by decide +kernel
theorem dX6_ahead_28 : decode cX6_ahead 28 = .ok (.laload, 1) := by decide +kernel
theorem dX6_ahead_29 : decode cX6_ahead 29 = .ok (.l2i, 1) := by decide +kernel
theorem dX6_ahead_30 : decode cX6_ahead 30 = .ok (.ishl, 1) := by decide +kernel
theorem dX6_ahead_31 : decode cX6_ahead 31 = .ok (.ior, 1) := by decide +kernel
theorem dX6_ahead_32 : decode cX6_ahead 32 = .ok (.istore 4, 2) := by decide +kernel
theorem dX6_ahead_34 : decode cX6_ahead 34 = .ok (.iinc 5 1, 3) := by decide +kernel
theorem dX6_ahead_37 : decode cX6_ahead 37 = .ok (.goto (-31), 3) := by decide +kernel
theorem dX6_ahead_40 : decode cX6_ahead 40 = .ok (.iload 4, 2) := by decide +kernel
theorem dX6_ahead_42 : decode cX6_ahead 42 = .ok (.ireturn, 1) := by decide +kernel
set_option maxRecDepth 20000 in
theorem ggX6_adds_X6_isGame : GoodIn wsX6_adds wsX6_isGame := goodIn_r _ [6, 7, 8, 9, 5, 10] (by decide +kernel) (by decide +kernel)
set_option maxRecDepth 20000 in
theorem gX6_adds_X6_isGame : GoodIn wsX6_adds (va_wsS RX6 85 yX6_isGame wsX6_isGame) := goodIn_app (goodIn_of _ (by decide +kernel)) ggX6_adds_X6_isGame
set_option maxRecDepth 20000 in
theorem ggX6_adds_X6_isRow : GoodIn wsX6_adds wsX6_isRow := goodIn_r _ [13, 7, 8, 9, 5, 10] (by decide +kernel) (by decide +kernel)
set_option maxRecDepth 20000 in
theorem gX6_adds_X6_isRow : GoodIn wsX6_adds (va_wsS RX6 216 yX6_isRow wsX6_isRow) := goodIn_app (goodIn_of _ (by decide +kernel)) ggX6_adds_X6_isRow
set_option maxRecDepth 20000 in
theorem ggX6_adds_X6_n : GoodIn wsX6_adds wsX6_n := goodIn_r _ [17, 18, 44, 45, 46, 47, 48, 49, 50, 51, 52, 53, 54, 55, 56, 57, 58, 59] (by decide +kernel) (by decide +kernel)
set_option maxRecDepth 20000 in
theorem gX6_adds_X6_n : GoodIn wsX6_adds (wsV RX6 66 RX6 yX6_n wsX6_n) := goodIn_app (goodIn_of _ (by decide +kernel)) ggX6_adds_X6_n
set_option maxRecDepth 20000 in
theorem ggX6_adds_X6_isIn : GoodIn wsX6_adds wsX6_isIn := goodIn_r _ [10] (by decide +kernel) (by decide +kernel)
set_option maxRecDepth 20000 in
theorem gX6_adds_X6_isIn : GoodIn wsX6_adds (va_wsS RX6 70 yX6_isIn wsX6_isIn) := goodIn_app (goodIn_of _ (by decide +kernel)) ggX6_adds_X6_isIn
set_option maxRecDepth 20000 in
theorem ggX6_adds_X6_isOrder : GoodIn wsX6_adds wsX6_isOrder := goodIn_r _ [22, 23, 24, 25, 26, 5, 27, 28, 14, 15, 16, 17, 18, 8, 9, 10, 29, 30, 31, 44, 45, 46, 47, 48, 49, 50, 51, 52, 53, 54, 55, 56, 57, 58, 59] (by decide +kernel) (by decide +kernel)
set_option maxRecDepth 20000 in
theorem gX6_adds_X6_isOrder : GoodIn wsX6_adds (wsV RX6 219 RX6 yX6_isOrder wsX6_isOrder) := goodIn_app (goodIn_of _ (by decide +kernel)) ggX6_adds_X6_isOrder
set_option maxRecDepth 20000 in
theorem ggX6_adds_X6_ahead : GoodIn wsX6_adds wsX6_ahead := goodIn_r _ [35, 23, 44, 45, 46, 47, 48, 49, 50, 51, 52, 53, 54, 55, 56, 57, 58, 59] (by decide +kernel) (by decide +kernel)
set_option maxRecDepth 20000 in
theorem gX6_adds_X6_ahead : GoodIn wsX6_adds (wsV RX6 222 RX6 yX6_ahead wsX6_ahead) := goodIn_app (goodIn_of _ (by decide +kernel)) ggX6_adds_X6_ahead
set_option maxRecDepth 20000 in
theorem ggX6_adds_X6_v : GoodIn wsX6_adds wsX6_v := goodIn_r _ [39, 18, 44, 45, 46, 47, 48, 49, 50, 51, 52, 53, 54, 55, 56, 57, 58, 59] (by decide +kernel) (by decide +kernel)
set_option maxRecDepth 20000 in
theorem gX6_adds_X6_v : GoodIn wsX6_adds (wsV RX6 95 RX6 yX6_v wsX6_v) := goodIn_app (goodIn_of _ (by decide +kernel)) ggX6_adds_X6_v
set_option maxRecDepth 20000 in
theorem ggX6_adds_X6_minus : GoodIn wsX6_adds wsX6_minus := goodIn_r _ [43, 2, 44, 45, 46, 47, 48, 49, 50, 51, 52, 53, 54, 55, 56, 57, 58, 59] (by decide +kernel) (by decide +kernel)
set_option maxRecDepth 20000 in
theorem gX6_adds_X6_minus : GoodIn wsX6_adds (wsV RX6 207 RX6 yX6_minus wsX6_minus) := goodIn_app (goodIn_of _ (by decide +kernel)) ggX6_adds_X6_minus
theorem dX6_adds_0 : decode cX6_adds 0 = .ok (.iload_n 1, 1) := by decide +kernel
theorem dX6_adds_1 : decode cX6_adds 1 = .ok (.invokestatic 85, 3) := by decide +kernel
theorem dX6_adds_4 : decode cX6_adds 4 = .ok (.ifCond .eq 36, 3) := by decide +kernel
theorem dX6_adds_7 : decode cX6_adds 7 = .ok (.iload_n 2, 1) := by decide +kernel
theorem dX6_adds_8 : decode cX6_adds 8 = .ok (.invokestatic 216, 3) := by decide +kernel
theorem dX6_adds_11 : decode cX6_adds 11 = .ok (.ifCond .eq 29, 3) := by decide +kernel
theorem dX6_adds_14 : decode cX6_adds 14 = .ok (.iload 4, 2) := by decide +kernel
theorem dX6_adds_16 : decode cX6_adds 16 = .ok (.i2l, 1) := by decide +kernel
theorem dX6_adds_17 : decode cX6_adds 17 = .ok (.lconst 0, 1) := by decide +kernel
theorem dX6_adds_18 : decode cX6_adds 18 = .ok (.aload_n 0, 1) := by decide +kernel
theorem dX6_adds_19 : decode cX6_adds 19 = .ok (.invokevirtual 66, 3) := by decide +kernel
theorem dX6_adds_22 : decode cX6_adds 22 = .ok (.iconst 1, 1) := by decide +kernel
theorem dX6_adds_23 : decode cX6_adds 23 = .ok (.isub, 1) := by decide +kernel
theorem dX6_adds_24 : decode cX6_adds 24 = .ok (.i2l, 1) := by decide +kernel
theorem dX6_adds_25 : decode cX6_adds 25 = .ok (.invokestatic 70, 3) := by decide +kernel
theorem dX6_adds_28 : decode cX6_adds 28 = .ok (.ifCond .eq 12, 3) := by decide +kernel
theorem dX6_adds_31 : decode cX6_adds 31 = .ok (.aload_n 0, 1) := by decide +kernel
theorem dX6_adds_32 : decode cX6_adds 32 = .ok (.iload_n 2, 1) := by decide +kernel
theorem dX6_adds_33 : decode cX6_adds 33 = .ok (.iload_n 3, 1) := by decide +kernel
theorem dX6_adds_34 : decode cX6_adds 34 = .ok (.invokevirtual 219, 3) := by decide +kernel
theorem dX6_adds_37 : decode cX6_adds 37 = .ok (.ifCond .ne 7, 3) := by decide +kernel
theorem dX6_adds_40 : decode cX6_adds 40 = .ok (.ldc2_w 60, 3) := by decide +kernel
theorem dX6_adds_43 : decode cX6_adds 43 = .ok (.lreturn, 1) := by decide +kernel
theorem dX6_adds_44 : decode cX6_adds 44 = .ok (.aload_n 0, 1) := by decide +kernel
theorem dX6_adds_45 : decode cX6_adds 45 = .ok (.iconst 0, 1) := by decide +kernel
theorem dX6_adds_46 : decode cX6_adds 46 = .ok (.putfield 54, 3) := by decide +kernel
theorem dX6_adds_49 : decode cX6_adds 49 = .ok (.aload_n 0, 1) := by decide +kernel
theorem dX6_adds_50 : decode cX6_adds 50 = .ok (.aload_n 0, 1) := by decide +kernel
theorem dX6_adds_51 : decode cX6_adds 51 = .ok (.iload_n 1, 1) := by decide +kernel
theorem dX6_adds_52 : decode cX6_adds 52 = .ok (.aload_n 0, 1) := by decide +kernel
theorem dX6_adds_53 : decode cX6_adds 53 = .ok (.iload_n 2, 1) := by decide +kernel
theorem dX6_adds_54 : decode cX6_adds 54 = .ok (.iload_n 3, 1) := by decide +kernel
theorem dX6_adds_55 : decode cX6_adds 55 = .ok (.iload 4, 2) := by decide +kernel
theorem dX6_adds_57 : decode cX6_adds 57 = .ok (.iconst 1, 1) := by decide +kernel
theorem dX6_adds_58 : decode cX6_adds 58 = .ok (.iadd, 1) := by decide +kernel
theorem dX6_adds_59 : decode cX6_adds 59 = .ok (.invokevirtual 222, 3) := by decide +kernel
theorem dX6_adds_62 : decode cX6_adds 62 = .ok (.invokevirtual 95, 3) := by decide +kernel
theorem dX6_adds_65 : decode cX6_adds 65 = .ok (.aload_n 0, 1) := by decide +kernel
theorem dX6_adds_66 : decode cX6_adds 66 = .ok (.iload_n 1, 1) := by decide +kernel
theorem dX6_adds_67 : decode cX6_adds 67 = .ok (.aload_n 0, 1) := by decide +kernel
theorem dX6_adds_68 : decode cX6_adds 68 = .ok (.iload_n 2, 1) := by decide +kernel
theorem dX6_adds_69 : decode cX6_adds 69 = .ok (.iload_n 3, 1) := by decide +kernel
theorem dX6_adds_70 : decode cX6_adds 70 = .ok (.iload 4, 2) := by decide +kernel
theorem dX6_adds_72 : decode cX6_adds 72 = .ok (.invokevirtual 222, 3) := by decide +kernel
theorem dX6_adds_75 : decode cX6_adds 75 = .ok (.invokevirtual 95, 3) := by decide +kernel
theorem dX6_adds_78 : decode cX6_adds 78 = .ok (.invokevirtual 207, 3) := by decide +kernel
theorem dX6_adds_81 : decode cX6_adds 81 = .ok (.lstore 5, 2) := by decide +kernel
theorem dX6_adds_83 : decode cX6_adds 83 = .ok (.aload_n 0, 1) := by decide +kernel
theorem dX6_adds_84 : decode cX6_adds 84 = .ok (.getfield 54, 3) := by decide +kernel
theorem dX6_adds_87 : decode cX6_adds 87 = .ok (.ifCond .eq 9, 3) := by decide +kernel
theorem dX6_adds_90 : decode cX6_adds 90 = .ok (.ldc2_w 60, 3) := by decide +kernel
theorem dX6_adds_93 : decode cX6_adds 93 = .ok (.goto 5, 3) := by decide +kernel
theorem dX6_adds_96 : decode cX6_adds 96 = .ok (.lload 5, 2) := by decide +kernel
theorem dX6_adds_98 : decode cX6_adds 98 = .ok (.lreturn, 1) := by decide +kernel
set_option maxRecDepth 20000 in
theorem ggX6_pivot_X6_isRow : GoodIn wsX6_pivot wsX6_isRow := goodIn_r _ [5, 6, 7, 8, 4, 9] (by decide +kernel) (by decide +kernel)
set_option maxRecDepth 20000 in
theorem gX6_pivot_X6_isRow : GoodIn wsX6_pivot (va_wsS RX6 216 yX6_isRow wsX6_isRow) := goodIn_app (goodIn_of _ (by decide +kernel)) ggX6_pivot_X6_isRow
set_option maxRecDepth 20000 in
theorem ggX6_pivot_X6_isOrder : GoodIn wsX6_pivot wsX6_isOrder := goodIn_r _ [13, 1, 14, 15, 16, 4, 17, 18, 19, 20, 21, 22, 23, 7, 8, 9, 24, 25, 26, 39, 40, 41, 42, 43, 44, 45, 46, 47, 48, 49, 50, 51, 52, 53, 54] (by decide +kernel) (by decide +kernel)
set_option maxRecDepth 20000 in
theorem gX6_pivot_X6_isOrder : GoodIn wsX6_pivot (wsV RX6 219 RX6 yX6_isOrder wsX6_isOrder) := goodIn_app (goodIn_of _ (by decide +kernel)) ggX6_pivot_X6_isOrder
set_option maxRecDepth 20000 in
theorem ggX6_pivot_X6_n : GoodIn wsX6_pivot wsX6_n := goodIn_r _ [22, 23, 39, 40, 41, 42, 43, 44, 45, 46, 47, 48, 49, 50, 51, 52, 53, 54] (by decide +kernel) (by decide +kernel)
set_option maxRecDepth 20000 in
theorem gX6_pivot_X6_n : GoodIn wsX6_pivot (wsV RX6 66 RX6 yX6_n wsX6_n) := goodIn_app (goodIn_of _ (by decide +kernel)) ggX6_pivot_X6_n
set_option maxRecDepth 20000 in
theorem ggX6_pivot_X6_ahead : GoodIn wsX6_pivot wsX6_ahead := goodIn_r _ [30, 1, 39, 40, 41, 42, 43, 44, 45, 46, 47, 48, 49, 50, 51, 52, 53, 54] (by decide +kernel) (by decide +kernel)
set_option maxRecDepth 20000 in
theorem gX6_pivot_X6_ahead : GoodIn wsX6_pivot (wsV RX6 222 RX6 yX6_ahead wsX6_ahead) := goodIn_app (goodIn_of _ (by decide +kernel)) ggX6_pivot_X6_ahead
set_option maxRecDepth 20000 in
theorem ggX6_pivot_X6_wins : GoodIn wsX6_pivot wsX6_wins := goodIn_r _ [34, 23, 35, 36, 37, 4, 38, 19, 20, 21, 22, 24, 25, 26, 39, 40, 41, 42, 43, 44, 45, 46, 47, 48, 49, 50, 51, 52, 53, 54] (by decide +kernel) (by decide +kernel)
set_option maxRecDepth 20000 in
theorem gX6_pivot_X6_wins : GoodIn wsX6_pivot (wsV RX6 173 RX6 yX6_wins wsX6_wins) := goodIn_app (goodIn_of _ (by decide +kernel)) ggX6_pivot_X6_wins
theorem dX6_pivot_0 : decode cX6_pivot 0 = .ok (.iload_n 1, 1) := by decide +kernel
theorem dX6_pivot_1 : decode cX6_pivot 1 = .ok (.invokestatic 216, 3) := by decide +kernel
theorem dX6_pivot_4 : decode cX6_pivot 4 = .ok (.ifCond .ne 5, 3) := by decide +kernel
theorem dX6_pivot_7 : decode cX6_pivot 7 = .ok (.iconst (-1), 1) := by decide +kernel
theorem dX6_pivot_8 : decode cX6_pivot 8 = .ok (.ireturn, 1) := by decide +kernel
theorem dX6_pivot_9 : decode cX6_pivot 9 = .ok (.aload_n 0, 1) := by decide +kernel
theorem dX6_pivot_10 : decode cX6_pivot 10 = .ok (.iload_n 1, 1) := by decide +kernel
theorem dX6_pivot_11 : decode cX6_pivot 11 = .ok (.iload_n 2, 1) := by decide +kernel
theorem dX6_pivot_12 : decode cX6_pivot 12 = .ok (.invokevirtual 219, 3) := by decide +kernel
theorem dX6_pivot_15 : decode cX6_pivot 15 = .ok (.ifCond .ne 6, 3) := by decide +kernel
theorem dX6_pivot_18 : decode cX6_pivot 18 = .ok (.bipush (-3), 2) := by decide +kernel
theorem dX6_pivot_20 : decode cX6_pivot 20 = .ok (.ireturn, 1) := by decide +kernel
theorem dX6_pivot_21 : decode cX6_pivot 21 = .ok (.iconst 0, 1) := by decide +kernel
theorem dX6_pivot_22 : decode cX6_pivot 22 = .ok (.istore_n 3, 1) := by decide +kernel
theorem dX6_pivot_23 : decode cX6_pivot 23 = .ok (.iload_n 3, 1) := by decide +kernel
theorem dX6_pivot_24 : decode cX6_pivot 24 = .ok (.aload_n 0, 1) := by decide +kernel
theorem dX6_pivot_25 : decode cX6_pivot 25 = .ok (.invokevirtual 66, 3) := by decide +kernel
theorem dX6_pivot_28 : decode cX6_pivot 28 = .ok (.if_icmp .ge 54, 3) := by decide +kernel
theorem dX6_pivot_31 : decode cX6_pivot 31 = .ok (.aload_n 0, 1) := by decide +kernel
theorem dX6_pivot_32 : decode cX6_pivot 32 = .ok (.aload_n 0, 1) := by decide +kernel
theorem dX6_pivot_33 : decode cX6_pivot 33 = .ok (.iload_n 1, 1) := by decide +kernel
theorem dX6_pivot_34 : decode cX6_pivot 34 = .ok (.iload_n 2, 1) := by decide +kernel
theorem dX6_pivot_35 : decode cX6_pivot 35 = .ok (.iload_n 3, 1) := by decide +kernel
theorem dX6_pivot_36 : decode cX6_pivot 36 = .ok (.invokevirtual 222, 3) := by decide +kernel
theorem dX6_pivot_39 : decode cX6_pivot 39 = .ok (.invokevirtual 173, 3) := by decide +kernel
theorem dX6_pivot_42 : decode cX6_pivot 42 = .ok (.ifCond .ne 34, 3) := by decide +kernel
theorem dX6_pivot_45 : decode cX6_pivot 45 = .ok (.aload_n 0, 1) := by decide +kernel
theorem dX6_pivot_46 : decode cX6_pivot 46 = .ok (.aload_n 0, 1) := by decide +kernel
theorem dX6_pivot_47 : decode cX6_pivot 47 = .ok (.iload_n 1, 1) := by decide +kernel
theorem dX6_pivot_48 : decode cX6_pivot 48 = .ok (.iload_n 2, 1) := by decide +kernel
theorem dX6_pivot_49 : decode cX6_pivot 49 = .ok (.iload_n 3, 1) := by decide +kernel
theorem dX6_pivot_50 : decode cX6_pivot 50 = .ok (.iconst 1, 1) := by decide +kernel
theorem dX6_pivot_51 : decode cX6_pivot 51 = .ok (.iadd, 1) := by decide +kernel
theorem dX6_pivot_52 : decode cX6_pivot 52 = .ok (.invokevirtual 222, 3) := by decide +kernel
theorem dX6_pivot_55 : decode cX6_pivot 55 = .ok (.invokevirtual 173, 3) := by decide +kernel
theorem dX6_pivot_58 : decode cX6_pivot 58 = .ok (.ifCond .eq 18, 3) := by decide +kernel
theorem dX6_pivot_61 : decode cX6_pivot 61 = .ok (.aload_n 0, 1) := by decide +kernel
theorem dX6_pivot_62 : decode cX6_pivot 62 = .ok (.getfield 47, 3) := by decide +kernel
theorem dX6_pivot_65 : decode cX6_pivot 65 = .ok (.bipush 20, 2) := by decide +kernel
theorem dX6_pivot_67 : decode cX6_pivot 67 = .ok (.iload_n 1, 1) := by decide +kernel
theorem dX6_pivot_68 : decode cX6_pivot 68 = .ok (.imul, 1) := by decide +kernel
theorem dX6_pivot_69 : decode cX6_pivot 69 = .ok (.iload_n 2, 1) := by decide +kernel
theorem dX6_pivot_70 : decode cX6_pivot 70 = .ok (.iadd, 1) := by decide +kernel
theorem dX6_pivot_71 : decode cX6_pivot 71 = .ok (.iload_n 3, 1) := by decide +kernel
theorem dX6_pivot_72 : decode cX6_pivot 72 = .ok (.iadd, 1) := by decide +kernel
theorem dX6_pivot_73 : decode cX6_pivot 73 = .ok (.laload, 1) := by decide +kernel
theorem dX6_pivot_74 : decode cX6_pivot 74 = .ok (.l2i, 1) := by decide +kernel
theorem dX6_pivot_75 : decode cX6_pivot 75 = .ok (.ireturn, 1) := by decide +kernel
theorem dX6_pivot_76 : decode cX6_pivot 76 = .ok (.iinc 3 1, 3) := by decide +kernel
theorem dX6_pivot_79 : decode cX6_pivot 79 = .ok (.goto (-56), 3) := by decide +kernel
theorem dX6_pivot_82 : decode cX6_pivot 82 = .ok (.bipush (-5), 2) := by decide +kernel
theorem dX6_pivot_84 : decode cX6_pivot 84 = .ok (.ireturn, 1) := by decide +kernel
set_option maxRecDepth 20000 in
theorem ggX6_gain_X6_v : GoodIn wsX6_gain wsX6_v := goodIn_r _ [5, 6, 12, 13, 14, 15, 16, 17, 18, 19, 20, 21, 22, 23, 24, 25, 26, 27] (by decide +kernel) (by decide +kernel)
set_option maxRecDepth 20000 in
theorem gX6_gain_X6_v : GoodIn wsX6_gain (wsV RX6 95 RX6 yX6_v wsX6_v) := goodIn_app (goodIn_of _ (by decide +kernel)) ggX6_gain_X6_v
set_option maxRecDepth 20000 in
theorem ggX6_gain_X6_minus : GoodIn wsX6_gain wsX6_minus := goodIn_r _ [10, 11, 12, 13, 14, 15, 16, 17, 18, 19, 20, 21, 22, 23, 24, 25, 26, 27] (by decide +kernel) (by decide +kernel)
set_option maxRecDepth 20000 in
theorem gX6_gain_X6_minus : GoodIn wsX6_gain (wsV RX6 207 RX6 yX6_minus wsX6_minus) := goodIn_app (goodIn_of _ (by decide +kernel)) ggX6_gain_X6_minus
theorem dX6_gain_0 : decode cX6_gain 0 = .ok (.aload_n 0, 1) := by decide +kernel
theorem dX6_gain_1 : decode cX6_gain 1 = .ok (.aload_n 0, 1) := by decide +kernel
theorem dX6_gain_2 : decode cX6_gain 2 = .ok (.iload_n 1, 1) := by decide +kernel
theorem dX6_gain_3 : decode cX6_gain 3 = .ok (.iload_n 3, 1) := by decide +kernel
theorem dX6_gain_4 : decode cX6_gain 4 = .ok (.iconst 1, 1) := by decide +kernel
theorem dX6_gain_5 : decode cX6_gain 5 = .ok (.iload_n 2, 1) := by decide +kernel
theorem dX6_gain_6 : decode cX6_gain 6 = .ok (.ishl, 1) := by decide +kernel
theorem dX6_gain_7 : decode cX6_gain 7 = .ok (.ior, 1) := by decide +kernel
theorem dX6_gain_8 : decode cX6_gain 8 = .ok (.invokevirtual 95, 3) := by decide +kernel
theorem dX6_gain_11 : decode cX6_gain 11 = .ok (.aload_n 0, 1) := by decide +kernel
theorem dX6_gain_12 : decode cX6_gain 12 = .ok (.iload_n 1, 1) := by decide +kernel
theorem dX6_gain_13 : decode cX6_gain 13 = .ok (.iload_n 3, 1) := by decide +kernel
theorem dX6_gain_14 : decode cX6_gain 14 = .ok (.invokevirtual 95, 3) := by decide +kernel
theorem dX6_gain_17 : decode cX6_gain 17 = .ok (.invokevirtual 207, 3) := by decide +kernel
theorem dX6_gain_20 : decode cX6_gain 20 = .ok (.lreturn, 1) := by decide +kernel
set_option maxRecDepth 20000 in
theorem ggX6_shares_X6_all : GoodIn wsX6_shares wsX6_all := goodIn_r _ [8, 9, 10, 11, 7, 12, 13, 42, 43, 44, 45, 46, 47, 48, 49, 50, 51, 52, 53, 54, 55, 56, 57] (by decide +kernel) (by decide +kernel)
set_option maxRecDepth 20000 in
theorem gX6_shares_X6_all : GoodIn wsX6_shares (wsV RX6 80 RX6 yX6_all wsX6_all) := goodIn_app (goodIn_of _ (by decide +kernel)) ggX6_shares_X6_all
set_option maxRecDepth 20000 in
theorem ggX6_shares_X6_has : GoodIn wsX6_shares wsX6_has := goodIn_r _ [16] (by decide +kernel) (by decide +kernel)
set_option maxRecDepth 20000 in
theorem gX6_shares_X6_has : GoodIn wsX6_shares (va_wsS RX6 164 yX6_has wsX6_has) := goodIn_app (goodIn_of _ (by decide +kernel)) ggX6_shares_X6_has
set_option maxRecDepth 20000 in
theorem ggX6_shares_X6_gain : GoodIn wsX6_shares wsX6_gain := goodIn_r _ [20, 21, 22, 23, 7, 24, 13, 25, 26, 27, 28, 1, 42, 43, 44, 45, 46, 47, 48, 49, 50, 51, 52, 53, 54, 55, 56, 57] (by decide +kernel) (by decide +kernel)
set_option maxRecDepth 20000 in
theorem gX6_shares_X6_gain : GoodIn wsX6_shares (wsV RX6 230 RX6 yX6_gain wsX6_gain) := goodIn_app (goodIn_of _ (by decide +kernel)) ggX6_shares_X6_gain
set_option maxRecDepth 20000 in
theorem ggX6_shares_X6_size : GoodIn wsX6_shares wsX6_size := goodIn_r _ [31] (by decide +kernel) (by decide +kernel)
set_option maxRecDepth 20000 in
theorem gX6_shares_X6_size : GoodIn wsX6_shares (va_wsS RX6 190 yX6_size wsX6_size) := goodIn_app (goodIn_of _ (by decide +kernel)) ggX6_shares_X6_size
set_option maxRecDepth 20000 in
theorem ggX6_shares_X6_n : GoodIn wsX6_shares wsX6_n := goodIn_r _ [12, 13, 42, 43, 44, 45, 46, 47, 48, 49, 50, 51, 52, 53, 54, 55, 56, 57] (by decide +kernel) (by decide +kernel)
set_option maxRecDepth 20000 in
theorem gX6_shares_X6_n : GoodIn wsX6_shares (wsV RX6 66 RX6 yX6_n wsX6_n) := goodIn_app (goodIn_of _ (by decide +kernel)) ggX6_shares_X6_n
set_option maxRecDepth 20000 in
theorem ggX6_shares_X6_product : GoodIn wsX6_shares wsX6_product := goodIn_r _ [35, 1, 36, 37, 42, 43, 44, 45, 46, 47, 48, 49, 50, 51, 52, 53, 54, 55, 56, 57] (by decide +kernel) (by decide +kernel)
set_option maxRecDepth 20000 in
theorem gX6_shares_X6_product : GoodIn wsX6_shares (wsV RX6 204 RX6 yX6_product wsX6_product) := goodIn_app (goodIn_of _ (by decide +kernel)) ggX6_shares_X6_product
set_option maxRecDepth 20000 in
theorem ggX6_shares_X6_plus : GoodIn wsX6_shares wsX6_plus := goodIn_r _ [41, 1, 42, 43, 44, 45, 46, 47, 48, 49, 50, 51, 52, 53, 54, 55, 56, 57] (by decide +kernel) (by decide +kernel)
set_option maxRecDepth 20000 in
theorem gX6_shares_X6_plus : GoodIn wsX6_shares (wsV RX6 196 RX6 yX6_plus wsX6_plus) := goodIn_app (goodIn_of _ (by decide +kernel)) ggX6_shares_X6_plus
theorem dX6_shares_0 : decode cX6_shares 0 = .ok (.aload_n 0, 1) := by decide +kernel
theorem dX6_shares_1 : decode cX6_shares 1 = .ok (.iconst 0, 1) := by decide +kernel
theorem dX6_shares_2 : decode cX6_shares 2 = .ok (.putfield 54, 3) := by decide +kernel
theorem dX6_shares_5 : decode cX6_shares 5 = .ok (.aload_n 0, 1) := by decide +kernel
theorem dX6_shares_6 : decode cX6_shares 6 = .ok (.lconst 0, 1) := by decide +kernel
theorem dX6_shares_7 : decode cX6_shares 7 = .ok (.putfield 226, 3) := by decide +kernel
theorem dX6_shares_10 : decode cX6_shares 10 = .ok (.iconst 0, 1) := by decide +kernel
theorem dX6_shares_11 : decode cX6_shares 11 = .ok (.istore_n 3, 1) := by decide +kernel
theorem dX6_shares_12 : decode cX6_shares 12 = .ok (.iload_n 3, 1) := by decide +kernel
theorem dX6_shares_13 : decode cX6_shares 13 = .ok (.aload_n 0, 1) := by decide +kernel
theorem dX6_shares_14 : decode cX6_shares 14 = .ok (.invokevirtual 80, 3) := by decide +kernel
theorem dX6_shares_17 : decode cX6_shares 17 = .ok (.if_icmp .gt 66, 3) := by decide +kernel
theorem dX6_shares_20 : decode cX6_shares 20 = .ok (.iload_n 3, 1) := by decide +kernel
theorem dX6_shares_21 : decode cX6_shares 21 = .ok (.iload_n 2, 1) := by decide +kernel
theorem dX6_shares_22 : decode cX6_shares 22 = .ok (.invokestatic 164, 3) := by decide +kernel
theorem dX6_shares_25 : decode cX6_shares 25 = .ok (.ifCond .ne 52, 3) := by decide +kernel
theorem dX6_shares_28 : decode cX6_shares 28 = .ok (.aload_n 0, 1) := by decide +kernel
theorem dX6_shares_29 : decode cX6_shares 29 = .ok (.aload_n 0, 1) := by decide +kernel
theorem dX6_shares_30 : decode cX6_shares 30 = .ok (.aload_n 0, 1) := by decide +kernel
theorem dX6_shares_31 : decode cX6_shares 31 = .ok (.getfield 226, 3) := by decide +kernel
theorem dX6_shares_34 : decode cX6_shares 34 = .ok (.aload_n 0, 1) := by decide +kernel
theorem dX6_shares_35 : decode cX6_shares 35 = .ok (.aload_n 0, 1) := by decide +kernel
theorem dX6_shares_36 : decode cX6_shares 36 = .ok (.iload_n 1, 1) := by decide +kernel
theorem dX6_shares_37 : decode cX6_shares 37 = .ok (.iload_n 2, 1) := by decide +kernel
theorem dX6_shares_38 : decode cX6_shares 38 = .ok (.iload_n 3, 1) := by decide +kernel
theorem dX6_shares_39 : decode cX6_shares 39 = .ok (.invokevirtual 230, 3) := by decide +kernel
theorem dX6_shares_42 : decode cX6_shares 42 = .ok (.aload_n 0, 1) := by decide +kernel
theorem dX6_shares_43 : decode cX6_shares 43 = .ok (.getfield 21, 3) := by decide +kernel
theorem dX6_shares_46 : decode cX6_shares 46 = .ok (.iload_n 3, 1) := by decide +kernel
theorem dX6_shares_47 : decode cX6_shares 47 = .ok (.invokestatic 190, 3) := by decide +kernel
theorem dX6_shares_50 : decode cX6_shares 50 = .ok (.laload, 1) := by decide +kernel
theorem dX6_shares_51 : decode cX6_shares 51 = .ok (.aload_n 0, 1) := by decide +kernel
theorem dX6_shares_52 : decode cX6_shares 52 = .ok (.getfield 21, 3) := by decide +kernel
theorem dX6_shares_55 : decode cX6_shares 55 = .ok (.aload_n 0, 1) := by decide +kernel
theorem dX6_shares_56 : decode cX6_shares 56 = .ok (.invokevirtual 66, 3) := by decide +kernel
theorem dX6_shares_59 : decode cX6_shares 59 = .ok (.iload_n 3, 1) := by decide +kernel
theorem dX6_shares_60 : decode cX6_shares 60 = .ok (.invokestatic 190, 3) := by decide +kernel
theorem dX6_shares_63 : decode cX6_shares 63 = .ok (.isub, 1) := by decide +kernel
theorem dX6_shares_64 : decode cX6_shares 64 = .ok (.iconst 1, 1) := by decide +kernel
theorem dX6_shares_65 : decode cX6_shares 65 = .ok (.isub, 1) := by decide +kernel
theorem dX6_shares_66 : decode cX6_shares 66 = .ok (.laload, 1) := by decide +kernel
theorem dX6_shares_67 : decode cX6_shares 67 = .ok (.lmul, 1) := by decide +kernel
theorem dX6_shares_68 : decode cX6_shares 68 = .ok (.invokevirtual 204, 3) := by decide +kernel
theorem dX6_shares_71 : decode cX6_shares 71 = .ok (.invokevirtual 196, 3) := by decide +kernel
theorem dX6_shares_74 : decode cX6_shares 74 = .ok (.putfield 226, 3) := by decide +kernel
theorem dX6_shares_77 : decode cX6_shares 77 = .ok (.iinc 3 1, 3) := by decide +kernel
theorem dX6_shares_80 : decode cX6_shares 80 = .ok (.goto (-68), 3) := by decide +kernel
theorem dX6_shares_83 : decode cX6_shares 83 = .ok (.return_, 1) := by decide +kernel
set_option maxRecDepth 20000 in
theorem ggX6_share_X6_isGame : GoodIn wsX6_share wsX6_isGame := goodIn_r _ [8, 9, 10, 11, 7, 12] (by decide +kernel) (by decide +kernel)
set_option maxRecDepth 20000 in
theorem gX6_share_X6_isGame : GoodIn wsX6_share (va_wsS RX6 85 yX6_isGame wsX6_isGame) := goodIn_app (goodIn_of _ (by decide +kernel)) ggX6_share_X6_isGame
set_option maxRecDepth 20000 in
theorem ggX6_share_X6_isPartner : GoodIn wsX6_share wsX6_isPartner := goodIn_r _ [16, 17, 18, 19, 7, 20, 21, 10, 11, 12, 63, 64, 65, 66, 67, 68, 69, 70, 71, 72, 73, 74, 75, 76, 77, 78] (by decide +kernel) (by decide +kernel)
set_option maxRecDepth 20000 in
theorem gX6_share_X6_isPartner : GoodIn wsX6_share (wsV RX6 74 RX6 yX6_isPartner wsX6_isPartner) := goodIn_app (goodIn_of _ (by decide +kernel)) ggX6_share_X6_isPartner
set_option maxRecDepth 20000 in
theorem ggX6_share_X6_isIn : GoodIn wsX6_share wsX6_isIn := goodIn_r _ [12] (by decide +kernel) (by decide +kernel)
set_option maxRecDepth 20000 in
theorem gX6_share_X6_isIn : GoodIn wsX6_share (va_wsS RX6 70 yX6_isIn wsX6_isIn) := goodIn_app (goodIn_of _ (by decide +kernel)) ggX6_share_X6_isIn
set_option maxRecDepth 20000 in
theorem ggX6_share_X6_shares : GoodIn wsX6_share wsX6_shares := goodIn_r _ [25, 2, 3, 4, 26, 27, 28, 7, 29, 17, 18, 19, 20, 21, 30, 31, 32, 33, 34, 35, 36, 37, 38, 39, 40, 41, 42, 43, 44, 45, 46, 47, 48, 49, 50, 51, 52, 1, 53, 54, 55, 56, 63, 64, 65, 66, 67, 68, 69, 70, 71, 72, 73, 74, 75, 76, 77, 78] (by decide +kernel) (by decide +kernel)
set_option maxRecDepth 20000 in
theorem gX6_share_X6_shares : GoodIn wsX6_share (wsV RX6 234 RX6 yX6_shares wsX6_shares) := goodIn_app (goodIn_of _ (by decide +kernel)) ggX6_share_X6_shares
set_option maxRecDepth 20000 in
theorem ggX6_share_X6_n : GoodIn wsX6_share wsX6_n := goodIn_r _ [20, 21, 63, 64, 65, 66, 67, 68, 69, 70, 71, 72, 73, 74, 75, 76, 77, 78] (by decide +kernel) (by decide +kernel)
set_option maxRecDepth 20000 in
theorem gX6_share_X6_n : GoodIn wsX6_share (wsV RX6 66 RX6 yX6_n wsX6_n) := goodIn_app (goodIn_of _ (by decide +kernel)) ggX6_share_X6_n
set_option maxRecDepth 20000 in
theorem ggX6_share_X6_part : GoodIn wsX6_share wsX6_part := goodIn_r _ [59, 60, 61, 7, 62] (by decide +kernel) (by decide +kernel)
set_option maxRecDepth 20000 in
theorem gX6_share_X6_part : GoodIn wsX6_share (va_wsS RX6 238 yX6_part wsX6_part) := goodIn_app (goodIn_of _ (by decide +kernel)) ggX6_share_X6_part
