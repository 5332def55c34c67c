theorem dX4_take_0 : decode cX4_take 0 = .ok (.aload_n 0, 1) := by decide +kernel
theorem dX4_take_1 : decode cX4_take 1 = .ok (.invokevirtual 42, 3) := by decide +kernel
theorem dX4_take_4 : decode cX4_take 4 = .ok (.iload_n 1, 1) := by decide +kernel
theorem dX4_take_5 : decode cX4_take 5 = .ok (.if_icmp .eq 5, 3) := by decide +kernel
theorem dX4_take_8 : decode cX4_take 8 = .ok (.iconst 0, 1) := by decide +kernel
theorem dX4_take_9 : decode cX4_take 9 = .ok (.ireturn, 1) := by decide +kernel
theorem dX4_take_10 : decode cX4_take 10 = .ok (.aload_n 0, 1) := by decide +kernel
theorem dX4_take_11 : decode cX4_take 11 = .ok (.dup, 1) := by decide +kernel
theorem dX4_take_12 : decode cX4_take 12 = .ok (.getfield 19, 3) := by decide +kernel
theorem dX4_take_15 : decode cX4_take 15 = .ok (.iconst 1, 1) := by decide +kernel
theorem dX4_take_16 : decode cX4_take 16 = .ok (.iadd, 1) := by decide +kernel
theorem dX4_take_17 : decode cX4_take 17 = .ok (.putfield 19, 3) := by decide +kernel
theorem dX4_take_20 : decode cX4_take 20 = .ok (.iconst 1, 1) := by decide +kernel
theorem dX4_take_21 : decode cX4_take 21 = .ok (.ireturn, 1) := by decide +kernel
theorem dX4_here_0 : decode cX4_here 0 = .ok (.aload_n 0, 1) := by decide +kernel
theorem dX4_here_1 : decode cX4_here 1 = .ok (.getfield 19, 3) := by decide +kernel
theorem dX4_here_4 : decode cX4_here 4 = .ok (.ifCond .lt 26, 3) := by decide +kernel
theorem dX4_here_7 : decode cX4_here 7 = .ok (.aload_n 0, 1) := by decide +kernel
theorem dX4_here_8 : decode cX4_here 8 = .ok (.getfield 19, 3) := by decide +kernel
theorem dX4_here_11 : decode cX4_here 11 = .ok (.aload_n 0, 1) := by decide +kernel
theorem dX4_here_12 : decode cX4_here 12 = .ok (.getfield 15, 3) := by decide +kernel
theorem dX4_here_15 : decode cX4_here 15 = .ok (.if_icmp .ge 15, 3) := by decide +kernel
theorem dX4_here_18 : decode cX4_here 18 = .ok (.aload_n 0, 1) := by decide +kernel
theorem dX4_here_19 : decode cX4_here 19 = .ok (.getfield 9, 3) := by decide +kernel
theorem dX4_here_22 : decode cX4_here 22 = .ok (.aload_n 0, 1) := by decide +kernel
theorem dX4_here_23 : decode cX4_here 23 = .ok (.getfield 19, 3) := by decide +kernel
theorem dX4_here_26 : decode cX4_here 26 = .ok (.baload, 1) := by decide +kernel
theorem dX4_here_27 : decode cX4_here 27 = .ok (.goto 4, 3) := by decide +kernel
theorem dX4_here_30 : decode cX4_here 30 = .ok (.iconst 0, 1) := by decide +kernel
theorem dX4_here_31 : decode cX4_here 31 = .ok (.ireturn, 1) := by decide +kernel
theorem dX4_isFigure_0 : decode cX4_isFigure 0 = .ok (.iload_n 0, 1) := by decide +kernel
theorem dX4_isFigure_1 : decode cX4_isFigure 1 = .ok (.bipush 48, 2) := by decide +kernel
theorem dX4_isFigure_3 : decode cX4_isFigure 3 = .ok (.if_icmp .lt 13, 3) := by decide +kernel
theorem dX4_isFigure_6 : decode cX4_isFigure 6 = .ok (.iload_n 0, 1) := by decide +kernel
theorem dX4_isFigure_7 : decode cX4_isFigure 7 = .ok (.bipush 57, 2) := by decide +kernel
theorem dX4_isFigure_9 : decode cX4_isFigure 9 = .ok (.if_icmp .gt 7, 3) := by decide +kernel
theorem dX4_isFigure_12 : decode cX4_isFigure 12 = .ok (.iconst 1, 1) := by decide +kernel
theorem dX4_isFigure_13 : decode cX4_isFigure 13 = .ok (.goto 4, 3) := by decide +kernel
theorem dX4_isFigure_16 : decode cX4_isFigure 16 = .ok (.iconst 0, 1) := by decide +kernel
theorem dX4_isFigure_17 : decode cX4_isFigure 17 = .ok (.ireturn, 1) := by decide +kernel
set_option maxRecDepth 20000 in
theorem ggX5_init_X0_init : GoodIn wsX5_init wsX0_init := goodIn_r _ [31, 32, 2, 3, 28, 33, 34, 35, 36, 25, 37, 70, 71, 72, 73, 74, 75, 76] (by decide +kernel) (by decide +kernel)
set_option maxRecDepth 20000 in
theorem gX5_init_X0_init_n13 : GoodIn wsX5_init (wsX0_init) := ggX5_init_X0_init
set_option maxRecDepth 20000 in
theorem ggX5_init_X4_init : GoodIn wsX5_init wsX4_init := goodIn_r _ [39, 40, 2, 3, 41, 42, 87, 88, 89, 90] (by decide +kernel) (by decide +kernel)
set_option maxRecDepth 20000 in
theorem gX5_init_X4_init_n23 : GoodIn wsX5_init (wsX4_init) := ggX5_init_X4_init
set_option maxRecDepth 20000 in
theorem ggX5_init_X2_init : GoodIn wsX5_init wsX2_init := goodIn_r _ [44, 45, 2, 3, 41, 46, 91, 92] (by decide +kernel) (by decide +kernel)
set_option maxRecDepth 20000 in
theorem gX5_init_X2_init_n30 : GoodIn wsX5_init (wsX2_init) := ggX5_init_X2_init
set_option maxRecDepth 20000 in
theorem ggX5_init_X3_init : GoodIn wsX5_init wsX3_init := goodIn_r _ [48, 49, 2, 3, 50, 25, 51, 28, 52, 93, 94] (by decide +kernel) (by decide +kernel)
set_option maxRecDepth 20000 in
theorem gX5_init_X3_init_n37 : GoodIn wsX5_init (wsX3_init) := ggX5_init_X3_init
set_option maxRecDepth 20000 in
theorem ggX5_init_X1_init : GoodIn wsX5_init wsX1_init := goodIn_r _ [54, 55, 2, 3] (by decide +kernel) (by decide +kernel)
set_option maxRecDepth 20000 in
theorem gX5_init_X1_init_n44 : GoodIn wsX5_init (wsX1_init) := ggX5_init_X1_init
set_option maxRecDepth 20000 in
theorem ggX5_init_X0_begin : GoodIn wsX5_init wsX0_begin := goodIn_r _ [59, 60, 61, 62, 33, 35, 34, 37, 63, 64, 65, 66, 67, 68, 69, 70, 71, 72, 73, 74, 75, 76] (by decide +kernel) (by decide +kernel)
set_option maxRecDepth 20000 in
theorem gX5_init_X0_begin : GoodIn wsX5_init (wsV RX5 60 RX0 yX0_begin wsX0_begin) := goodIn_app (goodIn_of _ (by decide +kernel)) ggX5_init_X0_begin
theorem dX5_init_0 : decode cX5_init 0 = .ok (.aload_n 0, 1) := by decide +kernel
theorem dX5_init_1 : decode cX5_init 1 = .ok (.invokespecial 5, 3) := by decide +kernel
theorem dX5_init_4 : decode cX5_init 4 = .ok (.aload_n 0, 1) := by decide +kernel
theorem dX5_init_5 : decode cX5_init 5 = .ok (.new 11, 3) := by decide +kernel
theorem dX5_init_8 : decode cX5_init 8 = .ok (.dup, 1) := by decide +kernel
theorem dX5_init_9 : decode cX5_init 9 = .ok (.invokespecial 13, 3) := by decide +kernel
theorem dX5_init_12 : decode cX5_init 12 = .ok (.putfield 14, 3) := by decide +kernel
theorem dX5_init_15 : decode cX5_init 15 = .ok (.aload_n 0, 1) := by decide +kernel
theorem dX5_init_16 : decode cX5_init 16 = .ok (.new 11, 3) := by decide +kernel
theorem dX5_init_19 : decode cX5_init 19 = .ok (.dup, 1) := by decide +kernel
theorem dX5_init_20 : decode cX5_init 20 = .ok (.invokespecial 13, 3) := by decide +kernel
theorem dX5_init_23 : decode cX5_init 23 = .ok (.putfield 18, 3) := by decide +kernel
theorem dX5_init_26 : decode cX5_init 26 = .ok (.aload_n 0, 1) := by decide +kernel
theorem dX5_init_27 : decode cX5_init 27 = .ok (.new 21, 3) := by decide +kernel
theorem dX5_init_30 : decode cX5_init 30 = .ok (.dup, 1) := by decide +kernel
theorem dX5_init_31 : decode cX5_init 31 = .ok (.invokespecial 23, 3) := by decide +kernel
theorem dX5_init_34 : decode cX5_init 34 = .ok (.putfield 24, 3) := by decide +kernel
theorem dX5_init_37 : decode cX5_init 37 = .ok (.aload_n 0, 1) := by decide +kernel
theorem dX5_init_38 : decode cX5_init 38 = .ok (.new 28, 3) := by decide +kernel
theorem dX5_init_41 : decode cX5_init 41 = .ok (.dup, 1) := by decide +kernel
theorem dX5_init_42 : decode cX5_init 42 = .ok (.invokespecial 30, 3) := by decide +kernel
theorem dX5_init_45 : decode cX5_init 45 = .ok (.putfield 31, 3) := by decide +kernel
theorem dX5_init_48 : decode cX5_init 48 = .ok (.aload_n 0, 1) := by decide +kernel
theorem dX5_init_49 : decode cX5_init 49 = .ok (.new 35, 3) := by decide +kernel
theorem dX5_init_52 : decode cX5_init 52 = .ok (.dup, 1) := by decide +kernel
theorem dX5_init_53 : decode cX5_init 53 = .ok (.invokespecial 37, 3) := by decide +kernel
theorem dX5_init_56 : decode cX5_init 56 = .ok (.putfield 38, 3) := by decide +kernel
theorem dX5_init_59 : decode cX5_init 59 = .ok (.aload_n 0, 1) := by decide +kernel
theorem dX5_init_60 : decode cX5_init 60 = .ok (.new 42, 3) := by decide +kernel
theorem dX5_init_63 : decode cX5_init 63 = .ok (.dup, 1) := by decide +kernel
theorem dX5_init_64 : decode cX5_init 64 = .ok (.invokespecial 44, 3) := by decide +kernel
theorem dX5_init_67 : decode cX5_init 67 = .ok (.putfield 45, 3) := by decide +kernel
theorem dX5_init_70 : decode cX5_init 70 = .ok (.aload_n 0, 1) := by decide +kernel
theorem dX5_init_71 : decode cX5_init 71 = .ok (.sipush 512, 3) := by decide +kernel
theorem dX5_init_74 : decode cX5_init 74 = .ok (.newarray .long, 2) := by decide +kernel
theorem dX5_init_76 : decode cX5_init 76 = .ok (.putfield 49, 3) := by decide +kernel
theorem dX5_init_79 : decode cX5_init 79 = .ok (.aload_n 0, 1) := by decide +kernel
theorem dX5_init_80 : decode cX5_init 80 = .ok (.bipush 9, 2) := by decide +kernel
theorem dX5_init_82 : decode cX5_init 82 = .ok (.newarray .long, 2) := by decide +kernel
theorem dX5_init_84 : decode cX5_init 84 = .ok (.putfield 53, 3) := by decide +kernel
theorem dX5_init_87 : decode cX5_init 87 = .ok (.aload_n 0, 1) := by decide +kernel
theorem dX5_init_88 : decode cX5_init 88 = .ok (.sipush 8001, 3) := by decide +kernel
theorem dX5_init_91 : decode cX5_init 91 = .ok (.newarray .int, 2) := by decide +kernel
theorem dX5_init_93 : decode cX5_init 93 = .ok (.putfield 56, 3) := by decide +kernel
theorem dX5_init_96 : decode cX5_init 96 = .ok (.aload_n 0, 1) := by decide +kernel
theorem dX5_init_97 : decode cX5_init 97 = .ok (.getfield 14, 3) := by decide +kernel
theorem dX5_init_100 : decode cX5_init 100 = .ok (.iconst 1, 1) := by decide +kernel
theorem dX5_init_101 : decode cX5_init 101 = .ok (.invokevirtual 60, 3) := by decide +kernel
theorem dX5_init_104 : decode cX5_init 104 = .ok (.return_, 1) := by decide +kernel
set_option maxRecDepth 20000 in
theorem ggX5_partners_X0_begin : GoodIn wsX5_partners wsX0_begin := goodIn_r _ [6, 7, 8, 9, 10, 11, 12, 13, 14, 15, 16, 17, 18, 19, 20, 31, 32, 33, 34, 35, 36, 37] (by decide +kernel) (by decide +kernel)
set_option maxRecDepth 20000 in
theorem gX5_partners_X0_begin : GoodIn wsX5_partners (wsV RX5 60 RX0 yX0_begin wsX0_begin) := goodIn_app (goodIn_of _ (by decide +kernel)) ggX5_partners_X0_begin
theorem dX5_partners_0 : decode cX5_partners 0 = .ok (.iload_n 1, 1) := by decide +kernel
theorem dX5_partners_1 : decode cX5_partners 1 = .ok (.iconst 1, 1) := by decide +kernel
theorem dX5_partners_2 : decode cX5_partners 2 = .ok (.if_icmp .lt 9, 3) := by decide +kernel
theorem dX5_partners_5 : decode cX5_partners 5 = .ok (.iload_n 1, 1) := by decide +kernel
theorem dX5_partners_6 : decode cX5_partners 6 = .ok (.bipush 9, 2) := by decide +kernel
theorem dX5_partners_8 : decode cX5_partners 8 = .ok (.if_icmp .le 6, 3) := by decide +kernel
theorem dX5_partners_11 : decode cX5_partners 11 = .ok (.bipush (-2), 2) := by decide +kernel
theorem dX5_partners_13 : decode cX5_partners 13 = .ok (.ireturn, 1) := by decide +kernel
theorem dX5_partners_14 : decode cX5_partners 14 = .ok (.aload_n 0, 1) := by decide +kernel
theorem dX5_partners_15 : decode cX5_partners 15 = .ok (.getfield 14, 3) := by decide +kernel
theorem dX5_partners_18 : decode cX5_partners 18 = .ok (.iload_n 1, 1) := by decide +kernel
theorem dX5_partners_19 : decode cX5_partners 19 = .ok (.invokevirtual 60, 3) := by decide +kernel
theorem dX5_partners_22 : decode cX5_partners 22 = .ok (.iload_n 1, 1) := by decide +kernel
theorem dX5_partners_23 : decode cX5_partners 23 = .ok (.ireturn, 1) := by decide +kernel
set_option maxRecDepth 20000 in
theorem ggX5_value_X5_isGame : GoodIn wsX5_value wsX5_isGame := goodIn_r _ [6] (by decide +kernel) (by decide +kernel)
set_option maxRecDepth 20000 in
theorem gX5_value_X5_isGame : GoodIn wsX5_value (va_wsS RX5 64 yX5_isGame wsX5_isGame) := goodIn_app (goodIn_of _ (by decide +kernel)) ggX5_value_X5_isGame
set_option maxRecDepth 20000 in
theorem ggX5_value_X0_hasSet : GoodIn wsX5_value wsX0_hasSet := goodIn_r _ [11, 12, 13, 14, 10, 15, 16, 32, 33, 34, 35, 36, 37, 38] (by decide +kernel) (by decide +kernel)
set_option maxRecDepth 20000 in
theorem gX5_value_X0_hasSet : GoodIn wsX5_value (wsV RX5 68 RX0 yX0_hasSet wsX0_hasSet) := goodIn_app (goodIn_of _ (by decide +kernel)) ggX5_value_X0_hasSet
set_option maxRecDepth 20000 in
theorem ggX5_value_X5_isToldValue : GoodIn wsX5_value wsX5_isToldValue := goodIn_r _ [19, 20, 21] (by decide +kernel) (by decide +kernel)
set_option maxRecDepth 20000 in
theorem gX5_value_X5_isToldValue : GoodIn wsX5_value (va_wsS RX5 71 yX5_isToldValue wsX5_isToldValue) := goodIn_app (goodIn_of _ (by decide +kernel)) ggX5_value_X5_isToldValue
theorem dX5_value_0 : decode cX5_value 0 = .ok (.iload_n 1, 1) := by decide +kernel
theorem dX5_value_1 : decode cX5_value 1 = .ok (.invokestatic 64, 3) := by decide +kernel
theorem dX5_value_4 : decode cX5_value 4 = .ok (.ifCond .eq 18, 3) := by decide +kernel
theorem dX5_value_7 : decode cX5_value 7 = .ok (.aload_n 0, 1) := by decide +kernel
theorem dX5_value_8 : decode cX5_value 8 = .ok (.getfield 14, 3) := by decide +kernel
theorem dX5_value_11 : decode cX5_value 11 = .ok (.iload_n 2, 1) := by decide +kernel
theorem dX5_value_12 : decode cX5_value 12 = .ok (.invokevirtual 68, 3) := by decide +kernel
theorem dX5_value_15 : decode cX5_value 15 = .ok (.ifCond .eq 7, 3) := by decide +kernel
theorem dX5_value_18 : decode cX5_value 18 = .ok (.iload_n 2, 1) := by decide +kernel
theorem dX5_value_19 : decode cX5_value 19 = .ok (.ifCond .ne 5, 3) := by decide +kernel
theorem dX5_value_22 : decode cX5_value 22 = .ok (.iconst (-1), 1) := by decide +kernel
theorem dX5_value_23 : decode cX5_value 23 = .ok (.ireturn, 1) := by decide +kernel
theorem dX5_value_24 : decode cX5_value 24 = .ok (.lload_n 3, 1) := by decide +kernel
theorem dX5_value_25 : decode cX5_value 25 = .ok (.invokestatic 71, 3) := by decide +kernel
theorem dX5_value_28 : decode cX5_value 28 = .ok (.ifCond .ne 6, 3) := by decide +kernel
theorem dX5_value_31 : decode cX5_value 31 = .ok (.bipush (-2), 2) := by decide +kernel
theorem dX5_value_33 : decode cX5_value 33 = .ok (.ireturn, 1) := by decide +kernel
theorem dX5_value_34 : decode cX5_value 34 = .ok (.aload_n 0, 1) := by decide +kernel
theorem dX5_value_35 : decode cX5_value 35 = .ok (.getfield 14, 3) := by decide +kernel
theorem dX5_value_38 : decode cX5_value 38 = .ok (.getfield 75, 3) := by decide +kernel
theorem dX5_value_41 : decode cX5_value 41 = .ok (.iload_n 1, 1) := by decide +kernel
theorem dX5_value_42 : decode cX5_value 42 = .ok (.aaload, 1) := by decide +kernel
theorem dX5_value_43 : decode cX5_value 43 = .ok (.iload_n 2, 1) := by decide +kernel
theorem dX5_value_44 : decode cX5_value 44 = .ok (.lload_n 3, 1) := by decide +kernel
theorem dX5_value_45 : decode cX5_value 45 = .ok (.lastore, 1) := by decide +kernel
theorem dX5_value_46 : decode cX5_value 46 = .ok (.iconst 1, 1) := by decide +kernel
theorem dX5_value_47 : decode cX5_value 47 = .ok (.ireturn, 1) := by decide +kernel
set_option maxRecDepth 20000 in
theorem ggX5_valueOf_X5_isGame : GoodIn wsX5_valueOf wsX5_isGame := goodIn_r _ [7] (by decide +kernel) (by decide +kernel)
set_option maxRecDepth 20000 in
theorem gX5_valueOf_X5_isGame : GoodIn wsX5_valueOf (va_wsS RX5 64 yX5_isGame wsX5_isGame) := goodIn_app (goodIn_of _ (by decide +kernel)) ggX5_valueOf_X5_isGame
set_option maxRecDepth 20000 in
theorem ggX5_valueOf_X0_hasSet : GoodIn wsX5_valueOf wsX0_hasSet := goodIn_r _ [12, 13, 14, 15, 11, 16, 17, 28, 29, 30, 31, 32, 33, 34] (by decide +kernel) (by decide +kernel)
set_option maxRecDepth 20000 in
theorem gX5_valueOf_X0_hasSet : GoodIn wsX5_valueOf (wsV RX5 68 RX0 yX0_hasSet wsX0_hasSet) := goodIn_app (goodIn_of _ (by decide +kernel)) ggX5_valueOf_X0_hasSet
theorem dX5_valueOf_0 : decode cX5_valueOf 0 = .ok (.iload_n 1, 1) := by decide +kernel
theorem dX5_valueOf_1 : decode cX5_valueOf 1 = .ok (.invokestatic 64, 3) := by decide +kernel
theorem dX5_valueOf_4 : decode cX5_valueOf 4 = .ok (.ifCond .eq 28, 3) := by decide +kernel
theorem dX5_valueOf_7 : decode cX5_valueOf 7 = .ok (.aload_n 0, 1) := by decide +kernel
theorem dX5_valueOf_8 : decode cX5_valueOf 8 = .ok (.getfield 14, 3) := by decide +kernel
theorem dX5_valueOf_11 : decode cX5_valueOf 11 = .ok (.iload_n 2, 1) := by decide +kernel
theorem dX5_valueOf_12 : decode cX5_valueOf 12 = .ok (.invokevirtual 68, 3) := by decide +kernel
theorem dX5_valueOf_15 : decode cX5_valueOf 15 = .ok (.ifCond .eq 17, 3) := by decide +kernel
theorem dX5_valueOf_18 : decode cX5_valueOf 18 = .ok (.aload_n 0, 1) := by decide +kernel
theorem dX5_valueOf_19 : decode cX5_valueOf 19 = .ok (.getfield 14, 3) := by decide +kernel
theorem dX5_valueOf_22 : decode cX5_valueOf 22 = .ok (.getfield 75, 3) := by decide +kernel
theorem dX5_valueOf_25 : decode cX5_valueOf 25 = .ok (.iload_n 1, 1) := by decide +kernel
theorem dX5_valueOf_26 : decode cX5_valueOf 26 = .ok (.aaload, 1) := by decide +kernel
theorem dX5_valueOf_27 : decode cX5_valueOf 27 = .ok (.iload_n 2, 1) := by decide +kernel
theorem dX5_valueOf_28 : decode cX5_valueOf 28 = .ok (.laload, 1) := by decide +kernel
theorem dX5_valueOf_29 : decode cX5_valueOf 29 = .ok (.goto 6, 3) := by decide +kernel
theorem dX5_valueOf_32 : decode cX5_valueOf 32 = .ok (.ldc2_w 79, 3) := by decide +kernel
theorem dX5_valueOf_35 : decode cX5_valueOf 35 = .ok (.lreturn, 1) := by decide +kernel
set_option maxRecDepth 20000 in
theorem ggX5_weight_X0_hasPartner : GoodIn wsX5_weight wsX0_hasPartner := goodIn_r _ [7, 8, 19, 20, 21, 22, 23, 24, 25] (by decide +kernel) (by decide +kernel)
set_option maxRecDepth 20000 in
theorem gX5_weight_X0_hasPartner : GoodIn wsX5_weight (wsV RX5 81 RX0 yX0_hasPartner wsX0_hasPartner) := goodIn_app (goodIn_of _ (by decide +kernel)) ggX5_weight_X0_hasPartner
theorem dX5_weight_0 : decode cX5_weight 0 = .ok (.aload_n 0, 1) := by decide +kernel
theorem dX5_weight_1 : decode cX5_weight 1 = .ok (.getfield 14, 3) := by decide +kernel
theorem dX5_weight_4 : decode cX5_weight 4 = .ok (.iload_n 1, 1) := by decide +kernel
theorem dX5_weight_5 : decode cX5_weight 5 = .ok (.invokevirtual 81, 3) := by decide +kernel
theorem dX5_weight_8 : decode cX5_weight 8 = .ok (.ifCond .ne 5, 3) := by decide +kernel
theorem dX5_weight_11 : decode cX5_weight 11 = .ok (.iconst (-1), 1) := by decide +kernel
theorem dX5_weight_12 : decode cX5_weight 12 = .ok (.ireturn, 1) := by decide +kernel
theorem dX5_weight_13 : decode cX5_weight 13 = .ok (.iload_n 2, 1) := by decide +kernel
theorem dX5_weight_14 : decode cX5_weight 14 = .ok (.ifCond .lt 10, 3) := by decide +kernel
theorem dX5_weight_17 : decode cX5_weight 17 = .ok (.iload_n 2, 1) := by decide +kernel
theorem dX5_weight_18 : decode cX5_weight 18 = .ok (.sipush 1000, 3) := by decide +kernel
theorem dX5_weight_21 : decode cX5_weight 21 = .ok (.if_icmp .le 6, 3) := by decide +kernel
theorem dX5_weight_24 : decode cX5_weight 24 = .ok (.bipush (-2), 2) := by decide +kernel
theorem dX5_weight_26 : decode cX5_weight 26 = .ok (.ireturn, 1) := by decide +kernel
theorem dX5_weight_27 : decode cX5_weight 27 = .ok (.aload_n 0, 1) := by decide +kernel
theorem dX5_weight_28 : decode cX5_weight 28 = .ok (.getfield 14, 3) := by decide +kernel
theorem dX5_weight_31 : decode cX5_weight 31 = .ok (.getfield 84, 3) := by decide +kernel
theorem dX5_weight_34 : decode cX5_weight 34 = .ok (.iload_n 1, 1) := by decide +kernel
theorem dX5_weight_35 : decode cX5_weight 35 = .ok (.iaload, 1) := by decide +kernel
theorem dX5_weight_36 : decode cX5_weight 36 = .ok (.istore_n 3, 1) := by decide +kernel
theorem dX5_weight_37 : decode cX5_weight 37 = .ok (.aload_n 0, 1) := by decide +kernel
theorem dX5_weight_38 : decode cX5_weight 38 = .ok (.getfield 14, 3) := by decide +kernel
theorem dX5_weight_41 : decode cX5_weight 41 = .ok (.getfield 84, 3) := by decide +kernel
theorem dX5_weight_44 : decode cX5_weight 44 = .ok (.iload_n 1, 1) := by decide +kernel
theorem dX5_weight_45 : decode cX5_weight 45 = .ok (.iload_n 2, 1) := by decide +kernel
theorem dX5_weight_46 : decode cX5_weight 46 = .ok (.iastore, 1) := by decide +kernel
theorem dX5_weight_47 : decode cX5_weight 47 = .ok (.iload_n 3, 1) := by decide +kernel
theorem dX5_weight_48 : decode cX5_weight 48 = .ok (.ireturn, 1) := by decide +kernel
theorem dX5_quota_0 : decode cX5_quota 0 = .ok (.iload_n 1, 1) := by decide +kernel
theorem dX5_quota_1 : decode cX5_quota 1 = .ok (.ifCond .eq 10, 3) := by decide +kernel
theorem dX5_quota_4 : decode cX5_quota 4 = .ok (.iload_n 1, 1) := by decide +kernel
theorem dX5_quota_5 : decode cX5_quota 5 = .ok (.iconst 1, 1) := by decide +kernel
theorem dX5_quota_6 : decode cX5_quota 6 = .ok (.if_icmp .eq 5, 3) := by decide +kernel
theorem dX5_quota_9 : decode cX5_quota 9 = .ok (.iconst (-1), 1) := by decide +kernel
theorem dX5_quota_10 : decode cX5_quota 10 = .ok (.ireturn, 1) := by decide +kernel
theorem dX5_quota_11 : decode cX5_quota 11 = .ok (.iload_n 2, 1) := by decide +kernel
theorem dX5_quota_12 : decode cX5_quota 12 = .ok (.ifCond .lt 10, 3) := by decide +kernel
theorem dX5_quota_15 : decode cX5_quota 15 = .ok (.iload_n 2, 1) := by decide +kernel
theorem dX5_quota_16 : decode cX5_quota 16 = .ok (.sipush 9999, 3) := by decide +kernel
theorem dX5_quota_19 : decode cX5_quota 19 = .ok (.if_icmp .le 6, 3) := by decide +kernel
theorem dX5_quota_22 : decode cX5_quota 22 = .ok (.bipush (-2), 2) := by decide +kernel
theorem dX5_quota_24 : decode cX5_quota 24 = .ok (.ireturn, 1) := by decide +kernel
theorem dX5_quota_25 : decode cX5_quota 25 = .ok (.iload_n 1, 1) := by decide +kernel
theorem dX5_quota_26 : decode cX5_quota 26 = .ok (.ifCond .ne 13, 3) := by decide +kernel
theorem dX5_quota_29 : decode cX5_quota 29 = .ok (.aload_n 0, 1) := by decide +kernel
theorem dX5_quota_30 : decode cX5_quota 30 = .ok (.getfield 14, 3) := by decide +kernel
theorem dX5_quota_33 : decode cX5_quota 33 = .ok (.getfield 87, 3) := by decide +kernel
theorem dX5_quota_36 : decode cX5_quota 36 = .ok (.goto 10, 3) := by decide +kernel
theorem dX5_quota_39 : decode cX5_quota 39 = .ok (.aload_n 0, 1) := by decide +kernel
theorem dX5_quota_40 : decode cX5_quota 40 = .ok (.getfield 14, 3) := by decide +kernel
theorem dX5_quota_43 : decode cX5_quota 43 = .ok (.getfield 91, 3) := by decide +kernel
theorem dX5_quota_46 : decode cX5_quota 46 = .ok (.istore_n 3, 1) := by decide +kernel
theorem dX5_quota_47 : decode cX5_quota 47 = .ok (.iload_n 1, 1) := by decide +kernel
theorem dX5_quota_48 : decode cX5_quota 48 = .ok (.ifCond .ne 14, 3) := by decide +kernel
theorem dX5_quota_51 : decode cX5_quota 51 = .ok (.aload_n 0, 1) := by decide +kernel
theorem dX5_quota_52 : decode cX5_quota 52 = .ok (.getfield 14, 3) := by decide +kernel
theorem dX5_quota_55 : decode cX5_quota 55 = .ok (.iload_n 2, 1) := by decide +kernel
theorem dX5_quota_56 : decode cX5_quota 56 = .ok (.putfield 87, 3) := by decide +kernel
theorem dX5_quota_59 : decode cX5_quota 59 = .ok (.goto 11, 3) := by decide +kernel
theorem dX5_quota_62 : decode cX5_quota 62 = .ok (.aload_n 0, 1) := by decide +kernel
theorem dX5_quota_63 : decode cX5_quota 63 = .ok (.getfield 14, 3) := by decide +kernel
theorem dX5_quota_66 : decode cX5_quota 66 = .ok (.iload_n 2, 1) := by decide +kernel
theorem dX5_quota_67 : decode cX5_quota 67 = .ok (.putfield 91, 3) := by decide +kernel
theorem dX5_quota_70 : decode cX5_quota 70 = .ok (.iload_n 3, 1) := by decide +kernel
theorem dX5_quota_71 : decode cX5_quota 71 = .ok (.ireturn, 1) := by decide +kernel
set_option maxRecDepth 20000 in
theorem ggX5_edge_X0_hasTwo : GoodIn wsX5_edge wsX0_hasTwo := goodIn_r _ [7, 8, 9, 10, 6, 11, 12, 34, 35, 36, 37, 38, 39, 40] (by decide +kernel) (by decide +kernel)
set_option maxRecDepth 20000 in
theorem gX5_edge_X0_hasTwo : GoodIn wsX5_edge (wsV RX5 94 RX0 yX0_hasTwo wsX0_hasTwo) := goodIn_app (goodIn_of _ (by decide +kernel)) ggX5_edge_X0_hasTwo
set_option maxRecDepth 20000 in
theorem ggX5_edge_X5_edgePlace : GoodIn wsX5_edge wsX5_edgePlace := goodIn_r _ [16, 17, 18, 19, 20, 21, 22, 23] (by decide +kernel) (by decide +kernel)
set_option maxRecDepth 20000 in
theorem gX5_edge_X5_edgePlace : GoodIn wsX5_edge (va_wsS RX5 98 yX5_edgePlace wsX5_edgePlace) := goodIn_app (goodIn_of _ (by decide +kernel)) ggX5_edge_X5_edgePlace
theorem dX5_edge_0 : decode cX5_edge 0 = .ok (.aload_n 0, 1) := by decide +kernel
theorem dX5_edge_1 : decode cX5_edge 1 = .ok (.getfield 14, 3) := by decide +kernel
theorem dX5_edge_4 : decode cX5_edge 4 = .ok (.iload_n 1, 1) := by decide +kernel
theorem dX5_edge_5 : decode cX5_edge 5 = .ok (.iload_n 2, 1) := by decide +kernel
theorem dX5_edge_6 : decode cX5_edge 6 = .ok (.invokevirtual 94, 3) := by decide +kernel
theorem dX5_edge_9 : decode cX5_edge 9 = .ok (.ifCond .ne 5, 3) := by decide +kernel
theorem dX5_edge_12 : decode cX5_edge 12 = .ok (.iconst (-1), 1) := by decide +kernel
theorem dX5_edge_13 : decode cX5_edge 13 = .ok (.ireturn, 1) := by decide +kernel
theorem dX5_edge_14 : decode cX5_edge 14 = .ok (.iload_n 3, 1) := by decide +kernel
theorem dX5_edge_15 : decode cX5_edge 15 = .ok (.sipush (-9999), 3) := by decide +kernel
theorem dX5_edge_18 : decode cX5_edge 18 = .ok (.if_icmp .lt 10, 3) := by decide +kernel
theorem dX5_edge_21 : decode cX5_edge 21 = .ok (.iload_n 3, 1) := by decide +kernel
theorem dX5_edge_22 : decode cX5_edge 22 = .ok (.sipush 9999, 3) := by decide +kernel
theorem dX5_edge_25 : decode cX5_edge 25 = .ok (.if_icmp .le 6, 3) := by decide +kernel
theorem dX5_edge_28 : decode cX5_edge 28 = .ok (.bipush (-2), 2) := by decide +kernel
theorem dX5_edge_30 : decode cX5_edge 30 = .ok (.ireturn, 1) := by decide +kernel
theorem dX5_edge_31 : decode cX5_edge 31 = .ok (.iload_n 1, 1) := by decide +kernel
theorem dX5_edge_32 : decode cX5_edge 32 = .ok (.iload_n 2, 1) := by decide +kernel
theorem dX5_edge_33 : decode cX5_edge 33 = .ok (.invokestatic 98, 3) := by decide +kernel
theorem dX5_edge_36 : decode cX5_edge 36 = .ok (.istore 4, 2) := by decide +kernel
theorem dX5_edge_38 : decode cX5_edge 38 = .ok (.aload_n 0, 1) := by decide +kernel
theorem dX5_edge_39 : decode cX5_edge 39 = .ok (.getfield 14, 3) := by decide +kernel
theorem dX5_edge_42 : decode cX5_edge 42 = .ok (.getfield 102, 3) := by decide +kernel
theorem dX5_edge_45 : decode cX5_edge 45 = .ok (.iload 4, 2) := by decide +kernel
theorem dX5_edge_47 : decode cX5_edge 47 = .ok (.iaload, 1) := by decide +kernel
theorem dX5_edge_48 : decode cX5_edge 48 = .ok (.iload_n 3, 1) := by decide +kernel
theorem dX5_edge_49 : decode cX5_edge 49 = .ok (.if_icmp .ne 7, 3) := by decide +kernel
theorem dX5_edge_52 : decode cX5_edge 52 = .ok (.iconst 1, 1) := by decide +kernel
theorem dX5_edge_53 : decode cX5_edge 53 = .ok (.goto 4, 3) := by decide +kernel
theorem dX5_edge_56 : decode cX5_edge 56 = .ok (.iconst 0, 1) := by decide +kernel
theorem dX5_edge_57 : decode cX5_edge 57 = .ok (.istore 5, 2) := by decide +kernel
theorem dX5_edge_59 : decode cX5_edge 59 = .ok (.aload_n 0, 1) := by decide +kernel
theorem dX5_edge_60 : decode cX5_edge 60 = .ok (.getfield 14, 3) := by decide +kernel
theorem dX5_edge_63 : decode cX5_edge 63 = .ok (.getfield 102, 3) := by decide +kernel
theorem dX5_edge_66 : decode cX5_edge 66 = .ok (.iload 4, 2) := by decide +kernel
theorem dX5_edge_68 : decode cX5_edge 68 = .ok (.iload_n 3, 1) := by decide +kernel
theorem dX5_edge_69 : decode cX5_edge 69 = .ok (.iastore, 1) := by decide +kernel
theorem dX5_edge_70 : decode cX5_edge 70 = .ok (.iload 5, 2) := by decide +kernel
theorem dX5_edge_72 : decode cX5_edge 72 = .ok (.ifCond .eq 7, 3) := by decide +kernel
theorem dX5_edge_75 : decode cX5_edge 75 = .ok (.iconst 0, 1) := by decide +kernel
theorem dX5_edge_76 : decode cX5_edge 76 = .ok (.goto 4, 3) := by decide +kernel
theorem dX5_edge_79 : decode cX5_edge 79 = .ok (.iconst 1, 1) := by decide +kernel
theorem dX5_edge_80 : decode cX5_edge 80 = .ok (.ireturn, 1) := by decide +kernel
set_option maxRecDepth 20000 in
theorem ggX5_cut_X0_hasTwo : GoodIn wsX5_cut wsX0_hasTwo := goodIn_r _ [7, 8, 9, 10, 6, 11, 12, 34, 35, 36, 37, 38, 39, 40] (by decide +kernel) (by decide +kernel)
set_option maxRecDepth 20000 in
theorem gX5_cut_X0_hasTwo : GoodIn wsX5_cut (wsV RX5 94 RX0 yX0_hasTwo wsX0_hasTwo) := goodIn_app (goodIn_of _ (by decide +kernel)) ggX5_cut_X0_hasTwo
set_option maxRecDepth 20000 in
theorem ggX5_cut_X5_edgePlace : GoodIn wsX5_cut wsX5_edgePlace := goodIn_r _ [16, 17, 18, 19, 20, 21, 22, 23] (by decide +kernel) (by decide +kernel)
set_option maxRecDepth 20000 in
theorem gX5_cut_X5_edgePlace : GoodIn wsX5_cut (va_wsS RX5 98 yX5_edgePlace wsX5_edgePlace) := goodIn_app (goodIn_of _ (by decide +kernel)) ggX5_cut_X5_edgePlace
theorem dX5_cut_0 : decode cX5_cut 0 = .ok (.aload_n 0, 1) := by decide +kernel
theorem dX5_cut_1 : decode cX5_cut 1 = .ok (.getfield 14, 3) := by decide +kernel
theorem dX5_cut_4 : decode cX5_cut 4 = .ok (.iload_n 1, 1) := by decide +kernel
theorem dX5_cut_5 : decode cX5_cut 5 = .ok (.iload_n 2, 1) := by decide +kernel
theorem dX5_cut_6 : decode cX5_cut 6 = .ok (.invokevirtual 94, 3) := by decide +kernel
theorem dX5_cut_9 : decode cX5_cut 9 = .ok (.ifCond .ne 5, 3) := by decide +kernel
theorem dX5_cut_12 : decode cX5_cut 12 = .ok (.iconst (-1), 1) := by decide +kernel
theorem dX5_cut_13 : decode cX5_cut 13 = .ok (.ireturn, 1) := by decide +kernel
theorem dX5_cut_14 : decode cX5_cut 14 = .ok (.iload_n 1, 1) := by decide +kernel
theorem dX5_cut_15 : decode cX5_cut 15 = .ok (.iload_n 2, 1) := by decide +kernel
theorem dX5_cut_16 : decode cX5_cut 16 = .ok (.invokestatic 98, 3) := by decide +kernel
theorem dX5_cut_19 : decode cX5_cut 19 = .ok (.istore_n 3, 1) := by decide +kernel
theorem dX5_cut_20 : decode cX5_cut 20 = .ok (.aload_n 0, 1) := by decide +kernel
theorem dX5_cut_21 : decode cX5_cut 21 = .ok (.getfield 14, 3) := by decide +kernel
theorem dX5_cut_24 : decode cX5_cut 24 = .ok (.getfield 102, 3) := by decide +kernel
theorem dX5_cut_27 : decode cX5_cut 27 = .ok (.iload_n 3, 1) := by decide +kernel
theorem dX5_cut_28 : decode cX5_cut 28 = .ok (.iaload, 1) := by decide +kernel
theorem dX5_cut_29 : decode cX5_cut 29 = .ok (.sipush 10000, 3) := by decide +kernel
theorem dX5_cut_32 : decode cX5_cut 32 = .ok (.if_icmp .ne 6, 3) := by decide +kernel
theorem dX5_cut_35 : decode cX5_cut 35 = .ok (.bipush (-3), 2) := by decide +kernel
theorem dX5_cut_37 : decode cX5_cut 37 = .ok (.ireturn, 1) := by decide +kernel
theorem dX5_cut_38 : decode cX5_cut 38 = .ok (.aload_n 0, 1) := by decide +kernel
theorem dX5_cut_39 : decode cX5_cut 39 = .ok (.getfield 14, 3) := by decide +kernel
theorem dX5_cut_42 : decode cX5_cut 42 = .ok (.getfield 102, 3) := by decide +kernel
theorem dX5_cut_45 : decode cX5_cut 45 = .ok (.iload_n 3, 1) := by decide +kernel
theorem dX5_cut_46 : decode cX5_cut 46 = .ok (.sipush 10000, 3) := by decide +kernel
theorem dX5_cut_49 : decode cX5_cut 49 = .ok (.iastore, 1) := by decide +kernel
theorem dX5_cut_50 : decode cX5_cut 50 = .ok (.iconst 1, 1) := by decide +kernel
theorem dX5_cut_51 : decode cX5_cut 51 = .ok (.ireturn, 1) := by decide +kernel
set_option maxRecDepth 20000 in
theorem ggX5_unite_X0_hasPartner : GoodIn wsX5_unite wsX0_hasPartner := goodIn_r _ [7, 8, 31, 32, 33, 34, 35, 36, 37] (by decide +kernel) (by decide +kernel)
set_option maxRecDepth 20000 in
theorem gX5_unite_X0_hasPartner : GoodIn wsX5_unite (wsV RX5 81 RX0 yX0_hasPartner wsX0_hasPartner) := goodIn_app (goodIn_of _ (by decide +kernel)) ggX5_unite_X0_hasPartner
set_option maxRecDepth 20000 in
theorem ggX5_unite_X0_bringTogether : GoodIn wsX5_unite wsX0_bringTogether := goodIn_r _ [12, 8, 13, 14, 15, 16, 31, 32, 33, 34, 35, 36, 37] (by decide +kernel) (by decide +kernel)
set_option maxRecDepth 20000 in
theorem gX5_unite_X0_bringTogether : GoodIn wsX5_unite (wsV RX5 105 RX0 yX0_bringTogether wsX0_bringTogether) := goodIn_app (goodIn_of _ (by decide +kernel)) ggX5_unite_X0_bringTogether
set_option maxRecDepth 20000 in
theorem ggX5_unite_X5_leastOf : GoodIn wsX5_unite wsX5_leastOf := goodIn_r _ [19, 20, 14, 15, 16] (by decide +kernel) (by decide +kernel)
set_option maxRecDepth 20000 in
theorem gX5_unite_X5_leastOf : GoodIn wsX5_unite (va_wsS RX5 112 yX5_leastOf wsX5_leastOf) := goodIn_app (goodIn_of _ (by decide +kernel)) ggX5_unite_X5_leastOf
theorem dX5_unite_0 : decode cX5_unite 0 = .ok (.aload_n 0, 1) := by decide +kernel
theorem dX5_unite_1 : decode cX5_unite 1 = .ok (.getfield 14, 3) := by decide +kernel
theorem dX5_unite_4 : decode cX5_unite 4 = .ok (.iload_n 1, 1) := by decide +kernel
theorem dX5_unite_5 : decode cX5_unite 5 = .ok (.invokevirtual 81, 3) := by decide +kernel
theorem dX5_unite_8 : decode cX5_unite 8 = .ok (.ifCond .eq 14, 3) := by decide +kernel
theorem dX5_unite_11 : decode cX5_unite 11 = .ok (.aload_n 0, 1) := by decide +kernel
theorem dX5_unite_12 : decode cX5_unite 12 = .ok (.getfield 14, 3) := by decide +kernel
theorem dX5_unite_15 : decode cX5_unite 15 = .ok (.iload_n 2, 1) := by decide +kernel
theorem dX5_unite_16 : decode cX5_unite 16 = .ok (.invokevirtual 81, 3) := by decide +kernel
theorem dX5_unite_19 : decode cX5_unite 19 = .ok (.ifCond .ne 5, 3) := by decide +kernel
theorem dX5_unite_22 : decode cX5_unite 22 = .ok (.iconst (-1), 1) := by decide +kernel
theorem dX5_unite_23 : decode cX5_unite 23 = .ok (.ireturn, 1) := by decide +kernel
theorem dX5_unite_24 : decode cX5_unite 24 = .ok (.aload_n 0, 1) := by decide +kernel
theorem dX5_unite_25 : decode cX5_unite 25 = .ok (.getfield 14, 3) := by decide +kernel
theorem dX5_unite_28 : decode cX5_unite 28 = .ok (.iload_n 1, 1) := by decide +kernel
theorem dX5_unite_29 : decode cX5_unite 29 = .ok (.iload_n 2, 1) := by decide +kernel
theorem dX5_unite_30 : decode cX5_unite 30 = .ok (.invokevirtual 105, 3) := by decide +kernel
theorem dX5_unite_33 : decode cX5_unite 33 = .ok (.aload_n 0, 1) := by decide +kernel
theorem dX5_unite_34 : decode cX5_unite 34 = .ok (.getfield 14, 3) := by decide +kernel
theorem dX5_unite_37 : decode cX5_unite 37 = .ok (.getfield 109, 3) := by decide +kernel
theorem dX5_unite_40 : decode cX5_unite 40 = .ok (.iload_n 1, 1) := by decide +kernel
theorem dX5_unite_41 : decode cX5_unite 41 = .ok (.iaload, 1) := by decide +kernel
theorem dX5_unite_42 : decode cX5_unite 42 = .ok (.invokestatic 112, 3) := by decide +kernel
theorem dX5_unite_45 : decode cX5_unite 45 = .ok (.ireturn, 1) := by decide +kernel
set_option maxRecDepth 20000 in
theorem ggX5_feed_X4_append : GoodIn wsX5_feed wsX4_append := goodIn_r _ [7, 8, 9, 20, 21, 22, 23] (by decide +kernel) (by decide +kernel)
set_option maxRecDepth 20000 in
theorem gX5_feed_X4_append : GoodIn wsX5_feed (wsV RX5 116 RX4 yX4_append wsX4_append) := goodIn_app (goodIn_of _ (by decide +kernel)) ggX5_feed_X4_append
theorem dX5_feed_0 : decode cX5_feed 0 = .ok (.iload_n 1, 1) := by decide +kernel
theorem dX5_feed_1 : decode cX5_feed 1 = .ok (.iconst 1, 1) := by decide +kernel
theorem dX5_feed_2 : decode cX5_feed 2 = .ok (.if_icmp .lt 9, 3) := by decide +kernel
theorem dX5_feed_5 : decode cX5_feed 5 = .ok (.iload_n 1, 1) := by decide +kernel
theorem dX5_feed_6 : decode cX5_feed 6 = .ok (.bipush 127, 2) := by decide +kernel
theorem dX5_feed_8 : decode cX5_feed 8 = .ok (.if_icmp .le 6, 3) := by decide +kernel
theorem dX5_feed_11 : decode cX5_feed 11 = .ok (.bipush (-2), 2) := by decide +kernel
theorem dX5_feed_13 : decode cX5_feed 13 = .ok (.ireturn, 1) := by decide +kernel
theorem dX5_feed_14 : decode cX5_feed 14 = .ok (.aload_n 0, 1) := by decide +kernel
theorem dX5_feed_15 : decode cX5_feed 15 = .ok (.getfield 24, 3) := by decide +kernel
theorem dX5_feed_18 : decode cX5_feed 18 = .ok (.iload_n 1, 1) := by decide +kernel
theorem dX5_feed_19 : decode cX5_feed 19 = .ok (.i2b, 1) := by decide +kernel
theorem dX5_feed_20 : decode cX5_feed 20 = .ok (.invokevirtual 116, 3) := by decide +kernel
theorem dX5_feed_23 : decode cX5_feed 23 = .ok (.ifCond .eq 13, 3) := by decide +kernel
theorem dX5_feed_26 : decode cX5_feed 26 = .ok (.aload_n 0, 1) := by decide +kernel
theorem dX5_feed_27 : decode cX5_feed 27 = .ok (.getfield 24, 3) := by decide +kernel
theorem dX5_feed_30 : decode cX5_feed 30 = .ok (.getfield 120, 3) := by decide +kernel
theorem dX5_feed_33 : decode cX5_feed 33 = .ok (.goto 5, 3) := by decide +kernel
theorem dX5_feed_36 : decode cX5_feed 36 = .ok (.bipush (-4), 2) := by decide +kernel
theorem dX5_feed_38 : decode cX5_feed 38 = .ok (.ireturn, 1) := by decide +kernel
set_option maxRecDepth 20000 in
theorem ggX5_clear_X4_wipe : GoodIn wsX5_clear wsX4_wipe := goodIn_r _ [7, 8, 19, 20, 21, 22] (by decide +kernel) (by decide +kernel)
set_option maxRecDepth 20000 in
theorem gX5_clear_X4_wipe : GoodIn wsX5_clear (wsV RX5 123 RX4 yX4_wipe wsX4_wipe) := goodIn_app (goodIn_of _ (by decide +kernel)) ggX5_clear_X4_wipe
theorem dX5_clear_0 : decode cX5_clear 0 = .ok (.aload_n 0, 1) := by decide +kernel
theorem dX5_clear_1 : decode cX5_clear 1 = .ok (.getfield 24, 3) := by decide +kernel
theorem dX5_clear_4 : decode cX5_clear 4 = .ok (.getfield 120, 3) := by decide +kernel
theorem dX5_clear_7 : decode cX5_clear 7 = .ok (.istore_n 1, 1) := by decide +kernel
theorem dX5_clear_8 : decode cX5_clear 8 = .ok (.aload_n 0, 1) := by decide +kernel
theorem dX5_clear_9 : decode cX5_clear 9 = .ok (.getfield 24, 3) := by decide +kernel
theorem dX5_clear_12 : decode cX5_clear 12 = .ok (.invokevirtual 123, 3) := by decide +kernel
theorem dX5_clear_15 : decode cX5_clear 15 = .ok (.iload_n 1, 1) := by decide +kernel
theorem dX5_clear_16 : decode cX5_clear 16 = .ok (.ireturn, 1) := by decide +kernel
set_option maxRecDepth 20000 in
theorem ggX5_read_X5_isGame : GoodIn wsX5_read wsX5_isGame := goodIn_r _ [13] (by decide +kernel) (by decide +kernel)
set_option maxRecDepth 20000 in
theorem gX5_read_X5_isGame : GoodIn wsX5_read (va_wsS RX5 64 yX5_isGame wsX5_isGame) := goodIn_app (goodIn_of _ (by decide +kernel)) ggX5_read_X5_isGame
set_option maxRecDepth 20000 in
theorem ggX5_read_X0_sets : GoodIn wsX5_read wsX0_sets := goodIn_r _ [18, 19, 71, 72, 73, 74, 75, 76, 77] (by decide +kernel) (by decide +kernel)
set_option maxRecDepth 20000 in
theorem gX5_read_X0_sets : GoodIn wsX5_read (wsV RX5 126 RX0 yX0_sets wsX0_sets) := goodIn_app (goodIn_of _ (by decide +kernel)) ggX5_read_X0_sets
set_option maxRecDepth 20000 in
theorem ggX5_read_X4_readInto : GoodIn wsX5_read wsX4_readInto := goodIn_r _ [24, 25, 26, 27, 28, 29, 23, 30, 31, 32, 33, 34, 35, 36, 37, 38, 39, 40, 41, 42, 43, 44, 45, 46, 47, 48, 49, 50, 51, 52, 78, 79, 80, 81] (by decide +kernel) (by decide +kernel)
set_option maxRecDepth 20000 in
theorem gX5_read_X4_readInto : GoodIn wsX5_read (wsV RX5 139 RX4 yX4_readInto wsX4_readInto) := goodIn_app (goodIn_of _ (by decide +kernel)) ggX5_read_X4_readInto
set_option maxRecDepth 20000 in
theorem ggX5_read_X4_wipe : GoodIn wsX5_read wsX4_wipe := goodIn_r _ [56, 26, 78, 79, 80, 81] (by decide +kernel) (by decide +kernel)
set_option maxRecDepth 20000 in
theorem gX5_read_X4_wipe : GoodIn wsX5_read (wsV RX5 123 RX4 yX4_wipe wsX4_wipe) := goodIn_app (goodIn_of _ (by decide +kernel)) ggX5_read_X4_wipe
set_option maxRecDepth 20000 in
theorem ggX5_read_X5_settle : GoodIn wsX5_read wsX5_settle := goodIn_r _ [60, 1, 2, 3, 14, 15, 16, 17, 18, 19, 61, 62, 63, 64, 65, 66, 67, 68, 69, 70, 71, 72, 73, 74, 75, 76, 77] (by decide +kernel) (by decide +kernel)
set_option maxRecDepth 20000 in
theorem gX5_read_X5_settle : GoodIn wsX5_read (wsV RX5 143 RX5 yX5_settle wsX5_settle) := goodIn_app (goodIn_of _ (by decide +kernel)) ggX5_read_X5_settle
theorem dX5_read_0 : decode cX5_read 0 = .ok (.iload_n 1, 1) := by decide +kernel
theorem dX5_read_1 : decode cX5_read 1 = .ok (.invokestatic 64, 3) := by decide +kernel
theorem dX5_read_4 : decode cX5_read 4 = .ok (.ifCond .ne 5, 3) := by decide +kernel
theorem dX5_read_7 : decode cX5_read 7 = .ok (.iconst (-1), 1) := by decide +kernel
theorem dX5_read_8 : decode cX5_read 8 = .ok (.ireturn, 1) := by decide +kernel
theorem dX5_read_9 : decode cX5_read 9 = .ok (.aload_n 0, 1) := by decide +kernel
theorem dX5_read_10 : decode cX5_read 10 = .ok (.getfield 14, 3) := by decide +kernel
theorem dX5_read_13 : decode cX5_read 13 = .ok (.getfield 75, 3) := by decide +kernel
theorem dX5_read_16 : decode cX5_read 16 = .ok (.iload_n 1, 1) := by decide +kernel
theorem dX5_read_17 : decode cX5_read 17 = .ok (.aaload, 1) := by decide +kernel
theorem dX5_read_18 : decode cX5_read 18 = .ok (.iconst 0, 1) := by decide +kernel
theorem dX5_read_19 : decode cX5_read 19 = .ok (.aload_n 0, 1) := by decide +kernel
theorem dX5_read_20 : decode cX5_read 20 = .ok (.getfield 49, 3) := by decide +kernel
theorem dX5_read_23 : decode cX5_read 23 = .ok (.iconst 0, 1) := by decide +kernel
theorem dX5_read_24 : decode cX5_read 24 = .ok (.aload_n 0, 1) := by decide +kernel
theorem dX5_read_25 : decode cX5_read 25 = .ok (.getfield 14, 3) := by decide +kernel
theorem dX5_read_28 : decode cX5_read 28 = .ok (.invokevirtual 126, 3) := by decide +kernel
theorem dX5_read_31 : decode cX5_read 31 = .ok (.invokestatic 130, 3) := by decide +kernel
theorem dX5_read_34 : decode cX5_read 34 = .ok (.aload_n 0, 1) := by decide +kernel
theorem dX5_read_35 : decode cX5_read 35 = .ok (.getfield 24, 3) := by decide +kernel
theorem dX5_read_38 : decode cX5_read 38 = .ok (.aload_n 0, 1) := by decide +kernel
theorem dX5_read_39 : decode cX5_read 39 = .ok (.getfield 49, 3) := by decide +kernel
theorem dX5_read_42 : decode cX5_read 42 = .ok (.aload_n 0, 1) := by decide +kernel
theorem dX5_read_43 : decode cX5_read 43 = .ok (.getfield 14, 3) := by decide +kernel
theorem dX5_read_46 : decode cX5_read 46 = .ok (.getfield 136, 3) := by decide +kernel
theorem dX5_read_49 : decode cX5_read 49 = .ok (.invokevirtual 139, 3) := by decide +kernel
theorem dX5_read_52 : decode cX5_read 52 = .ok (.istore_n 2, 1) := by decide +kernel
theorem dX5_read_53 : decode cX5_read 53 = .ok (.aload_n 0, 1) := by decide +kernel
theorem dX5_read_54 : decode cX5_read 54 = .ok (.getfield 24, 3) := by decide +kernel
theorem dX5_read_57 : decode cX5_read 57 = .ok (.invokevirtual 123, 3) := by decide +kernel
theorem dX5_read_60 : decode cX5_read 60 = .ok (.iload_n 2, 1) := by decide +kernel
theorem dX5_read_61 : decode cX5_read 61 = .ok (.ifCond .le 9, 3) := by decide +kernel
theorem dX5_read_64 : decode cX5_read 64 = .ok (.aload_n 0, 1) := by decide +kernel
theorem dX5_read_65 : decode cX5_read 65 = .ok (.iload_n 1, 1) := by decide +kernel
theorem dX5_read_66 : decode cX5_read 66 = .ok (.invokevirtual 143, 3) := by decide +kernel
theorem dX5_read_69 : decode cX5_read 69 = .ok (.pop, 1) := by decide +kernel
theorem dX5_read_70 : decode cX5_read 70 = .ok (.iload_n 2, 1) := by decide +kernel
theorem dX5_read_71 : decode cX5_read 71 = .ok (.ireturn, 1) := by decide +kernel
set_option maxRecDepth 20000 in
theorem ggX5_make_X5_isGame : GoodIn wsX5_make wsX5_isGame := goodIn_r _ [6] (by decide +kernel) (by decide +kernel)
set_option maxRecDepth 20000 in
theorem gX5_make_X5_isGame : GoodIn wsX5_make (va_wsS RX5 64 yX5_isGame wsX5_isGame) := goodIn_app (goodIn_of _ (by decide +kernel)) ggX5_make_X5_isGame
set_option maxRecDepth 20000 in
theorem ggX5_make_X0_sets : GoodIn wsX5_make wsX0_sets := goodIn_r _ [11, 12, 72, 73, 74, 75, 76, 77, 78] (by decide +kernel) (by decide +kernel)
set_option maxRecDepth 20000 in
theorem gX5_make_X0_sets : GoodIn wsX5_make (wsV RX5 126 RX0 yX0_sets wsX0_sets) := goodIn_app (goodIn_of _ (by decide +kernel)) ggX5_make_X0_sets
set_option maxRecDepth 20000 in
theorem ggX5_make_X0_madeValue : GoodIn wsX5_make wsX0_madeValue := goodIn_r _ [16, 17, 18, 19, 20, 21, 22, 23, 24, 10, 25, 26, 27, 28, 29, 30, 12, 31, 32, 5, 33, 34, 35, 36, 37, 38, 39, 40, 41, 42, 43, 44, 45, 46, 47, 48, 49, 50, 51, 52, 72, 73, 74, 75, 76, 77, 78] (by decide +kernel) (by decide +kernel)
set_option maxRecDepth 20000 in
theorem gX5_make_X0_madeValue : GoodIn wsX5_make (wsV RX5 146 RX0 yX0_madeValue wsX0_madeValue) := goodIn_app (goodIn_of _ (by decide +kernel)) ggX5_make_X0_madeValue
set_option maxRecDepth 20000 in
theorem ggX5_make_X5_settleMade : GoodIn wsX5_make wsX5_settleMade := goodIn_r _ [56, 1, 2, 57, 58, 59, 5, 60, 61, 7, 8, 9, 10, 11, 12, 62, 63, 64, 65, 66, 67, 68, 69, 70, 71, 72, 73, 74, 75, 76, 77, 78] (by decide +kernel) (by decide +kernel)
set_option maxRecDepth 20000 in
theorem gX5_make_X5_settleMade : GoodIn wsX5_make (wsV RX5 150 RX5 yX5_settleMade wsX5_settleMade) := goodIn_app (goodIn_of _ (by decide +kernel)) ggX5_make_X5_settleMade
theorem dX5_make_0 : decode cX5_make 0 = .ok (.iload_n 1, 1) := by decide +kernel
theorem dX5_make_1 : decode cX5_make 1 = .ok (.invokestatic 64, 3) := by decide +kernel
theorem dX5_make_4 : decode cX5_make 4 = .ok (.ifCond .eq 12, 3) := by decide +kernel
theorem dX5_make_7 : decode cX5_make 7 = .ok (.iload_n 2, 1) := by decide +kernel
theorem dX5_make_8 : decode cX5_make 8 = .ok (.ifCond .lt 8, 3) := by decide +kernel
theorem dX5_make_11 : decode cX5_make 11 = .ok (.iload_n 2, 1) := by decide +kernel
theorem dX5_make_12 : decode cX5_make 12 = .ok (.iconst 4, 1) := by decide +kernel
theorem dX5_make_13 : decode cX5_make 13 = .ok (.if_icmp .le 5, 3) := by decide +kernel
theorem dX5_make_16 : decode cX5_make 16 = .ok (.iconst (-1), 1) := by decide +kernel
theorem dX5_make_17 : decode cX5_make 17 = .ok (.ireturn, 1) := by decide +kernel
theorem dX5_make_18 : decode cX5_make 18 = .ok (.iconst 0, 1) := by decide +kernel
theorem dX5_make_19 : decode cX5_make 19 = .ok (.istore_n 3, 1) := by decide +kernel
theorem dX5_make_20 : decode cX5_make 20 = .ok (.iload_n 3, 1) := by decide +kernel
theorem dX5_make_21 : decode cX5_make 21 = .ok (.aload_n 0, 1) := by decide +kernel
theorem dX5_make_22 : decode cX5_make 22 = .ok (.getfield 14, 3) := by decide +kernel
theorem dX5_make_25 : decode cX5_make 25 = .ok (.invokevirtual 126, 3) := by decide +kernel
theorem dX5_make_28 : decode cX5_make 28 = .ok (.if_icmp .ge 32, 3) := by decide +kernel
theorem dX5_make_31 : decode cX5_make 31 = .ok (.aload_n 0, 1) := by decide +kernel
theorem dX5_make_32 : decode cX5_make 32 = .ok (.getfield 49, 3) := by decide +kernel
theorem dX5_make_35 : decode cX5_make 35 = .ok (.iload_n 3, 1) := by decide +kernel
theorem dX5_make_36 : decode cX5_make 36 = .ok (.iload_n 3, 1) := by decide +kernel
theorem dX5_make_37 : decode cX5_make 37 = .ok (.ifCond .ne 7, 3) := by decide +kernel
theorem dX5_make_40 : decode cX5_make 40 = .ok (.lconst 0, 1) := by decide +kernel
theorem dX5_make_41 : decode cX5_make 41 = .ok (.goto 12, 3) := by decide +kernel
theorem dX5_make_44 : decode cX5_make 44 = .ok (.aload_n 0, 1) := by decide +kernel
theorem dX5_make_45 : decode cX5_make 45 = .ok (.getfield 14, 3) := by decide +kernel
theorem dX5_make_48 : decode cX5_make 48 = .ok (.iload_n 2, 1) := by decide +kernel
theorem dX5_make_49 : decode cX5_make 49 = .ok (.iload_n 3, 1) := by decide +kernel
theorem dX5_make_50 : decode cX5_make 50 = .ok (.invokevirtual 146, 3) := by decide +kernel
theorem dX5_make_53 : decode cX5_make 53 = .ok (.lastore, 1) := by decide +kernel
theorem dX5_make_54 : decode cX5_make 54 = .ok (.iinc 3 1, 3) := by decide +kernel
theorem dX5_make_57 : decode cX5_make 57 = .ok (.goto (-37), 3) := by decide +kernel
theorem dX5_make_60 : decode cX5_make 60 = .ok (.aload_n 0, 1) := by decide +kernel
theorem dX5_make_61 : decode cX5_make 61 = .ok (.iload_n 1, 1) := by decide +kernel
theorem dX5_make_62 : decode cX5_make 62 = .ok (.invokevirtual 150, 3) := by decide +kernel
theorem dX5_make_65 : decode cX5_make 65 = .ok (.ireturn, 1) := by decide +kernel
set_option maxRecDepth 20000 in
theorem ggX5_pairs_X5_isGame : GoodIn wsX5_pairs wsX5_isGame := goodIn_r _ [10] (by decide +kernel) (by decide +kernel)
set_option maxRecDepth 20000 in
theorem gX5_pairs_X5_isGame : GoodIn wsX5_pairs (va_wsS RX5 64 yX5_isGame wsX5_isGame) := goodIn_app (goodIn_of _ (by decide +kernel)) ggX5_pairs_X5_isGame
set_option maxRecDepth 20000 in
theorem ggX5_pairs_X0_hasSet : GoodIn wsX5_pairs wsX0_hasSet := goodIn_r _ [15, 16, 17, 18, 14, 19, 20, 48, 49, 50, 51, 52, 53, 54] (by decide +kernel) (by decide +kernel)
set_option maxRecDepth 20000 in
theorem gX5_pairs_X0_hasSet : GoodIn wsX5_pairs (wsV RX5 68 RX0 yX0_hasSet wsX0_hasSet) := goodIn_app (goodIn_of _ (by decide +kernel)) ggX5_pairs_X0_hasSet
set_option maxRecDepth 20000 in
theorem ggX5_pairs_X0_sets : GoodIn wsX5_pairs wsX0_sets := goodIn_r _ [19, 20, 48, 49, 50, 51, 52, 53, 54] (by decide +kernel) (by decide +kernel)
set_option maxRecDepth 20000 in
theorem gX5_pairs_X0_sets : GoodIn wsX5_pairs (wsV RX5 126 RX0 yX0_sets wsX0_sets) := goodIn_app (goodIn_of _ (by decide +kernel)) ggX5_pairs_X0_sets
set_option maxRecDepth 20000 in
theorem ggX5_pairs_J6_bitCount_0f7a4 : GoodIn wsX5_pairs wsJ6_bitCount_0f7a4 := goodIn_r _ [25, 26, 27, 28] (by decide +kernel) (by decide +kernel)
set_option maxRecDepth 20000 in
theorem gX5_pairs_J6_bitCount_0f7a4 : GoodIn wsX5_pairs (va_wsS RX5 153 yJ6_bitCount_0f7a4 wsJ6_bitCount_0f7a4) := goodIn_app (goodIn_of _ (by decide +kernel)) ggX5_pairs_J6_bitCount_0f7a4
set_option maxRecDepth 20000 in
theorem ggX5_pairs_X5_settleMade : GoodIn wsX5_pairs wsX5_settleMade := goodIn_r _ [32, 1, 2, 33, 34, 35, 9, 36, 37, 21, 17, 18, 14, 19, 20, 38, 39, 40, 41, 42, 43, 44, 45, 46, 47, 48, 49, 50, 51, 52, 53, 54] (by decide +kernel) (by decide +kernel)
set_option maxRecDepth 20000 in
theorem gX5_pairs_X5_settleMade : GoodIn wsX5_pairs (wsV RX5 150 RX5 yX5_settleMade wsX5_settleMade) := goodIn_app (goodIn_of _ (by decide +kernel)) ggX5_pairs_X5_settleMade
theorem dX5_pairs_0 : decode cX5_pairs 0 = .ok (.iload_n 1, 1) := by decide +kernel
theorem dX5_pairs_1 : decode cX5_pairs 1 = .ok (.invokestatic 64, 3) := by decide +kernel
theorem dX5_pairs_4 : decode cX5_pairs 4 = .ok (.ifCond .ne 5, 3) := by decide +kernel
theorem dX5_pairs_7 : decode cX5_pairs 7 = .ok (.iconst (-1), 1) := by decide +kernel
theorem dX5_pairs_8 : decode cX5_pairs 8 = .ok (.ireturn, 1) := by decide +kernel
theorem dX5_pairs_9 : decode cX5_pairs 9 = .ok (.aload_n 0, 1) := by decide +kernel
theorem dX5_pairs_10 : decode cX5_pairs 10 = .ok (.getfield 14, 3) := by decide +kernel
theorem dX5_pairs_13 : decode cX5_pairs 13 = .ok (.iload_n 2, 1) := by decide +kernel
theorem dX5_pairs_14 : decode cX5_pairs 14 = .ok (.invokevirtual 68, 3) := by decide +kernel
theorem dX5_pairs_17 : decode cX5_pairs 17 = .ok (.ifCond .eq 14, 3) := by decide +kernel
theorem dX5_pairs_20 : decode cX5_pairs 20 = .ok (.aload_n 0, 1) := by decide +kernel
theorem dX5_pairs_21 : decode cX5_pairs 21 = .ok (.getfield 14, 3) := by decide +kernel
theorem dX5_pairs_24 : decode cX5_pairs 24 = .ok (.iload_n 3, 1) := by decide +kernel
theorem dX5_pairs_25 : decode cX5_pairs 25 = .ok (.invokevirtual 68, 3) := by decide +kernel
theorem dX5_pairs_28 : decode cX5_pairs 28 = .ok (.ifCond .ne 6, 3) := by decide +kernel
theorem dX5_pairs_31 : decode cX5_pairs 31 = .ok (.bipush (-2), 2) := by decide +kernel
theorem dX5_pairs_33 : decode cX5_pairs 33 = .ok (.ireturn, 1) := by decide +kernel
theorem dX5_pairs_34 : decode cX5_pairs 34 = .ok (.iconst 0, 1) := by decide +kernel
theorem dX5_pairs_35 : decode cX5_pairs 35 = .ok (.istore 4, 2) := by decide +kernel
theorem dX5_pairs_37 : decode cX5_pairs 37 = .ok (.iload 4, 2) := by decide +kernel
theorem dX5_pairs_39 : decode cX5_pairs 39 = .ok (.aload_n 0, 1) := by decide +kernel
theorem dX5_pairs_40 : decode cX5_pairs 40 = .ok (.getfield 14, 3) := by decide +kernel
theorem dX5_pairs_43 : decode cX5_pairs 43 = .ok (.invokevirtual 126, 3) := by decide +kernel
theorem dX5_pairs_46 : decode cX5_pairs 46 = .ok (.if_icmp .ge 34, 3) := by decide +kernel
theorem dX5_pairs_49 : decode cX5_pairs 49 = .ok (.aload_n 0, 1) := by decide +kernel
theorem dX5_pairs_50 : decode cX5_pairs 50 = .ok (.getfield 49, 3) := by decide +kernel
theorem dX5_pairs_53 : decode cX5_pairs 53 = .ok (.iload 4, 2) := by decide +kernel
theorem dX5_pairs_55 : decode cX5_pairs 55 = .ok (.iload 4, 2) := by decide +kernel
theorem dX5_pairs_57 : decode cX5_pairs 57 = .ok (.iload_n 2, 1) := by decide +kernel
theorem dX5_pairs_58 : decode cX5_pairs 58 = .ok (.iand, 1) := by decide +kernel
theorem dX5_pairs_59 : decode cX5_pairs 59 = .ok (.invokestatic 153, 3) := by decide +kernel
theorem dX5_pairs_62 : decode cX5_pairs 62 = .ok (.iload 4, 2) := by decide +kernel
theorem dX5_pairs_64 : decode cX5_pairs 64 = .ok (.iload_n 3, 1) := by decide +kernel
theorem dX5_pairs_65 : decode cX5_pairs 65 = .ok (.iand, 1) := by decide +kernel
theorem dX5_pairs_66 : decode cX5_pairs 66 = .ok (.invokestatic 153, 3) := by decide +kernel
theorem dX5_pairs_69 : decode cX5_pairs 69 = .ok (.invokestatic 158, 3) := by decide +kernel
theorem dX5_pairs_72 : decode cX5_pairs 72 = .ok (.i2l, 1) := by decide +kernel
theorem dX5_pairs_73 : decode cX5_pairs 73 = .ok (.lastore, 1) := by decide +kernel
theorem dX5_pairs_74 : decode cX5_pairs 74 = .ok (.iinc 4 1, 3) := by decide +kernel
theorem dX5_pairs_77 : decode cX5_pairs 77 = .ok (.goto (-40), 3) := by decide +kernel
theorem dX5_pairs_80 : decode cX5_pairs 80 = .ok (.aload_n 0, 1) := by decide +kernel
theorem dX5_pairs_81 : decode cX5_pairs 81 = .ok (.iload_n 1, 1) := by decide +kernel
theorem dX5_pairs_82 : decode cX5_pairs 82 = .ok (.invokevirtual 150, 3) := by decide +kernel
theorem dX5_pairs_85 : decode cX5_pairs 85 = .ok (.ireturn, 1) := by decide +kernel
set_option maxRecDepth 20000 in
theorem ggX5_copy_X5_isGame : GoodIn wsX5_copy wsX5_isGame := goodIn_r _ [11] (by decide +kernel) (by decide +kernel)
set_option maxRecDepth 20000 in
theorem gX5_copy_X5_isGame : GoodIn wsX5_copy (va_wsS RX5 64 yX5_isGame wsX5_isGame) := goodIn_app (goodIn_of _ (by decide +kernel)) ggX5_copy_X5_isGame
set_option maxRecDepth 20000 in
theorem ggX5_copy_X0_sets : GoodIn wsX5_copy wsX0_sets := goodIn_r _ [16, 17, 32, 33, 34, 35, 36, 37, 38] (by decide +kernel) (by decide +kernel)
set_option maxRecDepth 20000 in
theorem gX5_copy_X0_sets : GoodIn wsX5_copy (wsV RX5 126 RX0 yX0_sets wsX0_sets) := goodIn_app (goodIn_of _ (by decide +kernel)) ggX5_copy_X0_sets
set_option maxRecDepth 20000 in
theorem ggX5_copy_X5_settle : GoodIn wsX5_copy wsX5_settle := goodIn_r _ [21, 1, 2, 3, 12, 13, 14, 15, 16, 17, 22, 23, 24, 25, 26, 27, 28, 29, 30, 31, 32, 33, 34, 35, 36, 37, 38] (by decide +kernel) (by decide +kernel)
set_option maxRecDepth 20000 in
theorem gX5_copy_X5_settle : GoodIn wsX5_copy (wsV RX5 143 RX5 yX5_settle wsX5_settle) := goodIn_app (goodIn_of _ (by decide +kernel)) ggX5_copy_X5_settle
theorem dX5_copy_0 : decode cX5_copy 0 = .ok (.iload_n 1, 1) := by decide +kernel
theorem dX5_copy_1 : decode cX5_copy 1 = .ok (.invokestatic 64, 3) := by decide +kernel
theorem dX5_copy_4 : decode cX5_copy 4 = .ok (.ifCond .eq 10, 3) := by decide +kernel
theorem dX5_copy_7 : decode cX5_copy 7 = .ok (.iload_n 2, 1) := by decide +kernel
theorem dX5_copy_8 : decode cX5_copy 8 = .ok (.invokestatic 64, 3) := by decide +kernel
theorem dX5_copy_11 : decode cX5_copy 11 = .ok (.ifCond .ne 5, 3) := by decide +kernel
theorem dX5_copy_14 : decode cX5_copy 14 = .ok (.iconst (-1), 1) := by decide +kernel
theorem dX5_copy_15 : decode cX5_copy 15 = .ok (.ireturn, 1) := by decide +kernel
theorem dX5_copy_16 : decode cX5_copy 16 = .ok (.aload_n 0, 1) := by decide +kernel
theorem dX5_copy_17 : decode cX5_copy 17 = .ok (.getfield 14, 3) := by decide +kernel
theorem dX5_copy_20 : decode cX5_copy 20 = .ok (.getfield 75, 3) := by decide +kernel
theorem dX5_copy_23 : decode cX5_copy 23 = .ok (.iload_n 2, 1) := by decide +kernel
theorem dX5_copy_24 : decode cX5_copy 24 = .ok (.aaload, 1) := by decide +kernel
theorem dX5_copy_25 : decode cX5_copy 25 = .ok (.iconst 0, 1) := by decide +kernel
theorem dX5_copy_26 : decode cX5_copy 26 = .ok (.aload_n 0, 1) := by decide +kernel
theorem dX5_copy_27 : decode cX5_copy 27 = .ok (.getfield 49, 3) := by decide +kernel
theorem dX5_copy_30 : decode cX5_copy 30 = .ok (.iconst 0, 1) := by decide +kernel
theorem dX5_copy_31 : decode cX5_copy 31 = .ok (.aload_n 0, 1) := by decide +kernel
theorem dX5_copy_32 : decode cX5_copy 32 = .ok (.getfield 14, 3) := by decide +kernel
theorem dX5_copy_35 : decode cX5_copy 35 = .ok (.invokevirtual 126, 3) := by decide +kernel
theorem dX5_copy_38 : decode cX5_copy 38 = .ok (.invokestatic 130, 3) := by decide +kernel
theorem dX5_copy_41 : decode cX5_copy 41 = .ok (.aload_n 0, 1) := by decide +kernel
theorem dX5_copy_42 : decode cX5_copy 42 = .ok (.iload_n 1, 1) := by decide +kernel
theorem dX5_copy_43 : decode cX5_copy 43 = .ok (.invokevirtual 143, 3) := by decide +kernel
theorem dX5_copy_46 : decode cX5_copy 46 = .ok (.pop, 1) := by decide +kernel
theorem dX5_copy_47 : decode cX5_copy 47 = .ok (.iconst 1, 1) := by decide +kernel
theorem dX5_copy_48 : decode cX5_copy 48 = .ok (.ireturn, 1) := by decide +kernel
set_option maxRecDepth 20000 in
theorem ggX5_add_X5_isGame : GoodIn wsX5_add wsX5_isGame := goodIn_r _ [8] (by decide +kernel) (by decide +kernel)
set_option maxRecDepth 20000 in
theorem gX5_add_X5_isGame : GoodIn wsX5_add (va_wsS RX5 64 yX5_isGame wsX5_isGame) := goodIn_app (goodIn_of _ (by decide +kernel)) ggX5_add_X5_isGame
set_option maxRecDepth 20000 in
theorem ggX5_add_X1_begin : GoodIn wsX5_add wsX1_begin := goodIn_r _ [13, 14, 51] (by decide +kernel) (by decide +kernel)
set_option maxRecDepth 20000 in
theorem gX5_add_X1_begin : GoodIn wsX5_add (wsV RX5 163 RX1 yX1_begin wsX1_begin) := goodIn_app (goodIn_of _ (by decide +kernel)) ggX5_add_X1_begin
set_option maxRecDepth 20000 in
theorem ggX5_add_X0_sets : GoodIn wsX5_add wsX0_sets := goodIn_r _ [19, 20, 44, 45, 46, 47, 48, 49, 50] (by decide +kernel) (by decide +kernel)
set_option maxRecDepth 20000 in
theorem gX5_add_X0_sets : GoodIn wsX5_add (wsV RX5 126 RX0 yX0_sets wsX0_sets) := goodIn_app (goodIn_of _ (by decide +kernel)) ggX5_add_X0_sets
set_option maxRecDepth 20000 in
theorem ggX5_add_X1_plus : GoodIn wsX5_add wsX1_plus := goodIn_r _ [24, 14, 51] (by decide +kernel) (by decide +kernel)
set_option maxRecDepth 20000 in
theorem gX5_add_X1_plus : GoodIn wsX5_add (wsV RX5 165 RX1 yX1_plus wsX1_plus) := goodIn_app (goodIn_of _ (by decide +kernel)) ggX5_add_X1_plus
set_option maxRecDepth 20000 in
theorem ggX5_add_X5_settleUnlessBeyond : GoodIn wsX5_add wsX5_settleUnlessBeyond := goodIn_r _ [28, 1, 29, 30, 31, 32, 7, 33, 2, 4, 3, 15, 16, 17, 18, 19, 20, 34, 35, 36, 37, 38, 39, 40, 41, 42, 43, 51, 44, 45, 46, 47, 48, 49, 50] (by decide +kernel) (by decide +kernel)
set_option maxRecDepth 20000 in
theorem gX5_add_X5_settleUnlessBeyond : GoodIn wsX5_add (wsV RX5 169 RX5 yX5_settleUnlessBeyond wsX5_settleUnlessBeyond) := goodIn_app (goodIn_of _ (by decide +kernel)) ggX5_add_X5_settleUnlessBeyond
theorem dX5_add_0 : decode cX5_add 0 = .ok (.iload_n 1, 1) := by decide +kernel
theorem dX5_add_1 : decode cX5_add 1 = .ok (.invokestatic 64, 3) := by decide +kernel
theorem dX5_add_4 : decode cX5_add 4 = .ok (.ifCond .eq 10, 3) := by decide +kernel
theorem dX5_add_7 : decode cX5_add 7 = .ok (.iload_n 2, 1) := by decide +kernel
theorem dX5_add_8 : decode cX5_add 8 = .ok (.invokestatic 64, 3) := by decide +kernel
theorem dX5_add_11 : decode cX5_add 11 = .ok (.ifCond .ne 5, 3) := by decide +kernel
theorem dX5_add_14 : decode cX5_add 14 = .ok (.iconst (-1), 1) := by decide +kernel
theorem dX5_add_15 : decode cX5_add 15 = .ok (.ireturn, 1) := by decide +kernel
theorem dX5_add_16 : decode cX5_add 16 = .ok (.aload_n 0, 1) := by decide +kernel
theorem dX5_add_17 : decode cX5_add 17 = .ok (.getfield 45, 3) := by decide +kernel
theorem dX5_add_20 : decode cX5_add 20 = .ok (.invokevirtual 163, 3) := by decide +kernel
theorem dX5_add_23 : decode cX5_add 23 = .ok (.iconst 0, 1) := by decide +kernel
theorem dX5_add_24 : decode cX5_add 24 = .ok (.istore_n 3, 1) := by decide +kernel
theorem dX5_add_25 : decode cX5_add 25 = .ok (.iload_n 3, 1) := by decide +kernel
theorem dX5_add_26 : decode cX5_add 26 = .ok (.aload_n 0, 1) := by decide +kernel
theorem dX5_add_27 : decode cX5_add 27 = .ok (.getfield 14, 3) := by decide +kernel
theorem dX5_add_30 : decode cX5_add 30 = .ok (.invokevirtual 126, 3) := by decide +kernel
theorem dX5_add_33 : decode cX5_add 33 = .ok (.if_icmp .ge 44, 3) := by decide +kernel
theorem dX5_add_36 : decode cX5_add 36 = .ok (.aload_n 0, 1) := by decide +kernel
theorem dX5_add_37 : decode cX5_add 37 = .ok (.getfield 49, 3) := by decide +kernel
theorem dX5_add_40 : decode cX5_add 40 = .ok (.iload_n 3, 1) := by decide +kernel
theorem dX5_add_41 : decode cX5_add 41 = .ok (.aload_n 0, 1) := by decide +kernel
theorem dX5_add_42 : decode cX5_add 42 = .ok (.getfield 45, 3) := by decide +kernel
theorem dX5_add_45 : decode cX5_add 45 = .ok (.aload_n 0, 1) := by decide +kernel
theorem dX5_add_46 : decode cX5_add 46 = .ok (.getfield 14, 3) := by decide +kernel
theorem dX5_add_49 : decode cX5_add 49 = .ok (.getfield 75, 3) := by decide +kernel
theorem dX5_add_52 : decode cX5_add 52 = .ok (.iload_n 1, 1) := by decide +kernel
theorem dX5_add_53 : decode cX5_add 53 = .ok (.aaload, 1) := by decide +kernel
theorem dX5_add_54 : decode cX5_add 54 = .ok (.iload_n 3, 1) := by decide +kernel
theorem dX5_add_55 : decode cX5_add 55 = .ok (.laload, 1) := by decide +kernel
theorem dX5_add_56 : decode cX5_add 56 = .ok (.aload_n 0, 1) := by decide +kernel
theorem dX5_add_57 : decode cX5_add 57 = .ok (.getfield 14, 3) := by decide +kernel
theorem dX5_add_60 : decode cX5_add 60 = .ok (.getfield 75, 3) := by decide +kernel
theorem dX5_add_63 : decode cX5_add 63 = .ok (.iload_n 2, 1) := by decide +kernel
theorem dX5_add_64 : decode cX5_add 64 = .ok (.aaload, 1) := by decide +kernel
theorem dX5_add_65 : decode cX5_add 65 = .ok (.iload_n 3, 1) := by decide +kernel
theorem dX5_add_66 : decode cX5_add 66 = .ok (.laload, 1) := by decide +kernel
theorem dX5_add_67 : decode cX5_add 67 = .ok (.invokevirtual 165, 3) := by decide +kernel
theorem dX5_add_70 : decode cX5_add 70 = .ok (.lastore, 1) := by decide +kernel
theorem dX5_add_71 : decode cX5_add 71 = .ok (.iinc 3 1, 3) := by decide +kernel
theorem dX5_add_74 : decode cX5_add 74 = .ok (.goto (-49), 3) := by decide +kernel
theorem dX5_add_77 : decode cX5_add 77 = .ok (.aload_n 0, 1) := by decide +kernel
theorem dX5_add_78 : decode cX5_add 78 = .ok (.iload_n 1, 1) := by decide +kernel
theorem dX5_add_79 : decode cX5_add 79 = .ok (.invokevirtual 169, 3) := by decide +kernel
theorem dX5_add_82 : decode cX5_add 82 = .ok (.ireturn, 1) := by decide +kernel
set_option maxRecDepth 20000 in
theorem ggX5_times_X5_isGame : GoodIn wsX5_times wsX5_isGame := goodIn_r _ [8] (by decide +kernel) (by decide +kernel)
set_option maxRecDepth 20000 in
theorem gX5_times_X5_isGame : GoodIn wsX5_times (va_wsS RX5 64 yX5_isGame wsX5_isGame) := goodIn_app (goodIn_of _ (by decide +kernel)) ggX5_times_X5_isGame
set_option maxRecDepth 20000 in
theorem ggX5_times_X1_begin : GoodIn wsX5_times wsX1_begin := goodIn_r _ [13, 14, 53] (by decide +kernel) (by decide +kernel)
set_option maxRecDepth 20000 in
theorem gX5_times_X1_begin : GoodIn wsX5_times (wsV RX5 163 RX1 yX1_begin wsX1_begin) := goodIn_app (goodIn_of _ (by decide +kernel)) ggX5_times_X1_begin
set_option maxRecDepth 20000 in
theorem ggX5_times_X0_sets : GoodIn wsX5_times wsX0_sets := goodIn_r _ [19, 20, 46, 47, 48, 49, 50, 51, 52] (by decide +kernel) (by decide +kernel)
set_option maxRecDepth 20000 in
theorem gX5_times_X0_sets : GoodIn wsX5_times (wsV RX5 126 RX0 yX0_sets wsX0_sets) := goodIn_app (goodIn_of _ (by decide +kernel)) ggX5_times_X0_sets
set_option maxRecDepth 20000 in
theorem ggX5_times_X1_product : GoodIn wsX5_times wsX1_product := goodIn_r _ [24, 25, 26, 14, 53] (by decide +kernel) (by decide +kernel)
set_option maxRecDepth 20000 in
theorem gX5_times_X1_product : GoodIn wsX5_times (wsV RX5 172 RX1 yX1_product wsX1_product) := goodIn_app (goodIn_of _ (by decide +kernel)) ggX5_times_X1_product
set_option maxRecDepth 20000 in
theorem ggX5_times_X5_settleUnlessBeyond : GoodIn wsX5_times wsX5_settleUnlessBeyond := goodIn_r _ [30, 1, 31, 32, 33, 34, 7, 35, 2, 4, 3, 15, 16, 17, 18, 19, 20, 36, 37, 38, 39, 40, 41, 42, 43, 44, 45, 53, 46, 47, 48, 49, 50, 51, 52] (by decide +kernel) (by decide +kernel)
set_option maxRecDepth 20000 in
theorem gX5_times_X5_settleUnlessBeyond : GoodIn wsX5_times (wsV RX5 169 RX5 yX5_settleUnlessBeyond wsX5_settleUnlessBeyond) := goodIn_app (goodIn_of _ (by decide +kernel)) ggX5_times_X5_settleUnlessBeyond
theorem dX5_times_0 : decode cX5_times 0 = .ok (.iload_n 1, 1) := by decide +kernel
theorem dX5_times_1 : decode cX5_times 1 = .ok (.invokestatic 64, 3) := by decide +kernel
theorem dX5_times_4 : decode cX5_times 4 = .ok (.ifCond .ne 5, 3) := by decide +kernel
theorem dX5_times_7 : decode cX5_times 7 = .ok (.iconst (-1), 1) := by decide +kernel
theorem dX5_times_8 : decode cX5_times 8 = .ok (.ireturn, 1) := by decide +kernel
theorem dX5_times_9 : decode cX5_times 9 = .ok (.iload_n 2, 1) := by decide +kernel
theorem dX5_times_10 : decode cX5_times 10 = .ok (.sipush (-1000), 3) := by decide +kernel
theorem dX5_times_13 : decode cX5_times 13 = .ok (.if_icmp .lt 10, 3) := by decide +kernel
theorem dX5_times_16 : decode cX5_times 16 = .ok (.iload_n 2, 1) := by decide +kernel
theorem dX5_times_17 : decode cX5_times 17 = .ok (.sipush 1000, 3) := by decide +kernel
theorem dX5_times_20 : decode cX5_times 20 = .ok (.if_icmp .le 6, 3) := by decide +kernel
theorem dX5_times_23 : decode cX5_times 23 = .ok (.bipush (-2), 2) := by decide +kernel
theorem dX5_times_25 : decode cX5_times 25 = .ok (.ireturn, 1) := by decide +kernel
theorem dX5_times_26 : decode cX5_times 26 = .ok (.aload_n 0, 1) := by decide +kernel
theorem dX5_times_27 : decode cX5_times 27 = .ok (.getfield 45, 3) := by decide +kernel
theorem dX5_times_30 : decode cX5_times 30 = .ok (.invokevirtual 163, 3) := by decide +kernel
theorem dX5_times_33 : decode cX5_times 33 = .ok (.iconst 0, 1) := by decide +kernel
theorem dX5_times_34 : decode cX5_times 34 = .ok (.istore_n 3, 1) := by decide +kernel
theorem dX5_times_35 : decode cX5_times 35 = .ok (.iload_n 3, 1) := by decide +kernel
theorem dX5_times_36 : decode cX5_times 36 = .ok (.aload_n 0, 1) := by decide +kernel
theorem dX5_times_37 : decode cX5_times 37 = .ok (.getfield 14, 3) := by decide +kernel
theorem dX5_times_40 : decode cX5_times 40 = .ok (.invokevirtual 126, 3) := by decide +kernel
theorem dX5_times_43 : decode cX5_times 43 = .ok (.if_icmp .ge 35, 3) := by decide +kernel
theorem dX5_times_46 : decode cX5_times 46 = .ok (.aload_n 0, 1) := by decide +kernel
theorem dX5_times_47 : decode cX5_times 47 = .ok (.getfield 49, 3) := by decide +kernel
theorem dX5_times_50 : decode cX5_times 50 = .ok (.iload_n 3, 1) := by decide +kernel
theorem dX5_times_51 : decode cX5_times 51 = .ok (.aload_n 0, 1) := by decide +kernel
theorem dX5_times_52 : decode cX5_times 52 = .ok (.getfield 45, 3) := by decide +kernel
theorem dX5_times_55 : decode cX5_times 55 = .ok (.aload_n 0, 1) := by decide +kernel
theorem dX5_times_56 : decode cX5_times 56 = .ok (.getfield 14, 3) := by decide +kernel
theorem dX5_times_59 : decode cX5_times 59 = .ok (.getfield 75, 3) := by decide +kernel
theorem dX5_times_62 : decode cX5_times 62 = .ok (.iload_n 1, 1) := by decide +kernel
theorem dX5_times_63 : decode cX5_times 63 = .ok (.aaload, 1) := by decide +kernel
theorem dX5_times_64 : decode cX5_times 64 = .ok (.iload_n 3, 1) := by decide +kernel
theorem dX5_times_65 : decode cX5_times 65 = .ok (.laload, 1) := by decide +kernel
theorem dX5_times_66 : decode cX5_times 66 = .ok (.iload_n 2, 1) := by decide +kernel
theorem dX5_times_67 : decode cX5_times 67 = .ok (.i2l, 1) := by decide +kernel
theorem dX5_times_68 : decode cX5_times 68 = .ok (.invokevirtual 172, 3) := by decide +kernel
theorem dX5_times_71 : decode cX5_times 71 = .ok (.lastore, 1) := by decide +kernel
theorem dX5_times_72 : decode cX5_times 72 = .ok (.iinc 3 1, 3) := by decide +kernel
theorem dX5_times_75 : decode cX5_times 75 = .ok (.goto (-40), 3) := by decide +kernel
theorem dX5_times_78 : decode cX5_times 78 = .ok (.aload_n 0, 1) := by decide +kernel
theorem dX5_times_79 : decode cX5_times 79 = .ok (.iload_n 1, 1) := by decide +kernel
theorem dX5_times_80 : decode cX5_times 80 = .ok (.invokevirtual 169, 3) := by decide +kernel
theorem dX5_times_83 : decode cX5_times 83 = .ok (.ireturn, 1) := by decide +kernel
set_option maxRecDepth 20000 in
theorem ggX5_dual_X5_isGame : GoodIn wsX5_dual wsX5_isGame := goodIn_r _ [8] (by decide +kernel) (by decide +kernel)
set_option maxRecDepth 20000 in
theorem gX5_dual_X5_isGame : GoodIn wsX5_dual (va_wsS RX5 64 yX5_isGame wsX5_isGame) := goodIn_app (goodIn_of _ (by decide +kernel)) ggX5_dual_X5_isGame
set_option maxRecDepth 20000 in
theorem ggX5_dual_X0_everyone : GoodIn wsX5_dual wsX0_everyone := goodIn_r _ [13, 14, 48, 49, 50, 51, 52, 53, 54] (by decide +kernel) (by decide +kernel)
set_option maxRecDepth 20000 in
theorem gX5_dual_X0_everyone : GoodIn wsX5_dual (wsV RX5 175 RX0 yX0_everyone wsX0_everyone) := goodIn_app (goodIn_of _ (by decide +kernel)) ggX5_dual_X0_everyone
set_option maxRecDepth 20000 in
theorem ggX5_dual_X1_begin : GoodIn wsX5_dual wsX1_begin := goodIn_r _ [19, 20, 55] (by decide +kernel) (by decide +kernel)
set_option maxRecDepth 20000 in
theorem gX5_dual_X1_begin : GoodIn wsX5_dual (wsV RX5 163 RX1 yX1_begin wsX1_begin) := goodIn_app (goodIn_of _ (by decide +kernel)) ggX5_dual_X1_begin
set_option maxRecDepth 20000 in
theorem ggX5_dual_X1_less : GoodIn wsX5_dual wsX1_less := goodIn_r _ [24, 20, 55] (by decide +kernel) (by decide +kernel)
set_option maxRecDepth 20000 in
theorem gX5_dual_X1_less : GoodIn wsX5_dual (wsV RX5 178 RX1 yX1_less wsX1_less) := goodIn_app (goodIn_of _ (by decide +kernel)) ggX5_dual_X1_less
set_option maxRecDepth 20000 in
theorem ggX5_dual_X5_settleUnlessBeyond : GoodIn wsX5_dual wsX5_settleUnlessBeyond := goodIn_r _ [28, 3, 29, 30, 31, 32, 7, 33, 1, 2, 4, 34, 35, 36, 12, 37, 14, 38, 39, 40, 41, 42, 43, 44, 45, 46, 47, 55, 48, 49, 50, 51, 52, 53, 54] (by decide +kernel) (by decide +kernel)
set_option maxRecDepth 20000 in
theorem gX5_dual_X5_settleUnlessBeyond : GoodIn wsX5_dual (wsV RX5 169 RX5 yX5_settleUnlessBeyond wsX5_settleUnlessBeyond) := goodIn_app (goodIn_of _ (by decide +kernel)) ggX5_dual_X5_settleUnlessBeyond
theorem dX5_dual_0 : decode cX5_dual 0 = .ok (.iload_n 1, 1) := by decide +kernel
theorem dX5_dual_1 : decode cX5_dual 1 = .ok (.invokestatic 64, 3) := by decide +kernel
theorem dX5_dual_4 : decode cX5_dual 4 = .ok (.ifCond .ne 5, 3) := by decide +kernel
theorem dX5_dual_7 : decode cX5_dual 7 = .ok (.iconst (-1), 1) := by decide +kernel
theorem dX5_dual_8 : decode cX5_dual 8 = .ok (.ireturn, 1) := by decide +kernel
theorem dX5_dual_9 : decode cX5_dual 9 = .ok (.aload_n 0, 1) := by decide +kernel
theorem dX5_dual_10 : decode cX5_dual 10 = .ok (.getfield 14, 3) := by decide +kernel
theorem dX5_dual_13 : decode cX5_dual 13 = .ok (.getfield 75, 3) := by decide +kernel
theorem dX5_dual_16 : decode cX5_dual 16 = .ok (.iload_n 1, 1) := by decide +kernel
theorem dX5_dual_17 : decode cX5_dual 17 = .ok (.aaload, 1) := by decide +kernel
theorem dX5_dual_18 : decode cX5_dual 18 = .ok (.astore_n 2, 1) := by decide +kernel
theorem dX5_dual_19 : decode cX5_dual 19 = .ok (.aload_n 0, 1) := by decide +kernel
theorem dX5_dual_20 : decode cX5_dual 20 = .ok (.getfield 14, 3) := by decide +kernel
theorem dX5_dual_23 : decode cX5_dual 23 = .ok (.invokevirtual 175, 3) := by decide +kernel
theorem dX5_dual_26 : decode cX5_dual 26 = .ok (.istore_n 3, 1) := by decide +kernel
theorem dX5_dual_27 : decode cX5_dual 27 = .ok (.aload_n 0, 1) := by decide +kernel
theorem dX5_dual_28 : decode cX5_dual 28 = .ok (.getfield 45, 3) := by decide +kernel
theorem dX5_dual_31 : decode cX5_dual 31 = .ok (.invokevirtual 163, 3) := by decide +kernel
theorem dX5_dual_34 : decode cX5_dual 34 = .ok (.iconst 0, 1) := by decide +kernel
theorem dX5_dual_35 : decode cX5_dual 35 = .ok (.istore 4, 2) := by decide +kernel
theorem dX5_dual_37 : decode cX5_dual 37 = .ok (.iload 4, 2) := by decide +kernel
theorem dX5_dual_39 : decode cX5_dual 39 = .ok (.iload_n 3, 1) := by decide +kernel
theorem dX5_dual_40 : decode cX5_dual 40 = .ok (.if_icmp .gt 32, 3) := by decide +kernel
theorem dX5_dual_43 : decode cX5_dual 43 = .ok (.aload_n 0, 1) := by decide +kernel
theorem dX5_dual_44 : decode cX5_dual 44 = .ok (.getfield 49, 3) := by decide +kernel
theorem dX5_dual_47 : decode cX5_dual 47 = .ok (.iload 4, 2) := by decide +kernel
theorem dX5_dual_49 : decode cX5_dual 49 = .ok (.aload_n 0, 1) := by decide +kernel
theorem dX5_dual_50 : decode cX5_dual 50 = .ok (.getfield 45, 3) := by decide +kernel
theorem dX5_dual_53 : decode cX5_dual 53 = .ok (.aload_n 2, 1) := by decide +kernel
theorem dX5_dual_54 : decode cX5_dual 54 = .ok (.iload_n 3, 1) := by decide +kernel
theorem dX5_dual_55 : decode cX5_dual 55 = .ok (.laload, 1) := by decide +kernel
theorem dX5_dual_56 : decode cX5_dual 56 = .ok (.aload_n 2, 1) := by decide +kernel
theorem dX5_dual_57 : decode cX5_dual 57 = .ok (.iload_n 3, 1) := by decide +kernel
theorem dX5_dual_58 : decode cX5_dual 58 = .ok (.iload 4, 2) := by decide +kernel
theorem dX5_dual_60 : decode cX5_dual 60 = .ok (.ixor, 1) := by decide +kernel
theorem dX5_dual_61 : decode cX5_dual 61 = .ok (.laload, 1) := by decide +kernel
theorem dX5_dual_62 : decode cX5_dual 62 = .ok (.invokevirtual 178, 3) := by decide +kernel
theorem dX5_dual_65 : decode cX5_dual 65 = .ok (.lastore, 1) := by decide +kernel
theorem dX5_dual_66 : decode cX5_dual 66 = .ok (.iinc 4 1, 3) := by decide +kernel
theorem dX5_dual_69 : decode cX5_dual 69 = .ok (.goto (-32), 3) := by decide +kernel
theorem dX5_dual_72 : decode cX5_dual 72 = .ok (.aload_n 0, 1) := by decide +kernel
theorem dX5_dual_73 : decode cX5_dual 73 = .ok (.iload_n 1, 1) := by decide +kernel
theorem dX5_dual_74 : decode cX5_dual 74 = .ok (.invokevirtual 169, 3) := by decide +kernel
theorem dX5_dual_77 : decode cX5_dual 77 = .ok (.ireturn, 1) := by decide +kernel
set_option maxRecDepth 20000 in
theorem ggX5_cover_X5_isGame : GoodIn wsX5_cover wsX5_isGame := goodIn_r _ [9] (by decide +kernel) (by decide +kernel)
set_option maxRecDepth 20000 in
theorem gX5_cover_X5_isGame : GoodIn wsX5_cover (va_wsS RX5 64 yX5_isGame wsX5_isGame) := goodIn_app (goodIn_of _ (by decide +kernel)) ggX5_cover_X5_isGame
set_option maxRecDepth 20000 in
theorem ggX5_cover_X1_begin : GoodIn wsX5_cover wsX1_begin := goodIn_r _ [14, 15, 71] (by decide +kernel) (by decide +kernel)
set_option maxRecDepth 20000 in
theorem gX5_cover_X1_begin : GoodIn wsX5_cover (wsV RX5 163 RX1 yX1_begin wsX1_begin) := goodIn_app (goodIn_of _ (by decide +kernel)) ggX5_cover_X1_begin
set_option maxRecDepth 20000 in
theorem ggX5_cover_X0_sets : GoodIn wsX5_cover wsX0_sets := goodIn_r _ [20, 21, 64, 65, 66, 67, 68, 69, 70] (by decide +kernel) (by decide +kernel)
set_option maxRecDepth 20000 in
theorem gX5_cover_X0_sets : GoodIn wsX5_cover (wsV RX5 126 RX0 yX0_sets wsX0_sets) := goodIn_app (goodIn_of _ (by decide +kernel)) ggX5_cover_X0_sets
set_option maxRecDepth 20000 in
theorem ggX5_cover_X5_bestSplit : GoodIn wsX5_cover wsX5_bestSplit := goodIn_r _ [25, 1, 2, 26, 27, 28, 29, 30, 31, 8, 32, 33, 34, 35, 36, 37, 38, 39, 40, 41, 42, 43, 44, 45, 46, 47, 48, 13, 49, 15, 54, 55, 56, 57, 58, 59, 60, 61, 62, 63, 71] (by decide +kernel) (by decide +kernel)
set_option maxRecDepth 20000 in
theorem gX5_cover_X5_bestSplit : GoodIn wsX5_cover (wsV RX5 181 RX5 yX5_bestSplit wsX5_bestSplit) := goodIn_app (goodIn_of _ (by decide +kernel)) ggX5_cover_X5_bestSplit
set_option maxRecDepth 20000 in
theorem ggX5_cover_X5_settle : GoodIn wsX5_cover wsX5_settle := goodIn_r _ [53, 3, 4, 2, 16, 17, 18, 19, 20, 21, 54, 55, 56, 57, 58, 59, 60, 61, 62, 63, 64, 65, 66, 67, 68, 69, 70] (by decide +kernel) (by decide +kernel)
set_option maxRecDepth 20000 in
theorem gX5_cover_X5_settle : GoodIn wsX5_cover (wsV RX5 143 RX5 yX5_settle wsX5_settle) := goodIn_app (goodIn_of _ (by decide +kernel)) ggX5_cover_X5_settle
theorem dX5_cover_0 : decode cX5_cover 0 = .ok (.iload_n 1, 1) := by decide +kernel
theorem dX5_cover_1 : decode cX5_cover 1 = .ok (.invokestatic 64, 3) := by decide +kernel
theorem dX5_cover_4 : decode cX5_cover 4 = .ok (.ifCond .ne 5, 3) := by decide +kernel
theorem dX5_cover_7 : decode cX5_cover 7 = .ok (.iconst (-1), 1) := by decide +kernel
theorem dX5_cover_8 : decode cX5_cover 8 = .ok (.ireturn, 1) := by decide +kernel
theorem dX5_cover_9 : decode cX5_cover 9 = .ok (.aload_n 0, 1) := by decide +kernel
theorem dX5_cover_10 : decode cX5_cover 10 = .ok (.getfield 45, 3) := by decide +kernel
theorem dX5_cover_13 : decode cX5_cover 13 = .ok (.invokevirtual 163, 3) := by decide +kernel
theorem dX5_cover_16 : decode cX5_cover 16 = .ok (.aload_n 0, 1) := by decide +kernel
theorem dX5_cover_17 : decode cX5_cover 17 = .ok (.getfield 49, 3) := by decide +kernel
theorem dX5_cover_20 : decode cX5_cover 20 = .ok (.iconst 0, 1) := by decide +kernel
theorem dX5_cover_21 : decode cX5_cover 21 = .ok (.lconst 0, 1) := by decide +kernel
theorem dX5_cover_22 : decode cX5_cover 22 = .ok (.lastore, 1) := by decide +kernel
theorem dX5_cover_23 : decode cX5_cover 23 = .ok (.iconst 1, 1) := by decide +kernel
theorem dX5_cover_24 : decode cX5_cover 24 = .ok (.istore_n 2, 1) := by decide +kernel
theorem dX5_cover_25 : decode cX5_cover 25 = .ok (.iload_n 2, 1) := by decide +kernel
theorem dX5_cover_26 : decode cX5_cover 26 = .ok (.aload_n 0, 1) := by decide +kernel
theorem dX5_cover_27 : decode cX5_cover 27 = .ok (.getfield 14, 3) := by decide +kernel
theorem dX5_cover_30 : decode cX5_cover 30 = .ok (.invokevirtual 126, 3) := by decide +kernel
theorem dX5_cover_33 : decode cX5_cover 33 = .ok (.if_icmp .ge 29, 3) := by decide +kernel
theorem dX5_cover_36 : decode cX5_cover 36 = .ok (.aload_n 0, 1) := by decide +kernel
theorem dX5_cover_37 : decode cX5_cover 37 = .ok (.getfield 49, 3) := by decide +kernel
theorem dX5_cover_40 : decode cX5_cover 40 = .ok (.iload_n 2, 1) := by decide +kernel
theorem dX5_cover_41 : decode cX5_cover 41 = .ok (.aload_n 0, 1) := by decide +kernel
theorem dX5_cover_42 : decode cX5_cover 42 = .ok (.aload_n 0, 1) := by decide +kernel
theorem dX5_cover_43 : decode cX5_cover 43 = .ok (.getfield 14, 3) := by decide +kernel
theorem dX5_cover_46 : decode cX5_cover 46 = .ok (.getfield 75, 3) := by decide +kernel
theorem dX5_cover_49 : decode cX5_cover 49 = .ok (.iload_n 1, 1) := by decide +kernel
theorem dX5_cover_50 : decode cX5_cover 50 = .ok (.aaload, 1) := by decide +kernel
theorem dX5_cover_51 : decode cX5_cover 51 = .ok (.iload_n 2, 1) := by decide +kernel
theorem dX5_cover_52 : decode cX5_cover 52 = .ok (.invokevirtual 181, 3) := by decide +kernel
theorem dX5_cover_55 : decode cX5_cover 55 = .ok (.lastore, 1) := by decide +kernel
theorem dX5_cover_56 : decode cX5_cover 56 = .ok (.iinc 2 1, 3) := by decide +kernel
theorem dX5_cover_59 : decode cX5_cover 59 = .ok (.goto (-34), 3) := by decide +kernel
theorem dX5_cover_62 : decode cX5_cover 62 = .ok (.aload_n 0, 1) := by decide +kernel
theorem dX5_cover_63 : decode cX5_cover 63 = .ok (.getfield 45, 3) := by decide +kernel
theorem dX5_cover_66 : decode cX5_cover 66 = .ok (.getfield 185, 3) := by decide +kernel
theorem dX5_cover_69 : decode cX5_cover 69 = .ok (.ifCond .eq 8, 3) := by decide +kernel
theorem dX5_cover_72 : decode cX5_cover 72 = .ok (.bipush (-6), 2) := by decide +kernel
theorem dX5_cover_74 : decode cX5_cover 74 = .ok (.goto 8, 3) := by decide +kernel
theorem dX5_cover_77 : decode cX5_cover 77 = .ok (.aload_n 0, 1) := by decide +kernel
theorem dX5_cover_78 : decode cX5_cover 78 = .ok (.iload_n 1, 1) := by decide +kernel
theorem dX5_cover_79 : decode cX5_cover 79 = .ok (.invokevirtual 143, 3) := by decide +kernel
theorem dX5_cover_82 : decode cX5_cover 82 = .ok (.ireturn, 1) := by decide +kernel
set_option maxRecDepth 20000 in
theorem ggX5_mask_X5_isGame : GoodIn wsX5_mask wsX5_isGame := goodIn_r _ [5] (by decide +kernel) (by decide +kernel)
set_option maxRecDepth 20000 in
theorem gX5_mask_X5_isGame : GoodIn wsX5_mask (va_wsS RX5 64 yX5_isGame wsX5_isGame) := goodIn_app (goodIn_of _ (by decide +kernel)) ggX5_mask_X5_isGame
set_option maxRecDepth 20000 in
theorem ggX5_mask_X0_hasSet : GoodIn wsX5_mask wsX0_hasSet := goodIn_r _ [10, 11, 12, 13, 9, 14, 15, 37, 38, 39, 40, 41, 42, 43] (by decide +kernel) (by decide +kernel)
set_option maxRecDepth 20000 in
theorem gX5_mask_X0_hasSet : GoodIn wsX5_mask (wsV RX5 68 RX0 yX0_hasSet wsX0_hasSet) := goodIn_app (goodIn_of _ (by decide +kernel)) ggX5_mask_X0_hasSet
set_option maxRecDepth 20000 in
theorem ggX5_mask_X5_settleParts : GoodIn wsX5_mask wsX5_settleParts := goodIn_r _ [19, 1, 20, 21, 22, 12, 13, 9, 14, 15, 23, 24, 25, 4, 26, 27, 28, 29, 30, 31, 32, 33, 34, 35, 36, 37, 38, 39, 40, 41, 42, 43] (by decide +kernel) (by decide +kernel)
set_option maxRecDepth 20000 in
theorem gX5_mask_X5_settleParts : GoodIn wsX5_mask (wsV RX5 189 RX5 yX5_settleParts wsX5_settleParts) := goodIn_app (goodIn_of _ (by decide +kernel)) ggX5_mask_X5_settleParts
theorem dX5_mask_0 : decode cX5_mask 0 = .ok (.iload_n 1, 1) := by decide +kernel
theorem dX5_mask_1 : decode cX5_mask 1 = .ok (.invokestatic 64, 3) := by decide +kernel
theorem dX5_mask_4 : decode cX5_mask 4 = .ok (.ifCond .ne 5, 3) := by decide +kernel
theorem dX5_mask_7 : decode cX5_mask 7 = .ok (.iconst (-1), 1) := by decide +kernel
theorem dX5_mask_8 : decode cX5_mask 8 = .ok (.ireturn, 1) := by decide +kernel
theorem dX5_mask_9 : decode cX5_mask 9 = .ok (.aload_n 0, 1) := by decide +kernel
theorem dX5_mask_10 : decode cX5_mask 10 = .ok (.getfield 14, 3) := by decide +kernel
theorem dX5_mask_13 : decode cX5_mask 13 = .ok (.iload_n 2, 1) := by decide +kernel
theorem dX5_mask_14 : decode cX5_mask 14 = .ok (.invokevirtual 68, 3) := by decide +kernel
theorem dX5_mask_17 : decode cX5_mask 17 = .ok (.ifCond .eq 12, 3) := by decide +kernel
theorem dX5_mask_20 : decode cX5_mask 20 = .ok (.aload_n 0, 1) := by decide +kernel
theorem dX5_mask_21 : decode cX5_mask 21 = .ok (.iload_n 1, 1) := by decide +kernel
theorem dX5_mask_22 : decode cX5_mask 22 = .ok (.iload_n 2, 1) := by decide +kernel
theorem dX5_mask_23 : decode cX5_mask 23 = .ok (.invokevirtual 189, 3) := by decide +kernel
theorem dX5_mask_26 : decode cX5_mask 26 = .ok (.goto 5, 3) := by decide +kernel
theorem dX5_mask_29 : decode cX5_mask 29 = .ok (.bipush (-2), 2) := by decide +kernel
theorem dX5_mask_31 : decode cX5_mask 31 = .ok (.ireturn, 1) := by decide +kernel
set_option maxRecDepth 20000 in
theorem ggX5_unanimous_X5_isGame : GoodIn wsX5_unanimous wsX5_isGame := goodIn_r _ [8] (by decide +kernel) (by decide +kernel)
set_option maxRecDepth 20000 in
theorem gX5_unanimous_X5_isGame : GoodIn wsX5_unanimous (va_wsS RX5 64 yX5_isGame wsX5_isGame) := goodIn_app (goodIn_of _ (by decide +kernel)) ggX5_unanimous_X5_isGame
set_option maxRecDepth 20000 in
theorem ggX5_unanimous_X0_hasSet : GoodIn wsX5_unanimous wsX0_hasSet := goodIn_r _ [13, 14, 15, 16, 12, 17, 18, 54, 55, 56, 57, 58, 59, 60] (by decide +kernel) (by decide +kernel)
set_option maxRecDepth 20000 in
theorem gX5_unanimous_X0_hasSet : GoodIn wsX5_unanimous (wsV RX5 68 RX0 yX0_hasSet wsX0_hasSet) := goodIn_app (goodIn_of _ (by decide +kernel)) ggX5_unanimous_X0_hasSet
set_option maxRecDepth 20000 in
theorem ggX5_unanimous_X5_isToldValue : GoodIn wsX5_unanimous wsX5_isToldValue := goodIn_r _ [21, 22, 23] (by decide +kernel) (by decide +kernel)
set_option maxRecDepth 20000 in
theorem gX5_unanimous_X5_isToldValue : GoodIn wsX5_unanimous (va_wsS RX5 71 yX5_isToldValue wsX5_isToldValue) := goodIn_app (goodIn_of _ (by decide +kernel)) ggX5_unanimous_X5_isToldValue
set_option maxRecDepth 20000 in
theorem ggX5_unanimous_X1_begin : GoodIn wsX5_unanimous wsX1_begin := goodIn_r _ [28, 29, 61] (by decide +kernel) (by decide +kernel)
set_option maxRecDepth 20000 in
theorem gX5_unanimous_X1_begin : GoodIn wsX5_unanimous (wsV RX5 163 RX1 yX1_begin wsX1_begin) := goodIn_app (goodIn_of _ (by decide +kernel)) ggX5_unanimous_X1_begin
set_option maxRecDepth 20000 in
theorem ggX5_unanimous_X0_sets : GoodIn wsX5_unanimous wsX0_sets := goodIn_r _ [17, 18, 54, 55, 56, 57, 58, 59, 60] (by decide +kernel) (by decide +kernel)
set_option maxRecDepth 20000 in
theorem gX5_unanimous_X0_sets : GoodIn wsX5_unanimous (wsV RX5 126 RX0 yX0_sets wsX0_sets) := goodIn_app (goodIn_of _ (by decide +kernel)) ggX5_unanimous_X0_sets
set_option maxRecDepth 20000 in
theorem ggX5_unanimous_X1_plus : GoodIn wsX5_unanimous wsX1_plus := goodIn_r _ [34, 29, 61] (by decide +kernel) (by decide +kernel)
set_option maxRecDepth 20000 in
theorem gX5_unanimous_X1_plus : GoodIn wsX5_unanimous (wsV RX5 165 RX1 yX1_plus wsX1_plus) := goodIn_app (goodIn_of _ (by decide +kernel)) ggX5_unanimous_X1_plus
set_option maxRecDepth 20000 in
theorem ggX5_unanimous_X5_settleUnlessBeyond : GoodIn wsX5_unanimous wsX5_settleUnlessBeyond := goodIn_r _ [38, 2, 39, 40, 41, 42, 7, 43, 1, 3, 4, 30, 15, 16, 12, 17, 18, 44, 45, 46, 47, 48, 49, 50, 51, 52, 53, 61, 54, 55, 56, 57, 58, 59, 60] (by decide +kernel) (by decide +kernel)
set_option maxRecDepth 20000 in
theorem gX5_unanimous_X5_settleUnlessBeyond : GoodIn wsX5_unanimous (wsV RX5 169 RX5 yX5_settleUnlessBeyond wsX5_settleUnlessBeyond) := goodIn_app (goodIn_of _ (by decide +kernel)) ggX5_unanimous_X5_settleUnlessBeyond
theorem dX5_unanimous_0 : decode cX5_unanimous 0 = .ok (.iload_n 1, 1) := by decide +kernel
theorem dX5_unanimous_1 : decode cX5_unanimous 1 = .ok (.invokestatic 64, 3) := by decide +kernel
theorem dX5_unanimous_4 : decode cX5_unanimous 4 = .ok (.ifCond .ne 5, 3) := by decide +kernel
theorem dX5_unanimous_7 : decode cX5_unanimous 7 = .ok (.iconst (-1), 1) := by decide +kernel
theorem dX5_unanimous_8 : decode cX5_unanimous 8 = .ok (.ireturn, 1) := by decide +kernel
theorem dX5_unanimous_9 : decode cX5_unanimous 9 = .ok (.aload_n 0, 1) := by decide +kernel
theorem dX5_unanimous_10 : decode cX5_unanimous 10 = .ok (.getfield 14, 3) := by decide +kernel
theorem dX5_unanimous_13 : decode cX5_unanimous 13 = .ok (.iload_n 2, 1) := by decide +kernel
theorem dX5_unanimous_14 : decode cX5_unanimous 14 = .ok (.invokevirtual 68, 3) := by decide +kernel
theorem dX5_unanimous_17 : decode cX5_unanimous 17 = .ok (.ifCond .eq 14, 3) := by decide +kernel
theorem dX5_unanimous_20 : decode cX5_unanimous 20 = .ok (.iload_n 2, 1) := by decide +kernel
theorem dX5_unanimous_21 : decode cX5_unanimous 21 = .ok (.ifCond .eq 10, 3) := by decide +kernel
theorem dX5_unanimous_24 : decode cX5_unanimous 24 = .ok (.lload_n 3, 1) := by decide +kernel
theorem dX5_unanimous_25 : decode cX5_unanimous 25 = .ok (.invokestatic 71, 3) := by decide +kernel
theorem dX5_unanimous_28 : decode cX5_unanimous 28 = .ok (.ifCond .ne 6, 3) := by decide +kernel
theorem dX5_unanimous_31 : decode cX5_unanimous 31 = .ok (.bipush (-2), 2) := by decide +kernel
theorem dX5_unanimous_33 : decode cX5_unanimous 33 = .ok (.ireturn, 1) := by decide +kernel
theorem dX5_unanimous_34 : decode cX5_unanimous 34 = .ok (.aload_n 0, 1) := by decide +kernel
theorem dX5_unanimous_35 : decode cX5_unanimous 35 = .ok (.getfield 45, 3) := by decide +kernel
theorem dX5_unanimous_38 : decode cX5_unanimous 38 = .ok (.invokevirtual 163, 3) := by decide +kernel
theorem dX5_unanimous_41 : decode cX5_unanimous 41 = .ok (.iconst 0, 1) := by decide +kernel
theorem dX5_unanimous_42 : decode cX5_unanimous 42 = .ok (.istore 5, 2) := by decide +kernel
theorem dX5_unanimous_44 : decode cX5_unanimous 44 = .ok (.iload 5, 2) := by decide +kernel
theorem dX5_unanimous_46 : decode cX5_unanimous 46 = .ok (.aload_n 0, 1) := by decide +kernel
theorem dX5_unanimous_47 : decode cX5_unanimous 47 = .ok (.getfield 14, 3) := by decide +kernel
theorem dX5_unanimous_50 : decode cX5_unanimous 50 = .ok (.invokevirtual 126, 3) := by decide +kernel
theorem dX5_unanimous_53 : decode cX5_unanimous 53 = .ok (.if_icmp .ge 53, 3) := by decide +kernel
theorem dX5_unanimous_56 : decode cX5_unanimous 56 = .ok (.aload_n 0, 1) := by decide +kernel
theorem dX5_unanimous_57 : decode cX5_unanimous 57 = .ok (.getfield 14, 3) := by decide +kernel
theorem dX5_unanimous_60 : decode cX5_unanimous 60 = .ok (.getfield 75, 3) := by decide +kernel
theorem dX5_unanimous_63 : decode cX5_unanimous 63 = .ok (.iload_n 1, 1) := by decide +kernel
theorem dX5_unanimous_64 : decode cX5_unanimous 64 = .ok (.aaload, 1) := by decide +kernel
theorem dX5_unanimous_65 : decode cX5_unanimous 65 = .ok (.iload 5, 2) := by decide +kernel
theorem dX5_unanimous_67 : decode cX5_unanimous 67 = .ok (.laload, 1) := by decide +kernel
theorem dX5_unanimous_68 : decode cX5_unanimous 68 = .ok (.lstore 6, 2) := by decide +kernel
theorem dX5_unanimous_70 : decode cX5_unanimous 70 = .ok (.aload_n 0, 1) := by decide +kernel
theorem dX5_unanimous_71 : decode cX5_unanimous 71 = .ok (.getfield 49, 3) := by decide +kernel
theorem dX5_unanimous_74 : decode cX5_unanimous 74 = .ok (.iload 5, 2) := by decide +kernel
theorem dX5_unanimous_76 : decode cX5_unanimous 76 = .ok (.iload 5, 2) := by decide +kernel
theorem dX5_unanimous_78 : decode cX5_unanimous 78 = .ok (.iload_n 2, 1) := by decide +kernel
theorem dX5_unanimous_79 : decode cX5_unanimous 79 = .ok (.iand, 1) := by decide +kernel
theorem dX5_unanimous_80 : decode cX5_unanimous 80 = .ok (.iload_n 2, 1) := by decide +kernel
theorem dX5_unanimous_81 : decode cX5_unanimous 81 = .ok (.if_icmp .ne 16, 3) := by decide +kernel
theorem dX5_unanimous_84 : decode cX5_unanimous 84 = .ok (.aload_n 0, 1) := by decide +kernel
theorem dX5_unanimous_85 : decode cX5_unanimous 85 = .ok (.getfield 45, 3) := by decide +kernel
theorem dX5_unanimous_88 : decode cX5_unanimous 88 = .ok (.lload 6, 2) := by decide +kernel
theorem dX5_unanimous_90 : decode cX5_unanimous 90 = .ok (.lload_n 3, 1) := by decide +kernel
theorem dX5_unanimous_91 : decode cX5_unanimous 91 = .ok (.invokevirtual 165, 3) := by decide +kernel
theorem dX5_unanimous_94 : decode cX5_unanimous 94 = .ok (.goto 5, 3) := by decide +kernel
theorem dX5_unanimous_97 : decode cX5_unanimous 97 = .ok (.lload 6, 2) := by decide +kernel
theorem dX5_unanimous_99 : decode cX5_unanimous 99 = .ok (.lastore, 1) := by decide +kernel
theorem dX5_unanimous_100 : decode cX5_unanimous 100 = .ok (.iinc 5 1, 3) := by decide +kernel
theorem dX5_unanimous_103 : decode cX5_unanimous 103 = .ok (.goto (-59), 3) := by decide +kernel
theorem dX5_unanimous_106 : decode cX5_unanimous 106 = .ok (.aload_n 0, 1) := by decide +kernel
theorem dX5_unanimous_107 : decode cX5_unanimous 107 = .ok (.iload_n 1, 1) := by decide +kernel
theorem dX5_unanimous_108 : decode cX5_unanimous 108 = .ok (.invokevirtual 169, 3) := by decide +kernel
theorem dX5_unanimous_111 : decode cX5_unanimous 111 = .ok (.ireturn, 1) := by decide +kernel
set_option maxRecDepth 20000 in
theorem ggX5_without_X5_isGame : GoodIn wsX5_without wsX5_isGame := goodIn_r _ [5] (by decide +kernel) (by decide +kernel)
set_option maxRecDepth 20000 in
theorem gX5_without_X5_isGame : GoodIn wsX5_without (va_wsS RX5 64 yX5_isGame wsX5_isGame) := goodIn_app (goodIn_of _ (by decide +kernel)) ggX5_without_X5_isGame
set_option maxRecDepth 20000 in
theorem ggX5_without_X0_hasPartner : GoodIn wsX5_without wsX0_hasPartner := goodIn_r _ [10, 11, 40, 41, 42, 43, 44, 45, 46] (by decide +kernel) (by decide +kernel)
set_option maxRecDepth 20000 in
theorem gX5_without_X0_hasPartner : GoodIn wsX5_without (wsV RX5 81 RX0 yX0_hasPartner wsX0_hasPartner) := goodIn_app (goodIn_of _ (by decide +kernel)) ggX5_without_X0_hasPartner
set_option maxRecDepth 20000 in
theorem ggX5_without_X0_everyone : GoodIn wsX5_without wsX0_everyone := goodIn_r _ [15, 11, 40, 41, 42, 43, 44, 45, 46] (by decide +kernel) (by decide +kernel)
set_option maxRecDepth 20000 in
theorem gX5_without_X0_everyone : GoodIn wsX5_without (wsV RX5 175 RX0 yX0_everyone wsX0_everyone) := goodIn_app (goodIn_of _ (by decide +kernel)) ggX5_without_X0_everyone
set_option maxRecDepth 20000 in
theorem ggX5_without_X5_settleParts : GoodIn wsX5_without wsX5_settleParts := goodIn_r _ [19, 1, 20, 21, 22, 23, 24, 9, 25, 11, 26, 27, 28, 4, 29, 30, 31, 32, 33, 34, 35, 36, 37, 38, 39, 40, 41, 42, 43, 44, 45, 46] (by decide +kernel) (by decide +kernel)
set_option maxRecDepth 20000 in
theorem gX5_without_X5_settleParts : GoodIn wsX5_without (wsV RX5 189 RX5 yX5_settleParts wsX5_settleParts) := goodIn_app (goodIn_of _ (by decide +kernel)) ggX5_without_X5_settleParts
theorem dX5_without_0 : decode cX5_without 0 = .ok (.iload_n 1, 1) := by decide +kernel
theorem dX5_without_1 : decode cX5_without 1 = .ok (.invokestatic 64, 3) := by decide +kernel
theorem dX5_without_4 : decode cX5_without 4 = .ok (.ifCond .eq 14, 3) := by decide +kernel
theorem dX5_without_7 : decode cX5_without 7 = .ok (.aload_n 0, 1) := by decide +kernel
theorem dX5_without_8 : decode cX5_without 8 = .ok (.getfield 14, 3) := by decide +kernel
theorem dX5_without_11 : decode cX5_without 11 = .ok (.iload_n 2, 1) := by decide +kernel
theorem dX5_without_12 : decode cX5_without 12 = .ok (.invokevirtual 81, 3) := by decide +kernel
theorem dX5_without_15 : decode cX5_without 15 = .ok (.ifCond .ne 5, 3) := by decide +kernel
theorem dX5_without_18 : decode cX5_without 18 = .ok (.iconst (-1), 1) := by decide +kernel
theorem dX5_without_19 : decode cX5_without 19 = .ok (.ireturn, 1) := by decide +kernel
theorem dX5_without_20 : decode cX5_without 20 = .ok (.aload_n 0, 1) := by decide +kernel
theorem dX5_without_21 : decode cX5_without 21 = .ok (.iload_n 1, 1) := by decide +kernel
theorem dX5_without_22 : decode cX5_without 22 = .ok (.aload_n 0, 1) := by decide +kernel
theorem dX5_without_23 : decode cX5_without 23 = .ok (.getfield 14, 3) := by decide +kernel
theorem dX5_without_26 : decode cX5_without 26 = .ok (.invokevirtual 175, 3) := by decide +kernel
theorem dX5_without_29 : decode cX5_without 29 = .ok (.iconst 1, 1) := by decide +kernel
theorem dX5_without_30 : decode cX5_without 30 = .ok (.iload_n 2, 1) := by decide +kernel
theorem dX5_without_31 : decode cX5_without 31 = .ok (.ishl, 1) := by decide +kernel
theorem dX5_without_32 : decode cX5_without 32 = .ok (.iconst (-1), 1) := by decide +kernel
theorem dX5_without_33 : decode cX5_without 33 = .ok (.ixor, 1) := by decide +kernel
theorem dX5_without_34 : decode cX5_without 34 = .ok (.iand, 1) := by decide +kernel
theorem dX5_without_35 : decode cX5_without 35 = .ok (.invokevirtual 189, 3) := by decide +kernel
theorem dX5_without_38 : decode cX5_without 38 = .ok (.ireturn, 1) := by decide +kernel
set_option maxRecDepth 20000 in
theorem ggX5_join_X5_isGame : GoodIn wsX5_join wsX5_isGame := goodIn_r _ [7] (by decide +kernel) (by decide +kernel)
set_option maxRecDepth 20000 in
theorem gX5_join_X5_isGame : GoodIn wsX5_join (va_wsS RX5 64 yX5_isGame wsX5_isGame) := goodIn_app (goodIn_of _ (by decide +kernel)) ggX5_join_X5_isGame
set_option maxRecDepth 20000 in
theorem ggX5_join_X0_hasTwo : GoodIn wsX5_join wsX0_hasTwo := goodIn_r _ [12, 13, 14, 15, 11, 16, 17, 39, 40, 41, 42, 43, 44, 45] (by decide +kernel) (by decide +kernel)
set_option maxRecDepth 20000 in
theorem gX5_join_X0_hasTwo : GoodIn wsX5_join (wsV RX5 94 RX0 yX0_hasTwo wsX0_hasTwo) := goodIn_app (goodIn_of _ (by decide +kernel)) ggX5_join_X0_hasTwo
set_option maxRecDepth 20000 in
theorem ggX5_join_X0_sets : GoodIn wsX5_join wsX0_sets := goodIn_r _ [21, 17, 39, 40, 41, 42, 43, 44, 45] (by decide +kernel) (by decide +kernel)
set_option maxRecDepth 20000 in
theorem gX5_join_X0_sets : GoodIn wsX5_join (wsV RX5 126 RX0 yX0_sets wsX0_sets) := goodIn_app (goodIn_of _ (by decide +kernel)) ggX5_join_X0_sets
set_option maxRecDepth 20000 in
theorem ggX5_join_X5_has : GoodIn wsX5_join wsX5_has := goodIn_r _ [24] (by decide +kernel) (by decide +kernel)
set_option maxRecDepth 20000 in
theorem gX5_join_X5_has : GoodIn wsX5_join (va_wsS RX5 192 yX5_has wsX5_has) := goodIn_app (goodIn_of _ (by decide +kernel)) ggX5_join_X5_has
set_option maxRecDepth 20000 in
theorem ggX5_join_X5_settle : GoodIn wsX5_join wsX5_settle := goodIn_r _ [28, 1, 3, 2, 18, 19, 20, 11, 21, 17, 29, 30, 31, 32, 33, 34, 35, 36, 37, 38, 39, 40, 41, 42, 43, 44, 45] (by decide +kernel) (by decide +kernel)
set_option maxRecDepth 20000 in
theorem gX5_join_X5_settle : GoodIn wsX5_join (wsV RX5 143 RX5 yX5_settle wsX5_settle) := goodIn_app (goodIn_of _ (by decide +kernel)) ggX5_join_X5_settle
theorem dX5_join_0 : decode cX5_join 0 = .ok (.iload_n 1, 1) := by decide +kernel
theorem dX5_join_1 : decode cX5_join 1 = .ok (.invokestatic 64, 3) := by decide +kernel
theorem dX5_join_4 : decode cX5_join 4 = .ok (.ifCond .eq 15, 3) := by decide +kernel
theorem dX5_join_7 : decode cX5_join 7 = .ok (.aload_n 0, 1) := by decide +kernel
theorem dX5_join_8 : decode cX5_join 8 = .ok (.getfield 14, 3) := by decide +kernel
theorem dX5_join_11 : decode cX5_join 11 = .ok (.iload_n 2, 1) := by decide +kernel
theorem dX5_join_12 : decode cX5_join 12 = .ok (.iload_n 3, 1) := by decide +kernel
theorem dX5_join_13 : decode cX5_join 13 = .ok (.invokevirtual 94, 3) := by decide +kernel
theorem dX5_join_16 : decode cX5_join 16 = .ok (.ifCond .ne 5, 3) := by decide +kernel
theorem dX5_join_19 : decode cX5_join 19 = .ok (.iconst (-1), 1) := by decide +kernel
theorem dX5_join_20 : decode cX5_join 20 = .ok (.ireturn, 1) := by decide +kernel
theorem dX5_join_21 : decode cX5_join 21 = .ok (.iconst 1, 1) := by decide +kernel
theorem dX5_join_22 : decode cX5_join 22 = .ok (.iload_n 2, 1) := by decide +kernel
theorem dX5_join_23 : decode cX5_join 23 = .ok (.ishl, 1) := by decide +kernel
theorem dX5_join_24 : decode cX5_join 24 = .ok (.iconst 1, 1) := by decide +kernel
theorem dX5_join_25 : decode cX5_join 25 = .ok (.iload_n 3, 1) := by decide +kernel
theorem dX5_join_26 : decode cX5_join 26 = .ok (.ishl, 1) := by decide +kernel
theorem dX5_join_27 : decode cX5_join 27 = .ok (.ior, 1) := by decide +kernel
theorem dX5_join_28 : decode cX5_join 28 = .ok (.istore 4, 2) := by decide +kernel
theorem dX5_join_30 : decode cX5_join 30 = .ok (.iconst 0, 1) := by decide +kernel
theorem dX5_join_31 : decode cX5_join 31 = .ok (.istore 5, 2) := by decide +kernel
theorem dX5_join_33 : decode cX5_join 33 = .ok (.iload 5, 2) := by decide +kernel
theorem dX5_join_35 : decode cX5_join 35 = .ok (.aload_n 0, 1) := by decide +kernel
theorem dX5_join_36 : decode cX5_join 36 = .ok (.getfield 14, 3) := by decide +kernel
theorem dX5_join_39 : decode cX5_join 39 = .ok (.invokevirtual 126, 3) := by decide +kernel
theorem dX5_join_42 : decode cX5_join 42 = .ok (.if_icmp .ge 54, 3) := by decide +kernel
theorem dX5_join_45 : decode cX5_join 45 = .ok (.iload 5, 2) := by decide +kernel
theorem dX5_join_47 : decode cX5_join 47 = .ok (.iload_n 2, 1) := by decide +kernel
theorem dX5_join_48 : decode cX5_join 48 = .ok (.invokestatic 192, 3) := by decide +kernel
theorem dX5_join_51 : decode cX5_join 51 = .ok (.istore 6, 2) := by decide +kernel
theorem dX5_join_53 : decode cX5_join 53 = .ok (.aload_n 0, 1) := by decide +kernel
theorem dX5_join_54 : decode cX5_join 54 = .ok (.getfield 49, 3) := by decide +kernel
theorem dX5_join_57 : decode cX5_join 57 = .ok (.iload 5, 2) := by decide +kernel
theorem dX5_join_59 : decode cX5_join 59 = .ok (.aload_n 0, 1) := by decide +kernel
theorem dX5_join_60 : decode cX5_join 60 = .ok (.getfield 14, 3) := by decide +kernel
theorem dX5_join_63 : decode cX5_join 63 = .ok (.getfield 75, 3) := by decide +kernel
theorem dX5_join_66 : decode cX5_join 66 = .ok (.iload_n 1, 1) := by decide +kernel
theorem dX5_join_67 : decode cX5_join 67 = .ok (.aaload, 1) := by decide +kernel
theorem dX5_join_68 : decode cX5_join 68 = .ok (.iload 6, 2) := by decide +kernel
theorem dX5_join_70 : decode cX5_join 70 = .ok (.ifCond .eq 11, 3) := by decide +kernel
theorem dX5_join_73 : decode cX5_join 73 = .ok (.iload 5, 2) := by decide +kernel
theorem dX5_join_75 : decode cX5_join 75 = .ok (.iload 4, 2) := by decide +kernel
theorem dX5_join_77 : decode cX5_join 77 = .ok (.ior, 1) := by decide +kernel
theorem dX5_join_78 : decode cX5_join 78 = .ok (.goto 10, 3) := by decide +kernel
theorem dX5_join_81 : decode cX5_join 81 = .ok (.iload 5, 2) := by decide +kernel
theorem dX5_join_83 : decode cX5_join 83 = .ok (.iload 4, 2) := by decide +kernel
theorem dX5_join_85 : decode cX5_join 85 = .ok (.iconst (-1), 1) := by decide +kernel
theorem dX5_join_86 : decode cX5_join 86 = .ok (.ixor, 1) := by decide +kernel
theorem dX5_join_87 : decode cX5_join 87 = .ok (.iand, 1) := by decide +kernel
theorem dX5_join_88 : decode cX5_join 88 = .ok (.laload, 1) := by decide +kernel
theorem dX5_join_89 : decode cX5_join 89 = .ok (.lastore, 1) := by decide +kernel
theorem dX5_join_90 : decode cX5_join 90 = .ok (.iinc 5 1, 3) := by decide +kernel
theorem dX5_join_93 : decode cX5_join 93 = .ok (.goto (-60), 3) := by decide +kernel
theorem dX5_join_96 : decode cX5_join 96 = .ok (.aload_n 0, 1) := by decide +kernel
theorem dX5_join_97 : decode cX5_join 97 = .ok (.iload_n 1, 1) := by decide +kernel
theorem dX5_join_98 : decode cX5_join 98 = .ok (.invokevirtual 143, 3) := by decide +kernel
theorem dX5_join_101 : decode cX5_join 101 = .ok (.ireturn, 1) := by decide +kernel
set_option maxRecDepth 20000 in
theorem ggX5_swap_X5_isGame : GoodIn wsX5_swap wsX5_isGame := goodIn_r _ [7] (by decide +kernel) (by decide +kernel)
set_option maxRecDepth 20000 in
theorem gX5_swap_X5_isGame : GoodIn wsX5_swap (va_wsS RX5 64 yX5_isGame wsX5_isGame) := goodIn_app (goodIn_of _ (by decide +kernel)) ggX5_swap_X5_isGame
set_option maxRecDepth 20000 in
theorem ggX5_swap_X0_hasPartner : GoodIn wsX5_swap wsX0_hasPartner := goodIn_r _ [12, 13, 35, 36, 37, 38, 39, 40, 41] (by decide +kernel) (by decide +kernel)
set_option maxRecDepth 20000 in
theorem gX5_swap_X0_hasPartner : GoodIn wsX5_swap (wsV RX5 81 RX0 yX0_hasPartner wsX0_hasPartner) := goodIn_app (goodIn_of _ (by decide +kernel)) ggX5_swap_X0_hasPartner
set_option maxRecDepth 20000 in
theorem ggX5_swap_X0_sets : GoodIn wsX5_swap wsX0_sets := goodIn_r _ [17, 13, 35, 36, 37, 38, 39, 40, 41] (by decide +kernel) (by decide +kernel)
set_option maxRecDepth 20000 in
theorem gX5_swap_X0_sets : GoodIn wsX5_swap (wsV RX5 126 RX0 yX0_sets wsX0_sets) := goodIn_app (goodIn_of _ (by decide +kernel)) ggX5_swap_X0_sets
set_option maxRecDepth 20000 in
theorem ggX5_swap_X5_has : GoodIn wsX5_swap wsX5_has := goodIn_r _ [20] (by decide +kernel) (by decide +kernel)
set_option maxRecDepth 20000 in
theorem gX5_swap_X5_has : GoodIn wsX5_swap (va_wsS RX5 192 yX5_has wsX5_has) := goodIn_app (goodIn_of _ (by decide +kernel)) ggX5_swap_X5_has
set_option maxRecDepth 20000 in
theorem ggX5_swap_X5_settle : GoodIn wsX5_swap wsX5_settle := goodIn_r _ [24, 1, 3, 2, 14, 15, 16, 11, 17, 13, 25, 26, 27, 28, 29, 30, 31, 32, 33, 34, 35, 36, 37, 38, 39, 40, 41] (by decide +kernel) (by decide +kernel)
set_option maxRecDepth 20000 in
theorem gX5_swap_X5_settle : GoodIn wsX5_swap (wsV RX5 143 RX5 yX5_settle wsX5_settle) := goodIn_app (goodIn_of _ (by decide +kernel)) ggX5_swap_X5_settle
theorem dX5_swap_0 : decode cX5_swap 0 = .ok (.iload_n 1, 1) := by decide +kernel
theorem dX5_swap_1 : decode cX5_swap 1 = .ok (.invokestatic 64, 3) := by decide +kernel
theorem dX5_swap_4 : decode cX5_swap 4 = .ok (.ifCond .eq 25, 3) := by decide +kernel
theorem dX5_swap_7 : decode cX5_swap 7 = .ok (.aload_n 0, 1) := by decide +kernel
theorem dX5_swap_8 : decode cX5_swap 8 = .ok (.getfield 14, 3) := by decide +kernel
theorem dX5_swap_11 : decode cX5_swap 11 = .ok (.iload_n 2, 1) := by decide +kernel
theorem dX5_swap_12 : decode cX5_swap 12 = .ok (.invokevirtual 81, 3) := by decide +kernel
theorem dX5_swap_15 : decode cX5_swap 15 = .ok (.ifCond .eq 14, 3) := by decide +kernel
theorem dX5_swap_18 : decode cX5_swap 18 = .ok (.aload_n 0, 1) := by decide +kernel
theorem dX5_swap_19 : decode cX5_swap 19 = .ok (.getfield 14, 3) := by decide +kernel
theorem dX5_swap_22 : decode cX5_swap 22 = .ok (.iload_n 3, 1) := by decide +kernel
theorem dX5_swap_23 : decode cX5_swap 23 = .ok (.invokevirtual 81, 3) := by decide +kernel
theorem dX5_swap_26 : decode cX5_swap 26 = .ok (.ifCond .ne 5, 3) := by decide +kernel
theorem dX5_swap_29 : decode cX5_swap 29 = .ok (.iconst (-1), 1) := by decide +kernel
theorem dX5_swap_30 : decode cX5_swap 30 = .ok (.ireturn, 1) := by decide +kernel
theorem dX5_swap_31 : decode cX5_swap 31 = .ok (.iconst 1, 1) := by decide +kernel
theorem dX5_swap_32 : decode cX5_swap 32 = .ok (.iload_n 2, 1) := by decide +kernel
theorem dX5_swap_33 : decode cX5_swap 33 = .ok (.ishl, 1) := by decide +kernel
theorem dX5_swap_34 : decode cX5_swap 34 = .ok (.iconst 1, 1) := by decide +kernel
theorem dX5_swap_35 : decode cX5_swap 35 = .ok (.iload_n 3, 1) := by decide +kernel
theorem dX5_swap_36 : decode cX5_swap 36 = .ok (.ishl, 1) := by decide +kernel
theorem dX5_swap_37 : decode cX5_swap 37 = .ok (.ior, 1) := by decide +kernel
theorem dX5_swap_38 : decode cX5_swap 38 = .ok (.istore 4, 2) := by decide +kernel
theorem dX5_swap_40 : decode cX5_swap 40 = .ok (.iconst 0, 1) := by decide +kernel
theorem dX5_swap_41 : decode cX5_swap 41 = .ok (.istore 5, 2) := by decide +kernel
theorem dX5_swap_43 : decode cX5_swap 43 = .ok (.iload 5, 2) := by decide +kernel
theorem dX5_swap_45 : decode cX5_swap 45 = .ok (.aload_n 0, 1) := by decide +kernel
theorem dX5_swap_46 : decode cX5_swap 46 = .ok (.getfield 14, 3) := by decide +kernel
theorem dX5_swap_49 : decode cX5_swap 49 = .ok (.invokevirtual 126, 3) := by decide +kernel
theorem dX5_swap_52 : decode cX5_swap 52 = .ok (.if_icmp .ge 63, 3) := by decide +kernel
theorem dX5_swap_55 : decode cX5_swap 55 = .ok (.iload 5, 2) := by decide +kernel
theorem dX5_swap_57 : decode cX5_swap 57 = .ok (.iload_n 2, 1) := by decide +kernel
theorem dX5_swap_58 : decode cX5_swap 58 = .ok (.invokestatic 192, 3) := by decide +kernel
theorem dX5_swap_61 : decode cX5_swap 61 = .ok (.iload 5, 2) := by decide +kernel
theorem dX5_swap_63 : decode cX5_swap 63 = .ok (.iload_n 3, 1) := by decide +kernel
theorem dX5_swap_64 : decode cX5_swap 64 = .ok (.invokestatic 192, 3) := by decide +kernel
theorem dX5_swap_67 : decode cX5_swap 67 = .ok (.if_icmp .eq 7, 3) := by decide +kernel
theorem dX5_swap_70 : decode cX5_swap 70 = .ok (.iconst 1, 1) := by decide +kernel
theorem dX5_swap_71 : decode cX5_swap 71 = .ok (.goto 4, 3) := by decide +kernel
theorem dX5_swap_74 : decode cX5_swap 74 = .ok (.iconst 0, 1) := by decide +kernel
theorem dX5_swap_75 : decode cX5_swap 75 = .ok (.istore 6, 2) := by decide +kernel
theorem dX5_swap_77 : decode cX5_swap 77 = .ok (.aload_n 0, 1) := by decide +kernel
theorem dX5_swap_78 : decode cX5_swap 78 = .ok (.getfield 49, 3) := by decide +kernel
theorem dX5_swap_81 : decode cX5_swap 81 = .ok (.iload 5, 2) := by decide +kernel
theorem dX5_swap_83 : decode cX5_swap 83 = .ok (.aload_n 0, 1) := by decide +kernel
theorem dX5_swap_84 : decode cX5_swap 84 = .ok (.getfield 14, 3) := by decide +kernel
theorem dX5_swap_87 : decode cX5_swap 87 = .ok (.getfield 75, 3) := by decide +kernel
theorem dX5_swap_90 : decode cX5_swap 90 = .ok (.iload_n 1, 1) := by decide +kernel
theorem dX5_swap_91 : decode cX5_swap 91 = .ok (.aaload, 1) := by decide +kernel
theorem dX5_swap_92 : decode cX5_swap 92 = .ok (.iload 6, 2) := by decide +kernel
theorem dX5_swap_94 : decode cX5_swap 94 = .ok (.ifCond .eq 11, 3) := by decide +kernel
theorem dX5_swap_97 : decode cX5_swap 97 = .ok (.iload 5, 2) := by decide +kernel
theorem dX5_swap_99 : decode cX5_swap 99 = .ok (.iload 4, 2) := by decide +kernel
theorem dX5_swap_101 : decode cX5_swap 101 = .ok (.ixor, 1) := by decide +kernel
theorem dX5_swap_102 : decode cX5_swap 102 = .ok (.goto 5, 3) := by decide +kernel
theorem dX5_swap_105 : decode cX5_swap 105 = .ok (.iload 5, 2) := by decide +kernel
theorem dX5_swap_107 : decode cX5_swap 107 = .ok (.laload, 1) := by decide +kernel
theorem dX5_swap_108 : decode cX5_swap 108 = .ok (.lastore, 1) := by decide +kernel
theorem dX5_swap_109 : decode cX5_swap 109 = .ok (.iinc 5 1, 3) := by decide +kernel
theorem dX5_swap_112 : decode cX5_swap 112 = .ok (.goto (-69), 3) := by decide +kernel
theorem dX5_swap_115 : decode cX5_swap 115 = .ok (.aload_n 0, 1) := by decide +kernel
theorem dX5_swap_116 : decode cX5_swap 116 = .ok (.iload_n 1, 1) := by decide +kernel
theorem dX5_swap_117 : decode cX5_swap 117 = .ok (.invokevirtual 143, 3) := by decide +kernel
theorem dX5_swap_120 : decode cX5_swap 120 = .ok (.ireturn, 1) := by decide +kernel
set_option maxRecDepth 20000 in
theorem ggX5_differ_X5_isGame : GoodIn wsX5_differ wsX5_isGame := goodIn_r _ [6] (by decide +kernel) (by decide +kernel)
set_option maxRecDepth 20000 in
theorem gX5_differ_X5_isGame : GoodIn wsX5_differ (va_wsS RX5 64 yX5_isGame wsX5_isGame) := goodIn_app (goodIn_of _ (by decide +kernel)) ggX5_differ_X5_isGame
set_option maxRecDepth 20000 in
theorem ggX5_differ_X0_sets : GoodIn wsX5_differ wsX0_sets := goodIn_r _ [11, 12, 23, 24, 25, 26, 27, 28, 29] (by decide +kernel) (by decide +kernel)
set_option maxRecDepth 20000 in
theorem gX5_differ_X0_sets : GoodIn wsX5_differ (wsV RX5 126 RX0 yX0_sets wsX0_sets) := goodIn_app (goodIn_of _ (by decide +kernel)) ggX5_differ_X0_sets
