theorem dX6_share_0 : decode cX6_share 0 = .ok (.iload_n 1, 1) := by decide +kernel
theorem dX6_share_1 : decode cX6_share 1 = .ok (.invokestatic 85, 3) := by decide +kernel
theorem dX6_share_4 : decode cX6_share 4 = .ok (.ifCond .eq 21, 3) := by decide +kernel
theorem dX6_share_7 : decode cX6_share 7 = .ok (.aload_n 0, 1) := by decide +kernel
theorem dX6_share_8 : decode cX6_share 8 = .ok (.iload_n 2, 1) := by decide +kernel
theorem dX6_share_9 : decode cX6_share 9 = .ok (.invokevirtual 74, 3) := by decide +kernel
theorem dX6_share_12 : decode cX6_share 12 = .ok (.ifCond .eq 13, 3) := by decide +kernel
theorem dX6_share_15 : decode cX6_share 15 = .ok (.iload_n 3, 1) := by decide +kernel
theorem dX6_share_16 : decode cX6_share 16 = .ok (.i2l, 1) := by decide +kernel
theorem dX6_share_17 : decode cX6_share 17 = .ok (.lconst 0, 1) := by decide +kernel
theorem dX6_share_18 : decode cX6_share 18 = .ok (.lconst 1, 1) := by decide +kernel
theorem dX6_share_19 : decode cX6_share 19 = .ok (.invokestatic 70, 3) := by decide +kernel
theorem dX6_share_22 : decode cX6_share 22 = .ok (.ifCond .ne 7, 3) := by decide +kernel
theorem dX6_share_25 : decode cX6_share 25 = .ok (.ldc2_w 60, 3) := by decide +kernel
theorem dX6_share_28 : decode cX6_share 28 = .ok (.lreturn, 1) := by decide +kernel
theorem dX6_share_29 : decode cX6_share 29 = .ok (.aload_n 0, 1) := by decide +kernel
theorem dX6_share_30 : decode cX6_share 30 = .ok (.iload_n 1, 1) := by decide +kernel
theorem dX6_share_31 : decode cX6_share 31 = .ok (.iload_n 2, 1) := by decide +kernel
theorem dX6_share_32 : decode cX6_share 32 = .ok (.invokevirtual 234, 3) := by decide +kernel
theorem dX6_share_35 : decode cX6_share 35 = .ok (.aload_n 0, 1) := by decide +kernel
theorem dX6_share_36 : decode cX6_share 36 = .ok (.getfield 54, 3) := by decide +kernel
theorem dX6_share_39 : decode cX6_share 39 = .ok (.ifCond .eq 9, 3) := by decide +kernel
theorem dX6_share_42 : decode cX6_share 42 = .ok (.ldc2_w 60, 3) := by decide +kernel
theorem dX6_share_45 : decode cX6_share 45 = .ok (.goto 20, 3) := by decide +kernel
theorem dX6_share_48 : decode cX6_share 48 = .ok (.aload_n 0, 1) := by decide +kernel
theorem dX6_share_49 : decode cX6_share 49 = .ok (.getfield 226, 3) := by decide +kernel
theorem dX6_share_52 : decode cX6_share 52 = .ok (.aload_n 0, 1) := by decide +kernel
theorem dX6_share_53 : decode cX6_share 53 = .ok (.getfield 21, 3) := by decide +kernel
theorem dX6_share_56 : decode cX6_share 56 = .ok (.aload_n 0, 1) := by decide +kernel
theorem dX6_share_57 : decode cX6_share 57 = .ok (.invokevirtual 66, 3) := by decide +kernel
theorem dX6_share_60 : decode cX6_share 60 = .ok (.laload, 1) := by decide +kernel
theorem dX6_share_61 : decode cX6_share 61 = .ok (.iload_n 3, 1) := by decide +kernel
theorem dX6_share_62 : decode cX6_share 62 = .ok (.invokestatic 238, 3) := by decide +kernel
theorem dX6_share_65 : decode cX6_share 65 = .ok (.lreturn, 1) := by decide +kernel
set_option maxRecDepth 20000 in
theorem ggX6_power_X6_isGame : GoodIn wsX6_power wsX6_isGame := goodIn_r _ [6, 7, 8, 9, 5, 10] (by decide +kernel) (by decide +kernel)
set_option maxRecDepth 20000 in
theorem gX6_power_X6_isGame : GoodIn wsX6_power (va_wsS RX6 85 yX6_isGame wsX6_isGame) := goodIn_app (goodIn_of _ (by decide +kernel)) ggX6_power_X6_isGame
set_option maxRecDepth 20000 in
theorem ggX6_power_X6_isPartner : GoodIn wsX6_power wsX6_isPartner := goodIn_r _ [14, 15, 16, 17, 5, 18, 19, 8, 9, 10, 43, 44, 45, 46, 47, 48, 49, 50, 51, 52, 53, 54, 55, 56, 57, 58] (by decide +kernel) (by decide +kernel)
set_option maxRecDepth 20000 in
theorem gX6_power_X6_isPartner : GoodIn wsX6_power (wsV RX6 74 RX6 yX6_isPartner wsX6_isPartner) := goodIn_app (goodIn_of _ (by decide +kernel)) ggX6_power_X6_isPartner
set_option maxRecDepth 20000 in
theorem ggX6_power_X6_all : GoodIn wsX6_power wsX6_all := goodIn_r _ [23, 15, 16, 17, 5, 18, 19, 43, 44, 45, 46, 47, 48, 49, 50, 51, 52, 53, 54, 55, 56, 57, 58] (by decide +kernel) (by decide +kernel)
set_option maxRecDepth 20000 in
theorem gX6_power_X6_all : GoodIn wsX6_power (wsV RX6 80 RX6 yX6_all wsX6_all) := goodIn_app (goodIn_of _ (by decide +kernel)) ggX6_power_X6_all
set_option maxRecDepth 20000 in
theorem ggX6_power_X6_has : GoodIn wsX6_power wsX6_has := goodIn_r _ [26] (by decide +kernel) (by decide +kernel)
set_option maxRecDepth 20000 in
theorem gX6_power_X6_has : GoodIn wsX6_power (va_wsS RX6 164 yX6_has wsX6_has) := goodIn_app (goodIn_of _ (by decide +kernel)) ggX6_power_X6_has
set_option maxRecDepth 20000 in
theorem ggX6_power_X6_gain : GoodIn wsX6_power wsX6_gain := goodIn_r _ [30, 31, 32, 33, 5, 34, 19, 35, 36, 37, 38, 2, 43, 44, 45, 46, 47, 48, 49, 50, 51, 52, 53, 54, 55, 56, 57, 58] (by decide +kernel) (by decide +kernel)
set_option maxRecDepth 20000 in
theorem gX6_power_X6_gain : GoodIn wsX6_power (wsV RX6 230 RX6 yX6_gain wsX6_gain) := goodIn_app (goodIn_of _ (by decide +kernel)) ggX6_power_X6_gain
set_option maxRecDepth 20000 in
theorem ggX6_power_X6_plus : GoodIn wsX6_power wsX6_plus := goodIn_r _ [42, 2, 43, 44, 45, 46, 47, 48, 49, 50, 51, 52, 53, 54, 55, 56, 57, 58] (by decide +kernel) (by decide +kernel)
set_option maxRecDepth 20000 in
theorem gX6_power_X6_plus : GoodIn wsX6_power (wsV RX6 196 RX6 yX6_plus wsX6_plus) := goodIn_app (goodIn_of _ (by decide +kernel)) ggX6_power_X6_plus
theorem dX6_power_0 : decode cX6_power 0 = .ok (.iload_n 1, 1) := by decide +kernel
theorem dX6_power_1 : decode cX6_power 1 = .ok (.invokestatic 85, 3) := by decide +kernel
theorem dX6_power_4 : decode cX6_power 4 = .ok (.ifCond .eq 11, 3) := by decide +kernel
theorem dX6_power_7 : decode cX6_power 7 = .ok (.aload_n 0, 1) := by decide +kernel
theorem dX6_power_8 : decode cX6_power 8 = .ok (.iload_n 2, 1) := by decide +kernel
theorem dX6_power_9 : decode cX6_power 9 = .ok (.invokevirtual 74, 3) := by decide +kernel
theorem dX6_power_12 : decode cX6_power 12 = .ok (.ifCond .ne 7, 3) := by decide +kernel
theorem dX6_power_15 : decode cX6_power 15 = .ok (.ldc2_w 60, 3) := by decide +kernel
theorem dX6_power_18 : decode cX6_power 18 = .ok (.lreturn, 1) := by decide +kernel
theorem dX6_power_19 : decode cX6_power 19 = .ok (.aload_n 0, 1) := by decide +kernel
theorem dX6_power_20 : decode cX6_power 20 = .ok (.iconst 0, 1) := by decide +kernel
theorem dX6_power_21 : decode cX6_power 21 = .ok (.putfield 54, 3) := by decide +kernel
theorem dX6_power_24 : decode cX6_power 24 = .ok (.lconst 0, 1) := by decide +kernel
theorem dX6_power_25 : decode cX6_power 25 = .ok (.lstore_n 3, 1) := by decide +kernel
theorem dX6_power_26 : decode cX6_power 26 = .ok (.iconst 0, 1) := by decide +kernel
theorem dX6_power_27 : decode cX6_power 27 = .ok (.istore 5, 2) := by decide +kernel
theorem dX6_power_29 : decode cX6_power 29 = .ok (.iload 5, 2) := by decide +kernel
theorem dX6_power_31 : decode cX6_power 31 = .ok (.aload_n 0, 1) := by decide +kernel
theorem dX6_power_32 : decode cX6_power 32 = .ok (.invokevirtual 80, 3) := by decide +kernel
theorem dX6_power_35 : decode cX6_power 35 = .ok (.if_icmp .gt 32, 3) := by decide +kernel
theorem dX6_power_38 : decode cX6_power 38 = .ok (.iload 5, 2) := by decide +kernel
theorem dX6_power_40 : decode cX6_power 40 = .ok (.iload_n 2, 1) := by decide +kernel
theorem dX6_power_41 : decode cX6_power 41 = .ok (.invokestatic 164, 3) := by decide +kernel
theorem dX6_power_44 : decode cX6_power 44 = .ok (.ifCond .ne 17, 3) := by decide +kernel
theorem dX6_power_47 : decode cX6_power 47 = .ok (.aload_n 0, 1) := by decide +kernel
theorem dX6_power_48 : decode cX6_power 48 = .ok (.lload_n 3, 1) := by decide +kernel
theorem dX6_power_49 : decode cX6_power 49 = .ok (.aload_n 0, 1) := by decide +kernel
theorem dX6_power_50 : decode cX6_power 50 = .ok (.iload_n 1, 1) := by decide +kernel
theorem dX6_power_51 : decode cX6_power 51 = .ok (.iload_n 2, 1) := by decide +kernel
theorem dX6_power_52 : decode cX6_power 52 = .ok (.iload 5, 2) := by decide +kernel
theorem dX6_power_54 : decode cX6_power 54 = .ok (.invokevirtual 230, 3) := by decide +kernel
theorem dX6_power_57 : decode cX6_power 57 = .ok (.invokevirtual 196, 3) := by decide +kernel
theorem dX6_power_60 : decode cX6_power 60 = .ok (.lstore_n 3, 1) := by decide +kernel
theorem dX6_power_61 : decode cX6_power 61 = .ok (.iinc 5 1, 3) := by decide +kernel
theorem dX6_power_64 : decode cX6_power 64 = .ok (.goto (-35), 3) := by decide +kernel
theorem dX6_power_67 : decode cX6_power 67 = .ok (.aload_n 0, 1) := by decide +kernel
theorem dX6_power_68 : decode cX6_power 68 = .ok (.getfield 54, 3) := by decide +kernel
theorem dX6_power_71 : decode cX6_power 71 = .ok (.ifCond .eq 9, 3) := by decide +kernel
theorem dX6_power_74 : decode cX6_power 74 = .ok (.ldc2_w 60, 3) := by decide +kernel
theorem dX6_power_77 : decode cX6_power 77 = .ok (.goto 4, 3) := by decide +kernel
theorem dX6_power_80 : decode cX6_power 80 = .ok (.lload_n 3, 1) := by decide +kernel
theorem dX6_power_81 : decode cX6_power 81 = .ok (.lreturn, 1) := by decide +kernel
set_option maxRecDepth 20000 in
theorem ggX6_members_X6_n : GoodIn wsX6_members wsX6_n := goodIn_r _ [5, 6, 11, 12, 13, 14, 15, 16, 17, 18, 19, 20, 21, 22, 23, 24, 25, 26] (by decide +kernel) (by decide +kernel)
set_option maxRecDepth 20000 in
theorem gX6_members_X6_n : GoodIn wsX6_members (wsV RX6 66 RX6 yX6_n wsX6_n) := goodIn_app (goodIn_of _ (by decide +kernel)) ggX6_members_X6_n
set_option maxRecDepth 20000 in
theorem ggX6_members_X6_unionOf : GoodIn wsX6_members wsX6_unionOf := goodIn_r _ [10, 6, 11, 12, 13, 14, 15, 16, 17, 18, 19, 20, 21, 22, 23, 24, 25, 26] (by decide +kernel) (by decide +kernel)
set_option maxRecDepth 20000 in
theorem gX6_members_X6_unionOf : GoodIn wsX6_members (wsV RX6 125 RX6 yX6_unionOf wsX6_unionOf) := goodIn_app (goodIn_of _ (by decide +kernel)) ggX6_members_X6_unionOf
theorem dX6_members_0 : decode cX6_members 0 = .ok (.iconst 0, 1) := by decide +kernel
theorem dX6_members_1 : decode cX6_members 1 = .ok (.istore_n 2, 1) := by decide +kernel
theorem dX6_members_2 : decode cX6_members 2 = .ok (.iconst 0, 1) := by decide +kernel
theorem dX6_members_3 : decode cX6_members 3 = .ok (.istore_n 3, 1) := by decide +kernel
theorem dX6_members_4 : decode cX6_members 4 = .ok (.iload_n 3, 1) := by decide +kernel
theorem dX6_members_5 : decode cX6_members 5 = .ok (.aload_n 0, 1) := by decide +kernel
theorem dX6_members_6 : decode cX6_members 6 = .ok (.invokevirtual 66, 3) := by decide +kernel
theorem dX6_members_9 : decode cX6_members 9 = .ok (.if_icmp .ge 28, 3) := by decide +kernel
theorem dX6_members_12 : decode cX6_members 12 = .ok (.iload_n 2, 1) := by decide +kernel
theorem dX6_members_13 : decode cX6_members 13 = .ok (.aload_n 0, 1) := by decide +kernel
theorem dX6_members_14 : decode cX6_members 14 = .ok (.iload_n 3, 1) := by decide +kernel
theorem dX6_members_15 : decode cX6_members 15 = .ok (.invokevirtual 125, 3) := by decide +kernel
theorem dX6_members_18 : decode cX6_members 18 = .ok (.iload_n 1, 1) := by decide +kernel
theorem dX6_members_19 : decode cX6_members 19 = .ok (.if_icmp .ne 9, 3) := by decide +kernel
theorem dX6_members_22 : decode cX6_members 22 = .ok (.iconst 1, 1) := by decide +kernel
theorem dX6_members_23 : decode cX6_members 23 = .ok (.iload_n 3, 1) := by decide +kernel
theorem dX6_members_24 : decode cX6_members 24 = .ok (.ishl, 1) := by decide +kernel
theorem dX6_members_25 : decode cX6_members 25 = .ok (.goto 4, 3) := by decide +kernel
theorem dX6_members_28 : decode cX6_members 28 = .ok (.iconst 0, 1) := by decide +kernel
theorem dX6_members_29 : decode cX6_members 29 = .ok (.ior, 1) := by decide +kernel
theorem dX6_members_30 : decode cX6_members 30 = .ok (.istore_n 2, 1) := by decide +kernel
theorem dX6_members_31 : decode cX6_members 31 = .ok (.iinc 3 1, 3) := by decide +kernel
theorem dX6_members_34 : decode cX6_members 34 = .ok (.goto (-30), 3) := by decide +kernel
theorem dX6_members_37 : decode cX6_members 37 = .ok (.iload_n 2, 1) := by decide +kernel
theorem dX6_members_38 : decode cX6_members 38 = .ok (.ireturn, 1) := by decide +kernel
set_option maxRecDepth 20000 in
theorem ggX6_unions_X6_n : GoodIn wsX6_unions wsX6_n := goodIn_r _ [5, 6, 11, 12, 13, 14, 15, 16, 17, 18, 19, 20, 21, 22, 23, 24, 25, 26] (by decide +kernel) (by decide +kernel)
set_option maxRecDepth 20000 in
theorem gX6_unions_X6_n : GoodIn wsX6_unions (wsV RX6 66 RX6 yX6_n wsX6_n) := goodIn_app (goodIn_of _ (by decide +kernel)) ggX6_unions_X6_n
set_option maxRecDepth 20000 in
theorem ggX6_unions_X6_unionOf : GoodIn wsX6_unions wsX6_unionOf := goodIn_r _ [10, 6, 11, 12, 13, 14, 15, 16, 17, 18, 19, 20, 21, 22, 23, 24, 25, 26] (by decide +kernel) (by decide +kernel)
set_option maxRecDepth 20000 in
theorem gX6_unions_X6_unionOf : GoodIn wsX6_unions (wsV RX6 125 RX6 yX6_unionOf wsX6_unionOf) := goodIn_app (goodIn_of _ (by decide +kernel)) ggX6_unions_X6_unionOf
theorem dX6_unions_0 : decode cX6_unions 0 = .ok (.iconst 0, 1) := by decide +kernel
theorem dX6_unions_1 : decode cX6_unions 1 = .ok (.istore_n 1, 1) := by decide +kernel
theorem dX6_unions_2 : decode cX6_unions 2 = .ok (.iconst 0, 1) := by decide +kernel
theorem dX6_unions_3 : decode cX6_unions 3 = .ok (.istore_n 2, 1) := by decide +kernel
theorem dX6_unions_4 : decode cX6_unions 4 = .ok (.iload_n 2, 1) := by decide +kernel
theorem dX6_unions_5 : decode cX6_unions 5 = .ok (.aload_n 0, 1) := by decide +kernel
theorem dX6_unions_6 : decode cX6_unions 6 = .ok (.invokevirtual 66, 3) := by decide +kernel
theorem dX6_unions_9 : decode cX6_unions 9 = .ok (.if_icmp .ge 26, 3) := by decide +kernel
theorem dX6_unions_12 : decode cX6_unions 12 = .ok (.iload_n 1, 1) := by decide +kernel
theorem dX6_unions_13 : decode cX6_unions 13 = .ok (.aload_n 0, 1) := by decide +kernel
theorem dX6_unions_14 : decode cX6_unions 14 = .ok (.iload_n 2, 1) := by decide +kernel
theorem dX6_unions_15 : decode cX6_unions 15 = .ok (.invokevirtual 125, 3) := by decide +kernel
theorem dX6_unions_18 : decode cX6_unions 18 = .ok (.iload_n 2, 1) := by decide +kernel
theorem dX6_unions_19 : decode cX6_unions 19 = .ok (.if_icmp .ne 7, 3) := by decide +kernel
theorem dX6_unions_22 : decode cX6_unions 22 = .ok (.iconst 1, 1) := by decide +kernel
theorem dX6_unions_23 : decode cX6_unions 23 = .ok (.goto 4, 3) := by decide +kernel
theorem dX6_unions_26 : decode cX6_unions 26 = .ok (.iconst 0, 1) := by decide +kernel
theorem dX6_unions_27 : decode cX6_unions 27 = .ok (.iadd, 1) := by decide +kernel
theorem dX6_unions_28 : decode cX6_unions 28 = .ok (.istore_n 1, 1) := by decide +kernel
theorem dX6_unions_29 : decode cX6_unions 29 = .ok (.iinc 2 1, 3) := by decide +kernel
theorem dX6_unions_32 : decode cX6_unions 32 = .ok (.goto (-28), 3) := by decide +kernel
theorem dX6_unions_35 : decode cX6_unions 35 = .ok (.iload_n 1, 1) := by decide +kernel
theorem dX6_unions_36 : decode cX6_unions 36 = .ok (.ireturn, 1) := by decide +kernel
set_option maxRecDepth 20000 in
theorem ggX6_whole_X6_n : GoodIn wsX6_whole wsX6_n := goodIn_r _ [5, 6, 15, 16, 17, 18, 19, 20, 21, 22, 23, 24, 25, 26, 27, 28, 29, 30] (by decide +kernel) (by decide +kernel)
set_option maxRecDepth 20000 in
theorem gX6_whole_X6_n : GoodIn wsX6_whole (wsV RX6 66 RX6 yX6_n wsX6_n) := goodIn_app (goodIn_of _ (by decide +kernel)) ggX6_whole_X6_n
set_option maxRecDepth 20000 in
theorem ggX6_whole_X6_members : GoodIn wsX6_whole wsX6_members := goodIn_r _ [10, 1, 2, 3, 4, 5, 6, 11, 12, 13, 14, 15, 16, 17, 18, 19, 20, 21, 22, 23, 24, 25, 26, 27, 28, 29, 30] (by decide +kernel) (by decide +kernel)
set_option maxRecDepth 20000 in
theorem gX6_whole_X6_members : GoodIn wsX6_whole (wsV RX6 242 RX6 yX6_members wsX6_members) := goodIn_app (goodIn_of _ (by decide +kernel)) ggX6_whole_X6_members
theorem dX6_whole_0 : decode cX6_whole 0 = .ok (.iconst 0, 1) := by decide +kernel
theorem dX6_whole_1 : decode cX6_whole 1 = .ok (.istore_n 3, 1) := by decide +kernel
theorem dX6_whole_2 : decode cX6_whole 2 = .ok (.iconst 0, 1) := by decide +kernel
theorem dX6_whole_3 : decode cX6_whole 3 = .ok (.istore 4, 2) := by decide +kernel
theorem dX6_whole_5 : decode cX6_whole 5 = .ok (.iload 4, 2) := by decide +kernel
theorem dX6_whole_7 : decode cX6_whole 7 = .ok (.aload_n 0, 1) := by decide +kernel
theorem dX6_whole_8 : decode cX6_whole 8 = .ok (.invokevirtual 66, 3) := by decide +kernel
theorem dX6_whole_11 : decode cX6_whole 11 = .ok (.if_icmp .ge 52, 3) := by decide +kernel
theorem dX6_whole_14 : decode cX6_whole 14 = .ok (.aload_n 0, 1) := by decide +kernel
theorem dX6_whole_15 : decode cX6_whole 15 = .ok (.iload 4, 2) := by decide +kernel
theorem dX6_whole_17 : decode cX6_whole 17 = .ok (.invokevirtual 242, 3) := by decide +kernel
theorem dX6_whole_20 : decode cX6_whole 20 = .ok (.istore 5, 2) := by decide +kernel
theorem dX6_whole_22 : decode cX6_whole 22 = .ok (.iload 5, 2) := by decide +kernel
theorem dX6_whole_24 : decode cX6_whole 24 = .ok (.ifCond .eq 33, 3) := by decide +kernel
theorem dX6_whole_27 : decode cX6_whole 27 = .ok (.iload 4, 2) := by decide +kernel
theorem dX6_whole_29 : decode cX6_whole 29 = .ok (.iload_n 2, 1) := by decide +kernel
theorem dX6_whole_30 : decode cX6_whole 30 = .ok (.if_icmp .eq 27, 3) := by decide +kernel
theorem dX6_whole_33 : decode cX6_whole 33 = .ok (.iload_n 1, 1) := by decide +kernel
theorem dX6_whole_34 : decode cX6_whole 34 = .ok (.iload 5, 2) := by decide +kernel
theorem dX6_whole_36 : decode cX6_whole 36 = .ok (.iand, 1) := by decide +kernel
theorem dX6_whole_37 : decode cX6_whole 37 = .ok (.ifCond .ne 6, 3) := by decide +kernel
theorem dX6_whole_40 : decode cX6_whole 40 = .ok (.goto 17, 3) := by decide +kernel
theorem dX6_whole_43 : decode cX6_whole 43 = .ok (.iload_n 1, 1) := by decide +kernel
theorem dX6_whole_44 : decode cX6_whole 44 = .ok (.iload 5, 2) := by decide +kernel
theorem dX6_whole_46 : decode cX6_whole 46 = .ok (.iand, 1) := by decide +kernel
theorem dX6_whole_47 : decode cX6_whole 47 = .ok (.iload 5, 2) := by decide +kernel
theorem dX6_whole_49 : decode cX6_whole 49 = .ok (.if_icmp .eq 5, 3) := by decide +kernel
theorem dX6_whole_52 : decode cX6_whole 52 = .ok (.iconst (-1), 1) := by decide +kernel
theorem dX6_whole_53 : decode cX6_whole 53 = .ok (.ireturn, 1) := by decide +kernel
theorem dX6_whole_54 : decode cX6_whole 54 = .ok (.iinc 3 1, 3) := by decide +kernel
theorem dX6_whole_57 : decode cX6_whole 57 = .ok (.iinc 4 1, 3) := by decide +kernel
theorem dX6_whole_60 : decode cX6_whole 60 = .ok (.goto (-55), 3) := by decide +kernel
theorem dX6_whole_63 : decode cX6_whole 63 = .ok (.iload_n 3, 1) := by decide +kernel
theorem dX6_whole_64 : decode cX6_whole 64 = .ok (.ireturn, 1) := by decide +kernel
set_option maxRecDepth 20000 in
theorem ggX6_owenOf_X6_whole : GoodIn wsX6_owenOf wsX6_whole := goodIn_r _ [6, 7, 8, 9, 5, 10, 11, 12, 13, 14, 15, 16, 17, 18, 19, 27, 28, 29, 30, 31, 32, 33, 34, 35, 36, 37, 38, 39, 40, 41, 42] (by decide +kernel) (by decide +kernel)
set_option maxRecDepth 20000 in
theorem gX6_owenOf_X6_whole : GoodIn wsX6_owenOf (wsV RX6 245 RX6 yX6_whole wsX6_whole) := goodIn_app (goodIn_of _ (by decide +kernel)) ggX6_owenOf_X6_whole
set_option maxRecDepth 20000 in
theorem ggX6_owenOf_X6_members : GoodIn wsX6_owenOf wsX6_members := goodIn_r _ [15, 7, 8, 9, 5, 10, 11, 16, 17, 18, 19, 27, 28, 29, 30, 31, 32, 33, 34, 35, 36, 37, 38, 39, 40, 41, 42] (by decide +kernel) (by decide +kernel)
set_option maxRecDepth 20000 in
theorem gX6_owenOf_X6_members : GoodIn wsX6_owenOf (wsV RX6 242 RX6 yX6_members wsX6_members) := goodIn_app (goodIn_of _ (by decide +kernel)) ggX6_owenOf_X6_members
set_option maxRecDepth 20000 in
theorem ggX6_owenOf_X6_size : GoodIn wsX6_owenOf wsX6_size := goodIn_r _ [22] (by decide +kernel) (by decide +kernel)
set_option maxRecDepth 20000 in
theorem gX6_owenOf_X6_size : GoodIn wsX6_owenOf (va_wsS RX6 190 yX6_size wsX6_size) := goodIn_app (goodIn_of _ (by decide +kernel)) ggX6_owenOf_X6_size
set_option maxRecDepth 20000 in
theorem ggX6_owenOf_X6_unions : GoodIn wsX6_owenOf wsX6_unions := goodIn_r _ [26, 7, 8, 9, 5, 10, 11, 16, 17, 18, 19, 27, 28, 29, 30, 31, 32, 33, 34, 35, 36, 37, 38, 39, 40, 41, 42] (by decide +kernel) (by decide +kernel)
set_option maxRecDepth 20000 in
theorem gX6_owenOf_X6_unions : GoodIn wsX6_owenOf (wsV RX6 248 RX6 yX6_unions wsX6_unions) := goodIn_app (goodIn_of _ (by decide +kernel)) ggX6_owenOf_X6_unions
theorem dX6_owenOf_0 : decode cX6_owenOf 0 = .ok (.aload_n 0, 1) := by decide +kernel
theorem dX6_owenOf_1 : decode cX6_owenOf 1 = .ok (.iload_n 1, 1) := by decide +kernel
theorem dX6_owenOf_2 : decode cX6_owenOf 2 = .ok (.iload_n 2, 1) := by decide +kernel
theorem dX6_owenOf_3 : decode cX6_owenOf 3 = .ok (.invokevirtual 245, 3) := by decide +kernel
theorem dX6_owenOf_6 : decode cX6_owenOf 6 = .ok (.istore_n 3, 1) := by decide +kernel
theorem dX6_owenOf_7 : decode cX6_owenOf 7 = .ok (.iload_n 1, 1) := by decide +kernel
theorem dX6_owenOf_8 : decode cX6_owenOf 8 = .ok (.aload_n 0, 1) := by decide +kernel
theorem dX6_owenOf_9 : decode cX6_owenOf 9 = .ok (.iload_n 2, 1) := by decide +kernel
theorem dX6_owenOf_10 : decode cX6_owenOf 10 = .ok (.invokevirtual 242, 3) := by decide +kernel
theorem dX6_owenOf_13 : decode cX6_owenOf 13 = .ok (.iand, 1) := by decide +kernel
theorem dX6_owenOf_14 : decode cX6_owenOf 14 = .ok (.invokestatic 190, 3) := by decide +kernel
theorem dX6_owenOf_17 : decode cX6_owenOf 17 = .ok (.istore 4, 2) := by decide +kernel
theorem dX6_owenOf_19 : decode cX6_owenOf 19 = .ok (.aload_n 0, 1) := by decide +kernel
theorem dX6_owenOf_20 : decode cX6_owenOf 20 = .ok (.getfield 21, 3) := by decide +kernel
theorem dX6_owenOf_23 : decode cX6_owenOf 23 = .ok (.iload_n 3, 1) := by decide +kernel
theorem dX6_owenOf_24 : decode cX6_owenOf 24 = .ok (.laload, 1) := by decide +kernel
theorem dX6_owenOf_25 : decode cX6_owenOf 25 = .ok (.aload_n 0, 1) := by decide +kernel
theorem dX6_owenOf_26 : decode cX6_owenOf 26 = .ok (.getfield 21, 3) := by decide +kernel
theorem dX6_owenOf_29 : decode cX6_owenOf 29 = .ok (.aload_n 0, 1) := by decide +kernel
theorem dX6_owenOf_30 : decode cX6_owenOf 30 = .ok (.invokevirtual 248, 3) := by decide +kernel
theorem dX6_owenOf_33 : decode cX6_owenOf 33 = .ok (.iload_n 3, 1) := by decide +kernel
theorem dX6_owenOf_34 : decode cX6_owenOf 34 = .ok (.isub, 1) := by decide +kernel
theorem dX6_owenOf_35 : decode cX6_owenOf 35 = .ok (.iconst 1, 1) := by decide +kernel
theorem dX6_owenOf_36 : decode cX6_owenOf 36 = .ok (.isub, 1) := by decide +kernel
theorem dX6_owenOf_37 : decode cX6_owenOf 37 = .ok (.laload, 1) := by decide +kernel
theorem dX6_owenOf_38 : decode cX6_owenOf 38 = .ok (.lmul, 1) := by decide +kernel
theorem dX6_owenOf_39 : decode cX6_owenOf 39 = .ok (.aload_n 0, 1) := by decide +kernel
theorem dX6_owenOf_40 : decode cX6_owenOf 40 = .ok (.getfield 21, 3) := by decide +kernel
theorem dX6_owenOf_43 : decode cX6_owenOf 43 = .ok (.iload 4, 2) := by decide +kernel
theorem dX6_owenOf_45 : decode cX6_owenOf 45 = .ok (.laload, 1) := by decide +kernel
theorem dX6_owenOf_46 : decode cX6_owenOf 46 = .ok (.lmul, 1) := by decide +kernel
theorem dX6_owenOf_47 : decode cX6_owenOf 47 = .ok (.aload_n 0, 1) := by decide +kernel
theorem dX6_owenOf_48 : decode cX6_owenOf 48 = .ok (.getfield 21, 3) := by decide +kernel
theorem dX6_owenOf_51 : decode cX6_owenOf 51 = .ok (.aload_n 0, 1) := by decide +kernel
theorem dX6_owenOf_52 : decode cX6_owenOf 52 = .ok (.iload_n 2, 1) := by decide +kernel
theorem dX6_owenOf_53 : decode cX6_owenOf 53 = .ok (.invokevirtual 242, 3) := by decide +kernel
theorem dX6_owenOf_56 : decode cX6_owenOf 56 = .ok (.invokestatic 190, 3) := by decide +kernel
theorem dX6_owenOf_59 : decode cX6_owenOf 59 = .ok (.iload 4, 2) := by decide +kernel
theorem dX6_owenOf_61 : decode cX6_owenOf 61 = .ok (.isub, 1) := by decide +kernel
theorem dX6_owenOf_62 : decode cX6_owenOf 62 = .ok (.iconst 1, 1) := by decide +kernel
theorem dX6_owenOf_63 : decode cX6_owenOf 63 = .ok (.isub, 1) := by decide +kernel
theorem dX6_owenOf_64 : decode cX6_owenOf 64 = .ok (.laload, 1) := by decide +kernel
theorem dX6_owenOf_65 : decode cX6_owenOf 65 = .ok (.lmul, 1) := by decide +kernel
theorem dX6_owenOf_66 : decode cX6_owenOf 66 = .ok (.lreturn, 1) := by decide +kernel
set_option maxRecDepth 20000 in
theorem ggX6_owen_X6_isGame : GoodIn wsX6_owen wsX6_isGame := goodIn_r _ [7, 8, 9, 10, 6, 11] (by decide +kernel) (by decide +kernel)
set_option maxRecDepth 20000 in
theorem gX6_owen_X6_isGame : GoodIn wsX6_owen (va_wsS RX6 85 yX6_isGame wsX6_isGame) := goodIn_app (goodIn_of _ (by decide +kernel)) ggX6_owen_X6_isGame
set_option maxRecDepth 20000 in
theorem ggX6_owen_X6_isPartner : GoodIn wsX6_owen wsX6_isPartner := goodIn_r _ [15, 16, 17, 18, 6, 19, 20, 9, 10, 11, 78, 79, 80, 81, 82, 83, 84, 85, 86, 87, 88, 89, 90, 91, 92, 93] (by decide +kernel) (by decide +kernel)
set_option maxRecDepth 20000 in
theorem gX6_owen_X6_isPartner : GoodIn wsX6_owen (wsV RX6 74 RX6 yX6_isPartner wsX6_isPartner) := goodIn_app (goodIn_of _ (by decide +kernel)) ggX6_owen_X6_isPartner
set_option maxRecDepth 20000 in
theorem ggX6_owen_X6_isIn : GoodIn wsX6_owen wsX6_isIn := goodIn_r _ [11] (by decide +kernel) (by decide +kernel)
set_option maxRecDepth 20000 in
theorem gX6_owen_X6_isIn : GoodIn wsX6_owen (va_wsS RX6 70 yX6_isIn wsX6_isIn) := goodIn_app (goodIn_of _ (by decide +kernel)) ggX6_owen_X6_isIn
set_option maxRecDepth 20000 in
theorem ggX6_owen_X6_unionOf : GoodIn wsX6_owen wsX6_unionOf := goodIn_r _ [24, 20, 78, 79, 80, 81, 82, 83, 84, 85, 86, 87, 88, 89, 90, 91, 92, 93] (by decide +kernel) (by decide +kernel)
set_option maxRecDepth 20000 in
theorem gX6_owen_X6_unionOf : GoodIn wsX6_owen (wsV RX6 125 RX6 yX6_unionOf wsX6_unionOf) := goodIn_app (goodIn_of _ (by decide +kernel)) ggX6_owen_X6_unionOf
set_option maxRecDepth 20000 in
theorem ggX6_owen_X6_all : GoodIn wsX6_owen wsX6_all := goodIn_r _ [28, 16, 17, 18, 6, 19, 20, 78, 79, 80, 81, 82, 83, 84, 85, 86, 87, 88, 89, 90, 91, 92, 93] (by decide +kernel) (by decide +kernel)
set_option maxRecDepth 20000 in
theorem gX6_owen_X6_all : GoodIn wsX6_owen (wsV RX6 80 RX6 yX6_all wsX6_all) := goodIn_app (goodIn_of _ (by decide +kernel)) ggX6_owen_X6_all
set_option maxRecDepth 20000 in
theorem ggX6_owen_X6_has : GoodIn wsX6_owen wsX6_has := goodIn_r _ [31] (by decide +kernel) (by decide +kernel)
set_option maxRecDepth 20000 in
theorem gX6_owen_X6_has : GoodIn wsX6_owen (va_wsS RX6 164 yX6_has wsX6_has) := goodIn_app (goodIn_of _ (by decide +kernel)) ggX6_owen_X6_has
set_option maxRecDepth 20000 in
theorem ggX6_owen_X6_whole : GoodIn wsX6_owen wsX6_whole := goodIn_r _ [35, 16, 17, 18, 6, 19, 20, 36, 37, 38, 39, 21, 22, 23, 24, 78, 79, 80, 81, 82, 83, 84, 85, 86, 87, 88, 89, 90, 91, 92, 93] (by decide +kernel) (by decide +kernel)
set_option maxRecDepth 20000 in
theorem gX6_owen_X6_whole : GoodIn wsX6_owen (wsV RX6 245 RX6 yX6_whole wsX6_whole) := goodIn_app (goodIn_of _ (by decide +kernel)) ggX6_owen_X6_whole
set_option maxRecDepth 20000 in
theorem ggX6_owen_X6_gain : GoodIn wsX6_owen wsX6_gain := goodIn_r _ [43, 44, 45, 46, 6, 47, 20, 48, 49, 50, 51, 2, 78, 79, 80, 81, 82, 83, 84, 85, 86, 87, 88, 89, 90, 91, 92, 93] (by decide +kernel) (by decide +kernel)
set_option maxRecDepth 20000 in
theorem gX6_owen_X6_gain : GoodIn wsX6_owen (wsV RX6 230 RX6 yX6_gain wsX6_gain) := goodIn_app (goodIn_of _ (by decide +kernel)) ggX6_owen_X6_gain
set_option maxRecDepth 20000 in
theorem ggX6_owen_X6_owenOf : GoodIn wsX6_owen wsX6_owenOf := goodIn_r _ [55, 3, 32, 33, 34, 6, 35, 16, 17, 18, 19, 20, 36, 37, 38, 39, 21, 22, 23, 24, 56, 57, 58, 59, 60, 61, 62, 78, 79, 80, 81, 82, 83, 84, 85, 86, 87, 88, 89, 90, 91, 92, 93] (by decide +kernel) (by decide +kernel)
set_option maxRecDepth 20000 in
theorem gX6_owen_X6_owenOf : GoodIn wsX6_owen (wsV RX6 251 RX6 yX6_owenOf wsX6_owenOf) := goodIn_app (goodIn_of _ (by decide +kernel)) ggX6_owen_X6_owenOf
set_option maxRecDepth 20000 in
theorem ggX6_owen_X6_product : GoodIn wsX6_owen wsX6_product := goodIn_r _ [66, 2, 67, 1, 78, 79, 80, 81, 82, 83, 84, 85, 86, 87, 88, 89, 90, 91, 92, 93] (by decide +kernel) (by decide +kernel)
set_option maxRecDepth 20000 in
theorem gX6_owen_X6_product : GoodIn wsX6_owen (wsV RX6 204 RX6 yX6_product wsX6_product) := goodIn_app (goodIn_of _ (by decide +kernel)) ggX6_owen_X6_product
set_option maxRecDepth 20000 in
theorem ggX6_owen_X6_plus : GoodIn wsX6_owen wsX6_plus := goodIn_r _ [71, 2, 78, 79, 80, 81, 82, 83, 84, 85, 86, 87, 88, 89, 90, 91, 92, 93] (by decide +kernel) (by decide +kernel)
set_option maxRecDepth 20000 in
theorem gX6_owen_X6_plus : GoodIn wsX6_owen (wsV RX6 196 RX6 yX6_plus wsX6_plus) := goodIn_app (goodIn_of _ (by decide +kernel)) ggX6_owen_X6_plus
set_option maxRecDepth 20000 in
theorem ggX6_owen_X6_unions : GoodIn wsX6_owen wsX6_unions := goodIn_r _ [62, 16, 17, 18, 6, 19, 20, 21, 22, 23, 24, 78, 79, 80, 81, 82, 83, 84, 85, 86, 87, 88, 89, 90, 91, 92, 93] (by decide +kernel) (by decide +kernel)
set_option maxRecDepth 20000 in
theorem gX6_owen_X6_unions : GoodIn wsX6_owen (wsV RX6 248 RX6 yX6_unions wsX6_unions) := goodIn_app (goodIn_of _ (by decide +kernel)) ggX6_owen_X6_unions
set_option maxRecDepth 20000 in
theorem ggX6_owen_X6_members : GoodIn wsX6_owen wsX6_members := goodIn_r _ [39, 16, 17, 18, 6, 19, 20, 21, 22, 23, 24, 78, 79, 80, 81, 82, 83, 84, 85, 86, 87, 88, 89, 90, 91, 92, 93] (by decide +kernel) (by decide +kernel)
set_option maxRecDepth 20000 in
theorem gX6_owen_X6_members : GoodIn wsX6_owen (wsV RX6 242 RX6 yX6_members wsX6_members) := goodIn_app (goodIn_of _ (by decide +kernel)) ggX6_owen_X6_members
set_option maxRecDepth 20000 in
theorem ggX6_owen_X6_size : GoodIn wsX6_owen wsX6_size := goodIn_r _ [58] (by decide +kernel) (by decide +kernel)
set_option maxRecDepth 20000 in
theorem gX6_owen_X6_size : GoodIn wsX6_owen (va_wsS RX6 190 yX6_size wsX6_size) := goodIn_app (goodIn_of _ (by decide +kernel)) ggX6_owen_X6_size
set_option maxRecDepth 20000 in
theorem ggX6_owen_X6_part : GoodIn wsX6_owen wsX6_part := goodIn_r _ [74, 75, 76, 6, 77] (by decide +kernel) (by decide +kernel)
set_option maxRecDepth 20000 in
theorem gX6_owen_X6_part : GoodIn wsX6_owen (va_wsS RX6 238 yX6_part wsX6_part) := goodIn_app (goodIn_of _ (by decide +kernel)) ggX6_owen_X6_part
theorem dX6_owen_0 : decode cX6_owen 0 = .ok (.iload_n 1, 1) := by decide +kernel
theorem dX6_owen_1 : decode cX6_owen 1 = .ok (.invokestatic 85, 3) := by decide +kernel
theorem dX6_owen_4 : decode cX6_owen 4 = .ok (.ifCond .eq 21, 3) := by decide +kernel
theorem dX6_owen_7 : decode cX6_owen 7 = .ok (.aload_n 0, 1) := by decide +kernel
theorem dX6_owen_8 : decode cX6_owen 8 = .ok (.iload_n 2, 1) := by decide +kernel
theorem dX6_owen_9 : decode cX6_owen 9 = .ok (.invokevirtual 74, 3) := by decide +kernel
theorem dX6_owen_12 : decode cX6_owen 12 = .ok (.ifCond .eq 13, 3) := by decide +kernel
theorem dX6_owen_15 : decode cX6_owen 15 = .ok (.iload_n 3, 1) := by decide +kernel
theorem dX6_owen_16 : decode cX6_owen 16 = .ok (.i2l, 1) := by decide +kernel
theorem dX6_owen_17 : decode cX6_owen 17 = .ok (.lconst 0, 1) := by decide +kernel
theorem dX6_owen_18 : decode cX6_owen 18 = .ok (.lconst 1, 1) := by decide +kernel
theorem dX6_owen_19 : decode cX6_owen 19 = .ok (.invokestatic 70, 3) := by decide +kernel
theorem dX6_owen_22 : decode cX6_owen 22 = .ok (.ifCond .ne 7, 3) := by decide +kernel
theorem dX6_owen_25 : decode cX6_owen 25 = .ok (.ldc2_w 60, 3) := by decide +kernel
theorem dX6_owen_28 : decode cX6_owen 28 = .ok (.lreturn, 1) := by decide +kernel
theorem dX6_owen_29 : decode cX6_owen 29 = .ok (.aload_n 0, 1) := by decide +kernel
theorem dX6_owen_30 : decode cX6_owen 30 = .ok (.iload_n 2, 1) := by decide +kernel
theorem dX6_owen_31 : decode cX6_owen 31 = .ok (.invokevirtual 125, 3) := by decide +kernel
theorem dX6_owen_34 : decode cX6_owen 34 = .ok (.istore 4, 2) := by decide +kernel
theorem dX6_owen_36 : decode cX6_owen 36 = .ok (.aload_n 0, 1) := by decide +kernel
theorem dX6_owen_37 : decode cX6_owen 37 = .ok (.iconst 0, 1) := by decide +kernel
theorem dX6_owen_38 : decode cX6_owen 38 = .ok (.putfield 54, 3) := by decide +kernel
theorem dX6_owen_41 : decode cX6_owen 41 = .ok (.lconst 0, 1) := by decide +kernel
theorem dX6_owen_42 : decode cX6_owen 42 = .ok (.lstore 5, 2) := by decide +kernel
theorem dX6_owen_44 : decode cX6_owen 44 = .ok (.iconst 0, 1) := by decide +kernel
theorem dX6_owen_45 : decode cX6_owen 45 = .ok (.istore 7, 2) := by decide +kernel
theorem dX6_owen_47 : decode cX6_owen 47 = .ok (.iload 7, 2) := by decide +kernel
theorem dX6_owen_49 : decode cX6_owen 49 = .ok (.aload_n 0, 1) := by decide +kernel
theorem dX6_owen_50 : decode cX6_owen 50 = .ok (.invokevirtual 80, 3) := by decide +kernel
theorem dX6_owen_53 : decode cX6_owen 53 = .ok (.if_icmp .gt 57, 3) := by decide +kernel
theorem dX6_owen_56 : decode cX6_owen 56 = .ok (.iload 7, 2) := by decide +kernel
theorem dX6_owen_58 : decode cX6_owen 58 = .ok (.iload_n 2, 1) := by decide +kernel
theorem dX6_owen_59 : decode cX6_owen 59 = .ok (.invokestatic 164, 3) := by decide +kernel
theorem dX6_owen_62 : decode cX6_owen 62 = .ok (.ifCond .ne 42, 3) := by decide +kernel
theorem dX6_owen_65 : decode cX6_owen 65 = .ok (.aload_n 0, 1) := by decide +kernel
theorem dX6_owen_66 : decode cX6_owen 66 = .ok (.iload 7, 2) := by decide +kernel
theorem dX6_owen_68 : decode cX6_owen 68 = .ok (.iload 4, 2) := by decide +kernel
theorem dX6_owen_70 : decode cX6_owen 70 = .ok (.invokevirtual 245, 3) := by decide +kernel
theorem dX6_owen_73 : decode cX6_owen 73 = .ok (.ifCond .lt 31, 3) := by decide +kernel
theorem dX6_owen_76 : decode cX6_owen 76 = .ok (.aload_n 0, 1) := by decide +kernel
theorem dX6_owen_77 : decode cX6_owen 77 = .ok (.lload 5, 2) := by decide +kernel
theorem dX6_owen_79 : decode cX6_owen 79 = .ok (.aload_n 0, 1) := by decide +kernel
theorem dX6_owen_80 : decode cX6_owen 80 = .ok (.aload_n 0, 1) := by decide +kernel
theorem dX6_owen_81 : decode cX6_owen 81 = .ok (.iload_n 1, 1) := by decide +kernel
theorem dX6_owen_82 : decode cX6_owen 82 = .ok (.iload_n 2, 1) := by decide +kernel
theorem dX6_owen_83 : decode cX6_owen 83 = .ok (.iload 7, 2) := by decide +kernel
theorem dX6_owen_85 : decode cX6_owen 85 = .ok (.invokevirtual 230, 3) := by decide +kernel
theorem dX6_owen_88 : decode cX6_owen 88 = .ok (.aload_n 0, 1) := by decide +kernel
theorem dX6_owen_89 : decode cX6_owen 89 = .ok (.iload 7, 2) := by decide +kernel
theorem dX6_owen_91 : decode cX6_owen 91 = .ok (.iload 4, 2) := by decide +kernel
theorem dX6_owen_93 : decode cX6_owen 93 = .ok (.invokevirtual 251, 3) := by decide +kernel
theorem dX6_owen_96 : decode cX6_owen 96 = .ok (.invokevirtual 204, 3) := by decide +kernel
theorem dX6_owen_99 : decode cX6_owen 99 = .ok (.invokevirtual 196, 3) := by decide +kernel
theorem dX6_owen_102 : decode cX6_owen 102 = .ok (.lstore 5, 2) := by decide +kernel
theorem dX6_owen_104 : decode cX6_owen 104 = .ok (.iinc 7 1, 3) := by decide +kernel
theorem dX6_owen_107 : decode cX6_owen 107 = .ok (.goto (-60), 3) := by decide +kernel
theorem dX6_owen_110 : decode cX6_owen 110 = .ok (.aload_n 0, 1) := by decide +kernel
theorem dX6_owen_111 : decode cX6_owen 111 = .ok (.getfield 54, 3) := by decide +kernel
theorem dX6_owen_114 : decode cX6_owen 114 = .ok (.ifCond .eq 9, 3) := by decide +kernel
theorem dX6_owen_117 : decode cX6_owen 117 = .ok (.ldc2_w 60, 3) := by decide +kernel
theorem dX6_owen_120 : decode cX6_owen 120 = .ok (.goto 33, 3) := by decide +kernel
theorem dX6_owen_123 : decode cX6_owen 123 = .ok (.lload 5, 2) := by decide +kernel
theorem dX6_owen_125 : decode cX6_owen 125 = .ok (.aload_n 0, 1) := by decide +kernel
theorem dX6_owen_126 : decode cX6_owen 126 = .ok (.getfield 21, 3) := by decide +kernel
theorem dX6_owen_129 : decode cX6_owen 129 = .ok (.aload_n 0, 1) := by decide +kernel
theorem dX6_owen_130 : decode cX6_owen 130 = .ok (.invokevirtual 248, 3) := by decide +kernel
theorem dX6_owen_133 : decode cX6_owen 133 = .ok (.laload, 1) := by decide +kernel
theorem dX6_owen_134 : decode cX6_owen 134 = .ok (.aload_n 0, 1) := by decide +kernel
theorem dX6_owen_135 : decode cX6_owen 135 = .ok (.getfield 21, 3) := by decide +kernel
theorem dX6_owen_138 : decode cX6_owen 138 = .ok (.aload_n 0, 1) := by decide +kernel
theorem dX6_owen_139 : decode cX6_owen 139 = .ok (.iload 4, 2) := by decide +kernel
theorem dX6_owen_141 : decode cX6_owen 141 = .ok (.invokevirtual 242, 3) := by decide +kernel
theorem dX6_owen_144 : decode cX6_owen 144 = .ok (.invokestatic 190, 3) := by decide +kernel
theorem dX6_owen_147 : decode cX6_owen 147 = .ok (.laload, 1) := by decide +kernel
theorem dX6_owen_148 : decode cX6_owen 148 = .ok (.lmul, 1) := by decide +kernel
theorem dX6_owen_149 : decode cX6_owen 149 = .ok (.iload_n 3, 1) := by decide +kernel
theorem dX6_owen_150 : decode cX6_owen 150 = .ok (.invokestatic 238, 3) := by decide +kernel
theorem dX6_owen_153 : decode cX6_owen 153 = .ok (.lreturn, 1) := by decide +kernel
set_option maxRecDepth 20000 in
theorem ggX6_dividendOf_X6_v : GoodIn wsX6_dividendOf wsX6_v := goodIn_r _ [6, 7, 13, 14, 15, 16, 17, 18, 19, 20, 21, 22, 23, 24, 25, 26, 27, 28] (by decide +kernel) (by decide +kernel)
set_option maxRecDepth 20000 in
theorem gX6_dividendOf_X6_v : GoodIn wsX6_dividendOf (wsV RX6 95 RX6 yX6_v wsX6_v) := goodIn_app (goodIn_of _ (by decide +kernel)) ggX6_dividendOf_X6_v
set_option maxRecDepth 20000 in
theorem ggX6_dividendOf_X6_minus : GoodIn wsX6_dividendOf wsX6_minus := goodIn_r _ [11, 12, 13, 14, 15, 16, 17, 18, 19, 20, 21, 22, 23, 24, 25, 26, 27, 28] (by decide +kernel) (by decide +kernel)
set_option maxRecDepth 20000 in
theorem gX6_dividendOf_X6_minus : GoodIn wsX6_dividendOf (wsV RX6 207 RX6 yX6_minus wsX6_minus) := goodIn_app (goodIn_of _ (by decide +kernel)) ggX6_dividendOf_X6_minus
theorem dX6_dividendOf_0 : decode cX6_dividendOf 0 = .ok (.aload_n 0, 1) := by decide +kernel
theorem dX6_dividendOf_1 : decode cX6_dividendOf 1 = .ok (.iload_n 1, 1) := by decide +kernel
theorem dX6_dividendOf_2 : decode cX6_dividendOf 2 = .ok (.iload_n 2, 1) := by decide +kernel
theorem dX6_dividendOf_3 : decode cX6_dividendOf 3 = .ok (.invokevirtual 95, 3) := by decide +kernel
theorem dX6_dividendOf_6 : decode cX6_dividendOf 6 = .ok (.lstore_n 3, 1) := by decide +kernel
theorem dX6_dividendOf_7 : decode cX6_dividendOf 7 = .ok (.iconst 0, 1) := by decide +kernel
theorem dX6_dividendOf_8 : decode cX6_dividendOf 8 = .ok (.istore 5, 2) := by decide +kernel
theorem dX6_dividendOf_10 : decode cX6_dividendOf 10 = .ok (.iload 5, 2) := by decide +kernel
theorem dX6_dividendOf_12 : decode cX6_dividendOf 12 = .ok (.iload_n 2, 1) := by decide +kernel
theorem dX6_dividendOf_13 : decode cX6_dividendOf 13 = .ok (.if_icmp .ge 31, 3) := by decide +kernel
theorem dX6_dividendOf_16 : decode cX6_dividendOf 16 = .ok (.iload 5, 2) := by decide +kernel
theorem dX6_dividendOf_18 : decode cX6_dividendOf 18 = .ok (.iload_n 2, 1) := by decide +kernel
theorem dX6_dividendOf_19 : decode cX6_dividendOf 19 = .ok (.iconst (-1), 1) := by decide +kernel
theorem dX6_dividendOf_20 : decode cX6_dividendOf 20 = .ok (.ixor, 1) := by decide +kernel
theorem dX6_dividendOf_21 : decode cX6_dividendOf 21 = .ok (.iand, 1) := by decide +kernel
theorem dX6_dividendOf_22 : decode cX6_dividendOf 22 = .ok (.ifCond .ne 16, 3) := by decide +kernel
theorem dX6_dividendOf_25 : decode cX6_dividendOf 25 = .ok (.aload_n 0, 1) := by decide +kernel
theorem dX6_dividendOf_26 : decode cX6_dividendOf 26 = .ok (.lload_n 3, 1) := by decide +kernel
theorem dX6_dividendOf_27 : decode cX6_dividendOf 27 = .ok (.aload_n 0, 1) := by decide +kernel
theorem dX6_dividendOf_28 : decode cX6_dividendOf 28 = .ok (.getfield 18, 3) := by decide +kernel
theorem dX6_dividendOf_31 : decode cX6_dividendOf 31 = .ok (.iload 5, 2) := by decide +kernel
theorem dX6_dividendOf_33 : decode cX6_dividendOf 33 = .ok (.laload, 1) := by decide +kernel
theorem dX6_dividendOf_34 : decode cX6_dividendOf 34 = .ok (.invokevirtual 207, 3) := by decide +kernel
theorem dX6_dividendOf_37 : decode cX6_dividendOf 37 = .ok (.lstore_n 3, 1) := by decide +kernel
theorem dX6_dividendOf_38 : decode cX6_dividendOf 38 = .ok (.iinc 5 1, 3) := by decide +kernel
theorem dX6_dividendOf_41 : decode cX6_dividendOf 41 = .ok (.goto (-31), 3) := by decide +kernel
theorem dX6_dividendOf_44 : decode cX6_dividendOf 44 = .ok (.lload_n 3, 1) := by decide +kernel
theorem dX6_dividendOf_45 : decode cX6_dividendOf 45 = .ok (.lreturn, 1) := by decide +kernel
set_option maxRecDepth 20000 in
theorem ggX6_dividend_X6_isGame : GoodIn wsX6_dividend wsX6_isGame := goodIn_r _ [7, 8, 9, 10, 6, 11] (by decide +kernel) (by decide +kernel)
set_option maxRecDepth 20000 in
theorem gX6_dividend_X6_isGame : GoodIn wsX6_dividend (va_wsS RX6 85 yX6_isGame wsX6_isGame) := goodIn_app (goodIn_of _ (by decide +kernel)) ggX6_dividend_X6_isGame
set_option maxRecDepth 20000 in
theorem ggX6_dividend_X6_isSet : GoodIn wsX6_dividend wsX6_isSet := goodIn_r _ [15, 16, 17, 18, 6, 19, 20, 21, 22, 23, 24, 9, 10, 11, 37, 38, 39, 40, 41, 42, 43, 44, 45, 46, 47, 48, 49, 50, 51, 52] (by decide +kernel) (by decide +kernel)
set_option maxRecDepth 20000 in
theorem gX6_dividend_X6_isSet : GoodIn wsX6_dividend (wsV RX6 88 RX6 yX6_isSet wsX6_isSet) := goodIn_app (goodIn_of _ (by decide +kernel)) ggX6_dividend_X6_isSet
set_option maxRecDepth 20000 in
theorem ggX6_dividend_X6_dividendOf : GoodIn wsX6_dividend wsX6_dividendOf := goodIn_r _ [28, 3, 29, 30, 31, 6, 32, 24, 33, 34, 35, 36, 2, 37, 38, 39, 40, 41, 42, 43, 44, 45, 46, 47, 48, 49, 50, 51, 52] (by decide +kernel) (by decide +kernel)
set_option maxRecDepth 20000 in
theorem gX6_dividend_X6_dividendOf : GoodIn wsX6_dividend (wsV RX6 254 RX6 yX6_dividendOf wsX6_dividendOf) := goodIn_app (goodIn_of _ (by decide +kernel)) ggX6_dividend_X6_dividendOf
theorem dX6_dividend_0 : decode cX6_dividend 0 = .ok (.iload_n 1, 1) := by decide +kernel
theorem dX6_dividend_1 : decode cX6_dividend 1 = .ok (.invokestatic 85, 3) := by decide +kernel
theorem dX6_dividend_4 : decode cX6_dividend 4 = .ok (.ifCond .eq 11, 3) := by decide +kernel
theorem dX6_dividend_7 : decode cX6_dividend 7 = .ok (.aload_n 0, 1) := by decide +kernel
theorem dX6_dividend_8 : decode cX6_dividend 8 = .ok (.iload_n 2, 1) := by decide +kernel
theorem dX6_dividend_9 : decode cX6_dividend 9 = .ok (.invokevirtual 88, 3) := by decide +kernel
theorem dX6_dividend_12 : decode cX6_dividend 12 = .ok (.ifCond .ne 7, 3) := by decide +kernel
theorem dX6_dividend_15 : decode cX6_dividend 15 = .ok (.ldc2_w 60, 3) := by decide +kernel
theorem dX6_dividend_18 : decode cX6_dividend 18 = .ok (.lreturn, 1) := by decide +kernel
theorem dX6_dividend_19 : decode cX6_dividend 19 = .ok (.aload_n 0, 1) := by decide +kernel
theorem dX6_dividend_20 : decode cX6_dividend 20 = .ok (.iconst 0, 1) := by decide +kernel
theorem dX6_dividend_21 : decode cX6_dividend 21 = .ok (.putfield 54, 3) := by decide +kernel
theorem dX6_dividend_24 : decode cX6_dividend 24 = .ok (.iconst 0, 1) := by decide +kernel
theorem dX6_dividend_25 : decode cX6_dividend 25 = .ok (.istore_n 3, 1) := by decide +kernel
theorem dX6_dividend_26 : decode cX6_dividend 26 = .ok (.iload_n 3, 1) := by decide +kernel
theorem dX6_dividend_27 : decode cX6_dividend 27 = .ok (.iload_n 2, 1) := by decide +kernel
theorem dX6_dividend_28 : decode cX6_dividend 28 = .ok (.if_icmp .gt 29, 3) := by decide +kernel
theorem dX6_dividend_31 : decode cX6_dividend 31 = .ok (.iload_n 3, 1) := by decide +kernel
theorem dX6_dividend_32 : decode cX6_dividend 32 = .ok (.iload_n 2, 1) := by decide +kernel
theorem dX6_dividend_33 : decode cX6_dividend 33 = .ok (.iconst (-1), 1) := by decide +kernel
theorem dX6_dividend_34 : decode cX6_dividend 34 = .ok (.ixor, 1) := by decide +kernel
theorem dX6_dividend_35 : decode cX6_dividend 35 = .ok (.iand, 1) := by decide +kernel
theorem dX6_dividend_36 : decode cX6_dividend 36 = .ok (.ifCond .ne 15, 3) := by decide +kernel
theorem dX6_dividend_39 : decode cX6_dividend 39 = .ok (.aload_n 0, 1) := by decide +kernel
theorem dX6_dividend_40 : decode cX6_dividend 40 = .ok (.getfield 18, 3) := by decide +kernel
theorem dX6_dividend_43 : decode cX6_dividend 43 = .ok (.iload_n 3, 1) := by decide +kernel
theorem dX6_dividend_44 : decode cX6_dividend 44 = .ok (.aload_n 0, 1) := by decide +kernel
theorem dX6_dividend_45 : decode cX6_dividend 45 = .ok (.iload_n 1, 1) := by decide +kernel
theorem dX6_dividend_46 : decode cX6_dividend 46 = .ok (.iload_n 3, 1) := by decide +kernel
theorem dX6_dividend_47 : decode cX6_dividend 47 = .ok (.invokevirtual 254, 3) := by decide +kernel
theorem dX6_dividend_50 : decode cX6_dividend 50 = .ok (.lastore, 1) := by decide +kernel
theorem dX6_dividend_51 : decode cX6_dividend 51 = .ok (.iinc 3 1, 3) := by decide +kernel
theorem dX6_dividend_54 : decode cX6_dividend 54 = .ok (.goto (-28), 3) := by decide +kernel
theorem dX6_dividend_57 : decode cX6_dividend 57 = .ok (.aload_n 0, 1) := by decide +kernel
theorem dX6_dividend_58 : decode cX6_dividend 58 = .ok (.getfield 54, 3) := by decide +kernel
theorem dX6_dividend_61 : decode cX6_dividend 61 = .ok (.ifCond .eq 9, 3) := by decide +kernel
theorem dX6_dividend_64 : decode cX6_dividend 64 = .ok (.ldc2_w 60, 3) := by decide +kernel
theorem dX6_dividend_67 : decode cX6_dividend 67 = .ok (.goto 9, 3) := by decide +kernel
theorem dX6_dividend_70 : decode cX6_dividend 70 = .ok (.aload_n 0, 1) := by decide +kernel
theorem dX6_dividend_71 : decode cX6_dividend 71 = .ok (.getfield 18, 3) := by decide +kernel
theorem dX6_dividend_74 : decode cX6_dividend 74 = .ok (.iload_n 2, 1) := by decide +kernel
theorem dX6_dividend_75 : decode cX6_dividend 75 = .ok (.laload, 1) := by decide +kernel
theorem dX6_dividend_76 : decode cX6_dividend 76 = .ok (.lreturn, 1) := by decide +kernel
set_option maxRecDepth 20000 in
theorem ggX6_isSwing_X6_has : GoodIn wsX6_isSwing wsX6_has := goodIn_r _ [4] (by decide +kernel) (by decide +kernel)
set_option maxRecDepth 20000 in
theorem gX6_isSwing_X6_has : GoodIn wsX6_isSwing (va_wsS RX6 164 yX6_has wsX6_has) := goodIn_app (goodIn_of _ (by decide +kernel)) ggX6_isSwing_X6_has
set_option maxRecDepth 20000 in
theorem ggX6_isSwing_X6_wins : GoodIn wsX6_isSwing wsX6_wins := goodIn_r _ [8, 9, 10, 11, 12, 3, 13, 14, 15, 16, 17, 1, 2, 4, 18, 19, 20, 21, 22, 23, 24, 25, 26, 27, 28, 29, 30, 31, 32, 33] (by decide +kernel) (by decide +kernel)
set_option maxRecDepth 20000 in
theorem gX6_isSwing_X6_wins : GoodIn wsX6_isSwing (wsV RX6 173 RX6 yX6_wins wsX6_wins) := goodIn_app (goodIn_of _ (by decide +kernel)) ggX6_isSwing_X6_wins
theorem dX6_isSwing_0 : decode cX6_isSwing 0 = .ok (.iload_n 2, 1) := by decide +kernel
theorem dX6_isSwing_1 : decode cX6_isSwing 1 = .ok (.iload_n 1, 1) := by decide +kernel
theorem dX6_isSwing_2 : decode cX6_isSwing 2 = .ok (.invokestatic 164, 3) := by decide +kernel
theorem dX6_isSwing_5 : decode cX6_isSwing 5 = .ok (.ifCond .ne 27, 3) := by decide +kernel
theorem dX6_isSwing_8 : decode cX6_isSwing 8 = .ok (.aload_n 0, 1) := by decide +kernel
theorem dX6_isSwing_9 : decode cX6_isSwing 9 = .ok (.iload_n 2, 1) := by decide +kernel
theorem dX6_isSwing_10 : decode cX6_isSwing 10 = .ok (.invokevirtual 173, 3) := by decide +kernel
theorem dX6_isSwing_13 : decode cX6_isSwing 13 = .ok (.ifCond .ne 19, 3) := by decide +kernel
theorem dX6_isSwing_16 : decode cX6_isSwing 16 = .ok (.aload_n 0, 1) := by decide +kernel
theorem dX6_isSwing_17 : decode cX6_isSwing 17 = .ok (.iload_n 2, 1) := by decide +kernel
theorem dX6_isSwing_18 : decode cX6_isSwing 18 = .ok (.iconst 1, 1) := by decide +kernel
theorem dX6_isSwing_19 : decode cX6_isSwing 19 = .ok (.iload_n 1, 1) := by decide +kernel
theorem dX6_isSwing_20 : decode cX6_isSwing 20 = .ok (.ishl, 1) := by decide +kernel
theorem dX6_isSwing_21 : decode cX6_isSwing 21 = .ok (.ior, 1) := by decide +kernel
theorem dX6_isSwing_22 : decode cX6_isSwing 22 = .ok (.invokevirtual 173, 3) := by decide +kernel
theorem dX6_isSwing_25 : decode cX6_isSwing 25 = .ok (.ifCond .eq 7, 3) := by decide +kernel
theorem dX6_isSwing_28 : decode cX6_isSwing 28 = .ok (.iconst 1, 1) := by decide +kernel
theorem dX6_isSwing_29 : decode cX6_isSwing 29 = .ok (.goto 4, 3) := by decide +kernel
theorem dX6_isSwing_32 : decode cX6_isSwing 32 = .ok (.iconst 0, 1) := by decide +kernel
theorem dX6_isSwing_33 : decode cX6_isSwing 33 = .ok (.ireturn, 1) := by decide +kernel
set_option maxRecDepth 20000 in
theorem ggX6_swings_X6_isPartner : GoodIn wsX6_swings wsX6_isPartner := goodIn_r _ [5, 6, 7, 8, 4, 9, 10, 11, 12, 13, 33, 34, 35, 36, 37, 38, 39, 40, 41, 42, 43, 44, 45, 46, 47, 48] (by decide +kernel) (by decide +kernel)
set_option maxRecDepth 20000 in
theorem gX6_swings_X6_isPartner : GoodIn wsX6_swings (wsV RX6 74 RX6 yX6_isPartner wsX6_isPartner) := goodIn_app (goodIn_of _ (by decide +kernel)) ggX6_swings_X6_isPartner
set_option maxRecDepth 20000 in
theorem ggX6_swings_X6_isIn : GoodIn wsX6_swings wsX6_isIn := goodIn_r _ [13] (by decide +kernel) (by decide +kernel)
set_option maxRecDepth 20000 in
theorem gX6_swings_X6_isIn : GoodIn wsX6_swings (va_wsS RX6 70 yX6_isIn wsX6_isIn) := goodIn_app (goodIn_of _ (by decide +kernel)) ggX6_swings_X6_isIn
set_option maxRecDepth 20000 in
theorem ggX6_swings_X6_all : GoodIn wsX6_swings wsX6_all := goodIn_r _ [17, 6, 7, 8, 4, 9, 10, 33, 34, 35, 36, 37, 38, 39, 40, 41, 42, 43, 44, 45, 46, 47, 48] (by decide +kernel) (by decide +kernel)
set_option maxRecDepth 20000 in
theorem gX6_swings_X6_all : GoodIn wsX6_swings (wsV RX6 80 RX6 yX6_all wsX6_all) := goodIn_app (goodIn_of _ (by decide +kernel)) ggX6_swings_X6_all
set_option maxRecDepth 20000 in
theorem ggX6_swings_X6_isSwing : GoodIn wsX6_swings wsX6_isSwing := goodIn_r _ [21, 22, 23, 4, 24, 25, 26, 27, 28, 10, 29, 30, 31, 32, 6, 7, 8, 9, 33, 34, 35, 36, 37, 38, 39, 40, 41, 42, 43, 44, 45, 46, 47, 48] (by decide +kernel) (by decide +kernel)
set_option maxRecDepth 20000 in
theorem gX6_swings_X6_isSwing : GoodIn wsX6_swings (wsV RX6 257 RX6 yX6_isSwing wsX6_isSwing) := goodIn_app (goodIn_of _ (by decide +kernel)) ggX6_swings_X6_isSwing
theorem dX6_swings_0 : decode cX6_swings 0 = .ok (.aload_n 0, 1) := by decide +kernel
theorem dX6_swings_1 : decode cX6_swings 1 = .ok (.iload_n 1, 1) := by decide +kernel
theorem dX6_swings_2 : decode cX6_swings 2 = .ok (.invokevirtual 74, 3) := by decide +kernel
theorem dX6_swings_5 : decode cX6_swings 5 = .ok (.ifCond .eq 13, 3) := by decide +kernel
theorem dX6_swings_8 : decode cX6_swings 8 = .ok (.iload_n 2, 1) := by decide +kernel
theorem dX6_swings_9 : decode cX6_swings 9 = .ok (.i2l, 1) := by decide +kernel
theorem dX6_swings_10 : decode cX6_swings 10 = .ok (.lconst 0, 1) := by decide +kernel
theorem dX6_swings_11 : decode cX6_swings 11 = .ok (.lconst 1, 1) := by decide +kernel
theorem dX6_swings_12 : decode cX6_swings 12 = .ok (.invokestatic 70, 3) := by decide +kernel
theorem dX6_swings_15 : decode cX6_swings 15 = .ok (.ifCond .ne 5, 3) := by decide +kernel
theorem dX6_swings_18 : decode cX6_swings 18 = .ok (.iconst (-1), 1) := by decide +kernel
theorem dX6_swings_19 : decode cX6_swings 19 = .ok (.ireturn, 1) := by decide +kernel
theorem dX6_swings_20 : decode cX6_swings 20 = .ok (.iconst 0, 1) := by decide +kernel
theorem dX6_swings_21 : decode cX6_swings 21 = .ok (.istore_n 3, 1) := by decide +kernel
theorem dX6_swings_22 : decode cX6_swings 22 = .ok (.iconst 0, 1) := by decide +kernel
theorem dX6_swings_23 : decode cX6_swings 23 = .ok (.istore 4, 2) := by decide +kernel
theorem dX6_swings_25 : decode cX6_swings 25 = .ok (.iload 4, 2) := by decide +kernel
theorem dX6_swings_27 : decode cX6_swings 27 = .ok (.aload_n 0, 1) := by decide +kernel
theorem dX6_swings_28 : decode cX6_swings 28 = .ok (.invokevirtual 80, 3) := by decide +kernel
theorem dX6_swings_31 : decode cX6_swings 31 = .ok (.if_icmp .gt 27, 3) := by decide +kernel
theorem dX6_swings_34 : decode cX6_swings 34 = .ok (.iload_n 3, 1) := by decide +kernel
theorem dX6_swings_35 : decode cX6_swings 35 = .ok (.aload_n 0, 1) := by decide +kernel
theorem dX6_swings_36 : decode cX6_swings 36 = .ok (.iload_n 1, 1) := by decide +kernel
theorem dX6_swings_37 : decode cX6_swings 37 = .ok (.iload 4, 2) := by decide +kernel
theorem dX6_swings_39 : decode cX6_swings 39 = .ok (.invokevirtual 257, 3) := by decide +kernel
theorem dX6_swings_42 : decode cX6_swings 42 = .ok (.ifCond .eq 7, 3) := by decide +kernel
theorem dX6_swings_45 : decode cX6_swings 45 = .ok (.iconst 1, 1) := by decide +kernel
theorem dX6_swings_46 : decode cX6_swings 46 = .ok (.goto 4, 3) := by decide +kernel
theorem dX6_swings_49 : decode cX6_swings 49 = .ok (.iconst 0, 1) := by decide +kernel
theorem dX6_swings_50 : decode cX6_swings 50 = .ok (.iadd, 1) := by decide +kernel
theorem dX6_swings_51 : decode cX6_swings 51 = .ok (.istore_n 3, 1) := by decide +kernel
theorem dX6_swings_52 : decode cX6_swings 52 = .ok (.iinc 4 1, 3) := by decide +kernel
theorem dX6_swings_55 : decode cX6_swings 55 = .ok (.goto (-30), 3) := by decide +kernel
theorem dX6_swings_58 : decode cX6_swings 58 = .ok (.iload_n 3, 1) := by decide +kernel
theorem dX6_swings_59 : decode cX6_swings 59 = .ok (.ireturn, 1) := by decide +kernel
set_option maxRecDepth 20000 in
theorem ggX6_pivots_X6_isPartner : GoodIn wsX6_pivots wsX6_isPartner := goodIn_r _ [7, 8, 9, 10, 6, 11, 12, 13, 14, 15, 44, 45, 46, 47, 48, 49, 50, 51, 52, 53, 54, 55, 56, 57, 58, 59] (by decide +kernel) (by decide +kernel)
set_option maxRecDepth 20000 in
theorem gX6_pivots_X6_isPartner : GoodIn wsX6_pivots (wsV RX6 74 RX6 yX6_isPartner wsX6_isPartner) := goodIn_app (goodIn_of _ (by decide +kernel)) ggX6_pivots_X6_isPartner
set_option maxRecDepth 20000 in
theorem ggX6_pivots_X6_isIn : GoodIn wsX6_pivots wsX6_isIn := goodIn_r _ [15] (by decide +kernel) (by decide +kernel)
set_option maxRecDepth 20000 in
theorem gX6_pivots_X6_isIn : GoodIn wsX6_pivots (va_wsS RX6 70 yX6_isIn wsX6_isIn) := goodIn_app (goodIn_of _ (by decide +kernel)) ggX6_pivots_X6_isIn
set_option maxRecDepth 20000 in
theorem ggX6_pivots_X6_all : GoodIn wsX6_pivots wsX6_all := goodIn_r _ [19, 8, 9, 10, 6, 11, 12, 44, 45, 46, 47, 48, 49, 50, 51, 52, 53, 54, 55, 56, 57, 58, 59] (by decide +kernel) (by decide +kernel)
set_option maxRecDepth 20000 in
theorem gX6_pivots_X6_all : GoodIn wsX6_pivots (wsV RX6 80 RX6 yX6_all wsX6_all) := goodIn_app (goodIn_of _ (by decide +kernel)) ggX6_pivots_X6_all
set_option maxRecDepth 20000 in
theorem ggX6_pivots_X6_isSwing : GoodIn wsX6_pivots wsX6_isSwing := goodIn_r _ [23, 24, 25, 6, 26, 27, 28, 29, 30, 12, 31, 32, 33, 34, 8, 9, 10, 11, 44, 45, 46, 47, 48, 49, 50, 51, 52, 53, 54, 55, 56, 57, 58, 59] (by decide +kernel) (by decide +kernel)
set_option maxRecDepth 20000 in
theorem gX6_pivots_X6_isSwing : GoodIn wsX6_pivots (wsV RX6 257 RX6 yX6_isSwing wsX6_isSwing) := goodIn_app (goodIn_of _ (by decide +kernel)) ggX6_pivots_X6_isSwing
set_option maxRecDepth 20000 in
theorem ggX6_pivots_X6_size : GoodIn wsX6_pivots wsX6_size := goodIn_r _ [37] (by decide +kernel) (by decide +kernel)
set_option maxRecDepth 20000 in
theorem gX6_pivots_X6_size : GoodIn wsX6_pivots (va_wsS RX6 190 yX6_size wsX6_size) := goodIn_app (goodIn_of _ (by decide +kernel)) ggX6_pivots_X6_size
set_option maxRecDepth 20000 in
theorem ggX6_pivots_X6_n : GoodIn wsX6_pivots wsX6_n := goodIn_r _ [11, 12, 44, 45, 46, 47, 48, 49, 50, 51, 52, 53, 54, 55, 56, 57, 58, 59] (by decide +kernel) (by decide +kernel)
set_option maxRecDepth 20000 in
theorem gX6_pivots_X6_n : GoodIn wsX6_pivots (wsV RX6 66 RX6 yX6_n wsX6_n) := goodIn_app (goodIn_of _ (by decide +kernel)) ggX6_pivots_X6_n
set_option maxRecDepth 20000 in
theorem ggX6_pivots_X6_part : GoodIn wsX6_pivots wsX6_part := goodIn_r _ [40, 41, 42, 6, 43] (by decide +kernel) (by decide +kernel)
set_option maxRecDepth 20000 in
theorem gX6_pivots_X6_part : GoodIn wsX6_pivots (va_wsS RX6 238 yX6_part wsX6_part) := goodIn_app (goodIn_of _ (by decide +kernel)) ggX6_pivots_X6_part
theorem dX6_pivots_0 : decode cX6_pivots 0 = .ok (.aload_n 0, 1) := by decide +kernel
theorem dX6_pivots_1 : decode cX6_pivots 1 = .ok (.iload_n 1, 1) := by decide +kernel
theorem dX6_pivots_2 : decode cX6_pivots 2 = .ok (.invokevirtual 74, 3) := by decide +kernel
theorem dX6_pivots_5 : decode cX6_pivots 5 = .ok (.ifCond .eq 13, 3) := by decide +kernel
theorem dX6_pivots_8 : decode cX6_pivots 8 = .ok (.iload_n 2, 1) := by decide +kernel
theorem dX6_pivots_9 : decode cX6_pivots 9 = .ok (.i2l, 1) := by decide +kernel
theorem dX6_pivots_10 : decode cX6_pivots 10 = .ok (.lconst 0, 1) := by decide +kernel
theorem dX6_pivots_11 : decode cX6_pivots 11 = .ok (.lconst 1, 1) := by decide +kernel
theorem dX6_pivots_12 : decode cX6_pivots 12 = .ok (.invokestatic 70, 3) := by decide +kernel
theorem dX6_pivots_15 : decode cX6_pivots 15 = .ok (.ifCond .ne 7, 3) := by decide +kernel
theorem dX6_pivots_18 : decode cX6_pivots 18 = .ok (.ldc2_w 60, 3) := by decide +kernel
theorem dX6_pivots_21 : decode cX6_pivots 21 = .ok (.lreturn, 1) := by decide +kernel
theorem dX6_pivots_22 : decode cX6_pivots 22 = .ok (.lconst 0, 1) := by decide +kernel
theorem dX6_pivots_23 : decode cX6_pivots 23 = .ok (.lstore_n 3, 1) := by decide +kernel
theorem dX6_pivots_24 : decode cX6_pivots 24 = .ok (.iconst 0, 1) := by decide +kernel
theorem dX6_pivots_25 : decode cX6_pivots 25 = .ok (.istore 5, 2) := by decide +kernel
theorem dX6_pivots_27 : decode cX6_pivots 27 = .ok (.iload 5, 2) := by decide +kernel
theorem dX6_pivots_29 : decode cX6_pivots 29 = .ok (.aload_n 0, 1) := by decide +kernel
theorem dX6_pivots_30 : decode cX6_pivots 30 = .ok (.invokevirtual 80, 3) := by decide +kernel
theorem dX6_pivots_33 : decode cX6_pivots 33 = .ok (.if_icmp .gt 54, 3) := by decide +kernel
theorem dX6_pivots_36 : decode cX6_pivots 36 = .ok (.lload_n 3, 1) := by decide +kernel
theorem dX6_pivots_37 : decode cX6_pivots 37 = .ok (.aload_n 0, 1) := by decide +kernel
theorem dX6_pivots_38 : decode cX6_pivots 38 = .ok (.iload_n 1, 1) := by decide +kernel
theorem dX6_pivots_39 : decode cX6_pivots 39 = .ok (.iload 5, 2) := by decide +kernel
theorem dX6_pivots_41 : decode cX6_pivots 41 = .ok (.invokevirtual 257, 3) := by decide +kernel
theorem dX6_pivots_44 : decode cX6_pivots 44 = .ok (.ifCond .eq 34, 3) := by decide +kernel
theorem dX6_pivots_47 : decode cX6_pivots 47 = .ok (.aload_n 0, 1) := by decide +kernel
theorem dX6_pivots_48 : decode cX6_pivots 48 = .ok (.getfield 21, 3) := by decide +kernel
theorem dX6_pivots_51 : decode cX6_pivots 51 = .ok (.iload 5, 2) := by decide +kernel
theorem dX6_pivots_53 : decode cX6_pivots 53 = .ok (.invokestatic 190, 3) := by decide +kernel
theorem dX6_pivots_56 : decode cX6_pivots 56 = .ok (.laload, 1) := by decide +kernel
theorem dX6_pivots_57 : decode cX6_pivots 57 = .ok (.aload_n 0, 1) := by decide +kernel
theorem dX6_pivots_58 : decode cX6_pivots 58 = .ok (.getfield 21, 3) := by decide +kernel
theorem dX6_pivots_61 : decode cX6_pivots 61 = .ok (.aload_n 0, 1) := by decide +kernel
theorem dX6_pivots_62 : decode cX6_pivots 62 = .ok (.invokevirtual 66, 3) := by decide +kernel
theorem dX6_pivots_65 : decode cX6_pivots 65 = .ok (.iload 5, 2) := by decide +kernel
theorem dX6_pivots_67 : decode cX6_pivots 67 = .ok (.invokestatic 190, 3) := by decide +kernel
theorem dX6_pivots_70 : decode cX6_pivots 70 = .ok (.isub, 1) := by decide +kernel
theorem dX6_pivots_71 : decode cX6_pivots 71 = .ok (.iconst 1, 1) := by decide +kernel
theorem dX6_pivots_72 : decode cX6_pivots 72 = .ok (.isub, 1) := by decide +kernel
theorem dX6_pivots_73 : decode cX6_pivots 73 = .ok (.laload, 1) := by decide +kernel
theorem dX6_pivots_74 : decode cX6_pivots 74 = .ok (.lmul, 1) := by decide +kernel
theorem dX6_pivots_75 : decode cX6_pivots 75 = .ok (.goto 4, 3) := by decide +kernel
theorem dX6_pivots_78 : decode cX6_pivots 78 = .ok (.lconst 0, 1) := by decide +kernel
theorem dX6_pivots_79 : decode cX6_pivots 79 = .ok (.ladd, 1) := by decide +kernel
theorem dX6_pivots_80 : decode cX6_pivots 80 = .ok (.lstore_n 3, 1) := by decide +kernel
theorem dX6_pivots_81 : decode cX6_pivots 81 = .ok (.iinc 5 1, 3) := by decide +kernel
theorem dX6_pivots_84 : decode cX6_pivots 84 = .ok (.goto (-57), 3) := by decide +kernel
theorem dX6_pivots_87 : decode cX6_pivots 87 = .ok (.lload_n 3, 1) := by decide +kernel
theorem dX6_pivots_88 : decode cX6_pivots 88 = .ok (.aload_n 0, 1) := by decide +kernel
theorem dX6_pivots_89 : decode cX6_pivots 89 = .ok (.getfield 21, 3) := by decide +kernel
theorem dX6_pivots_92 : decode cX6_pivots 92 = .ok (.aload_n 0, 1) := by decide +kernel
theorem dX6_pivots_93 : decode cX6_pivots 93 = .ok (.invokevirtual 66, 3) := by decide +kernel
theorem dX6_pivots_96 : decode cX6_pivots 96 = .ok (.laload, 1) := by decide +kernel
theorem dX6_pivots_97 : decode cX6_pivots 97 = .ok (.iload_n 2, 1) := by decide +kernel
theorem dX6_pivots_98 : decode cX6_pivots 98 = .ok (.invokestatic 238, 3) := by decide +kernel
theorem dX6_pivots_101 : decode cX6_pivots 101 = .ok (.lreturn, 1) := by decide +kernel
set_option maxRecDepth 20000 in
theorem ggX6_isLeast_X6_wins : GoodIn wsX6_isLeast wsX6_wins := goodIn_r _ [5, 6, 7, 8, 9, 4, 10, 11, 12, 13, 14, 15, 16, 17, 18, 19, 20, 21, 22, 23, 24, 25, 26, 27, 28, 29, 30, 31, 32, 33] (by decide +kernel) (by decide +kernel)
set_option maxRecDepth 20000 in
theorem gX6_isLeast_X6_wins : GoodIn wsX6_isLeast (wsV RX6 173 RX6 yX6_wins wsX6_wins) := goodIn_app (goodIn_of _ (by decide +kernel)) ggX6_isLeast_X6_wins
set_option maxRecDepth 20000 in
theorem ggX6_isLeast_X6_n : GoodIn wsX6_isLeast wsX6_n := goodIn_r _ [14, 6, 18, 19, 20, 21, 22, 23, 24, 25, 26, 27, 28, 29, 30, 31, 32, 33] (by decide +kernel) (by decide +kernel)
set_option maxRecDepth 20000 in
theorem gX6_isLeast_X6_n : GoodIn wsX6_isLeast (wsV RX6 66 RX6 yX6_n wsX6_n) := goodIn_app (goodIn_of _ (by decide +kernel)) ggX6_isLeast_X6_n
set_option maxRecDepth 20000 in
theorem ggX6_isLeast_X6_has : GoodIn wsX6_isLeast wsX6_has := goodIn_r _ [17] (by decide +kernel) (by decide +kernel)
set_option maxRecDepth 20000 in
theorem gX6_isLeast_X6_has : GoodIn wsX6_isLeast (va_wsS RX6 164 yX6_has wsX6_has) := goodIn_app (goodIn_of _ (by decide +kernel)) ggX6_isLeast_X6_has
theorem dX6_isLeast_0 : decode cX6_isLeast 0 = .ok (.aload_n 0, 1) := by decide +kernel
theorem dX6_isLeast_1 : decode cX6_isLeast 1 = .ok (.iload_n 1, 1) := by decide +kernel
theorem dX6_isLeast_2 : decode cX6_isLeast 2 = .ok (.invokevirtual 173, 3) := by decide +kernel
theorem dX6_isLeast_5 : decode cX6_isLeast 5 = .ok (.ifCond .ne 5, 3) := by decide +kernel
theorem dX6_isLeast_8 : decode cX6_isLeast 8 = .ok (.iconst 0, 1) := by decide +kernel
theorem dX6_isLeast_9 : decode cX6_isLeast 9 = .ok (.ireturn, 1) := by decide +kernel
theorem dX6_isLeast_10 : decode cX6_isLeast 10 = .ok (.iconst 0, 1) := by decide +kernel
theorem dX6_isLeast_11 : decode cX6_isLeast 11 = .ok (.istore_n 2, 1) := by decide +kernel
theorem dX6_isLeast_12 : decode cX6_isLeast 12 = .ok (.iload_n 2, 1) := by decide +kernel
theorem dX6_isLeast_13 : decode cX6_isLeast 13 = .ok (.aload_n 0, 1) := by decide +kernel
theorem dX6_isLeast_14 : decode cX6_isLeast 14 = .ok (.invokevirtual 66, 3) := by decide +kernel
theorem dX6_isLeast_17 : decode cX6_isLeast 17 = .ok (.if_icmp .ge 33, 3) := by decide +kernel
theorem dX6_isLeast_20 : decode cX6_isLeast 20 = .ok (.iload_n 1, 1) := by decide +kernel
theorem dX6_isLeast_21 : decode cX6_isLeast 21 = .ok (.iload_n 2, 1) := by decide +kernel
theorem dX6_isLeast_22 : decode cX6_isLeast 22 = .ok (.invokestatic 164, 3) := by decide +kernel
theorem dX6_isLeast_25 : decode cX6_isLeast 25 = .ok (.ifCond .eq 19, 3) := by decide +kernel
theorem dX6_isLeast_28 : decode cX6_isLeast 28 = .ok (.aload_n 0, 1) := by decide +kernel
theorem dX6_isLeast_29 : decode cX6_isLeast 29 = .ok (.iload_n 1, 1) := by decide +kernel
theorem dX6_isLeast_30 : decode cX6_isLeast 30 = .ok (.iconst 1, 1) := by decide +kernel
theorem dX6_isLeast_31 : decode cX6_isLeast 31 = .ok (.iload_n 2, 1) := by decide +kernel
theorem dX6_isLeast_32 : decode cX6_isLeast 32 = .ok (.ishl, 1) := by decide +kernel
theorem dX6_isLeast_33 : decode cX6_isLeast 33 = .ok (.iconst (-1), 1) := by decide +kernel
theorem dX6_isLeast_34 : decode cX6_isLeast 34 = .ok (.ixor, 1) := by decide +kernel
theorem dX6_isLeast_35 : decode cX6_isLeast 35 = .ok (.iand, 1) := by decide +kernel
theorem dX6_isLeast_36 : decode cX6_isLeast 36 = .ok (.invokevirtual 173, 3) := by decide +kernel
theorem dX6_isLeast_39 : decode cX6_isLeast 39 = .ok (.ifCond .eq 5, 3) := by decide +kernel
theorem dX6_isLeast_42 : decode cX6_isLeast 42 = .ok (.iconst 0, 1) := by decide +kernel
theorem dX6_isLeast_43 : decode cX6_isLeast 43 = .ok (.ireturn, 1) := by decide +kernel
theorem dX6_isLeast_44 : decode cX6_isLeast 44 = .ok (.iinc 2 1, 3) := by decide +kernel
theorem dX6_isLeast_47 : decode cX6_isLeast 47 = .ok (.goto (-35), 3) := by decide +kernel
theorem dX6_isLeast_50 : decode cX6_isLeast 50 = .ok (.iconst 1, 1) := by decide +kernel
theorem dX6_isLeast_51 : decode cX6_isLeast 51 = .ok (.ireturn, 1) := by decide +kernel
set_option maxRecDepth 20000 in
theorem ggX6_holder_X6_isPartner : GoodIn wsX6_holder wsX6_isPartner := goodIn_r _ [7, 8, 9, 10, 6, 11, 12, 13, 14, 15, 44, 45, 46, 47, 48, 49, 50, 51, 52, 53, 54, 55, 56, 57, 58, 59] (by decide +kernel) (by decide +kernel)
set_option maxRecDepth 20000 in
theorem gX6_holder_X6_isPartner : GoodIn wsX6_holder (wsV RX6 74 RX6 yX6_isPartner wsX6_isPartner) := goodIn_app (goodIn_of _ (by decide +kernel)) ggX6_holder_X6_isPartner
set_option maxRecDepth 20000 in
theorem ggX6_holder_X6_isIn : GoodIn wsX6_holder wsX6_isIn := goodIn_r _ [15] (by decide +kernel) (by decide +kernel)
set_option maxRecDepth 20000 in
theorem gX6_holder_X6_isIn : GoodIn wsX6_holder (va_wsS RX6 70 yX6_isIn wsX6_isIn) := goodIn_app (goodIn_of _ (by decide +kernel)) ggX6_holder_X6_isIn
set_option maxRecDepth 20000 in
theorem ggX6_holder_X6_all : GoodIn wsX6_holder wsX6_all := goodIn_r _ [19, 8, 9, 10, 6, 11, 12, 44, 45, 46, 47, 48, 49, 50, 51, 52, 53, 54, 55, 56, 57, 58, 59] (by decide +kernel) (by decide +kernel)
set_option maxRecDepth 20000 in
theorem gX6_holder_X6_all : GoodIn wsX6_holder (wsV RX6 80 RX6 yX6_all wsX6_all) := goodIn_app (goodIn_of _ (by decide +kernel)) ggX6_holder_X6_all
set_option maxRecDepth 20000 in
theorem ggX6_holder_X6_isLeast : GoodIn wsX6_holder wsX6_isLeast := goodIn_r _ [23, 24, 25, 26, 6, 27, 12, 28, 29, 30, 31, 8, 9, 10, 11, 32, 33, 34, 44, 45, 46, 47, 48, 49, 50, 51, 52, 53, 54, 55, 56, 57, 58, 59] (by decide +kernel) (by decide +kernel)
set_option maxRecDepth 20000 in
theorem gX6_holder_X6_isLeast : GoodIn wsX6_holder (wsV RX6 260 RX6 yX6_isLeast wsX6_isLeast) := goodIn_app (goodIn_of _ (by decide +kernel)) ggX6_holder_X6_isLeast
set_option maxRecDepth 20000 in
theorem ggX6_holder_X6_has : GoodIn wsX6_holder wsX6_has := goodIn_r _ [34] (by decide +kernel) (by decide +kernel)
set_option maxRecDepth 20000 in
theorem gX6_holder_X6_has : GoodIn wsX6_holder (va_wsS RX6 164 yX6_has wsX6_has) := goodIn_app (goodIn_of _ (by decide +kernel)) ggX6_holder_X6_has
set_option maxRecDepth 20000 in
theorem ggX6_holder_X6_size : GoodIn wsX6_holder wsX6_size := goodIn_r _ [37] (by decide +kernel) (by decide +kernel)
set_option maxRecDepth 20000 in
theorem gX6_holder_X6_size : GoodIn wsX6_holder (va_wsS RX6 190 yX6_size wsX6_size) := goodIn_app (goodIn_of _ (by decide +kernel)) ggX6_holder_X6_size
set_option maxRecDepth 20000 in
theorem ggX6_holder_X6_part : GoodIn wsX6_holder wsX6_part := goodIn_r _ [40, 41, 42, 6, 43] (by decide +kernel) (by decide +kernel)
set_option maxRecDepth 20000 in
theorem gX6_holder_X6_part : GoodIn wsX6_holder (va_wsS RX6 238 yX6_part wsX6_part) := goodIn_app (goodIn_of _ (by decide +kernel)) ggX6_holder_X6_part
theorem dX6_holder_0 : decode cX6_holder 0 = .ok (.aload_n 0, 1) := by decide +kernel
theorem dX6_holder_1 : decode cX6_holder 1 = .ok (.iload_n 1, 1) := by decide +kernel
theorem dX6_holder_2 : decode cX6_holder 2 = .ok (.invokevirtual 74, 3) := by decide +kernel
theorem dX6_holder_5 : decode cX6_holder 5 = .ok (.ifCond .eq 13, 3) := by decide +kernel
theorem dX6_holder_8 : decode cX6_holder 8 = .ok (.iload_n 2, 1) := by decide +kernel
theorem dX6_holder_9 : decode cX6_holder 9 = .ok (.i2l, 1) := by decide +kernel
theorem dX6_holder_10 : decode cX6_holder 10 = .ok (.lconst 0, 1) := by decide +kernel
theorem dX6_holder_11 : decode cX6_holder 11 = .ok (.lconst 1, 1) := by decide +kernel
theorem dX6_holder_12 : decode cX6_holder 12 = .ok (.invokestatic 70, 3) := by decide +kernel
theorem dX6_holder_15 : decode cX6_holder 15 = .ok (.ifCond .ne 7, 3) := by decide +kernel
theorem dX6_holder_18 : decode cX6_holder 18 = .ok (.ldc2_w 60, 3) := by decide +kernel
theorem dX6_holder_21 : decode cX6_holder 21 = .ok (.lreturn, 1) := by decide +kernel
theorem dX6_holder_22 : decode cX6_holder 22 = .ok (.lconst 0, 1) := by decide +kernel
theorem dX6_holder_23 : decode cX6_holder 23 = .ok (.lstore_n 3, 1) := by decide +kernel
theorem dX6_holder_24 : decode cX6_holder 24 = .ok (.lconst 0, 1) := by decide +kernel
theorem dX6_holder_25 : decode cX6_holder 25 = .ok (.lstore 5, 2) := by decide +kernel
theorem dX6_holder_27 : decode cX6_holder 27 = .ok (.iconst 1, 1) := by decide +kernel
theorem dX6_holder_28 : decode cX6_holder 28 = .ok (.istore 7, 2) := by decide +kernel
theorem dX6_holder_30 : decode cX6_holder 30 = .ok (.iload 7, 2) := by decide +kernel
theorem dX6_holder_32 : decode cX6_holder 32 = .ok (.aload_n 0, 1) := by decide +kernel
theorem dX6_holder_33 : decode cX6_holder 33 = .ok (.invokevirtual 80, 3) := by decide +kernel
theorem dX6_holder_36 : decode cX6_holder 36 = .ok (.if_icmp .gt 57, 3) := by decide +kernel
theorem dX6_holder_39 : decode cX6_holder 39 = .ok (.aload_n 0, 1) := by decide +kernel
theorem dX6_holder_40 : decode cX6_holder 40 = .ok (.iload 7, 2) := by decide +kernel
theorem dX6_holder_42 : decode cX6_holder 42 = .ok (.invokevirtual 260, 3) := by decide +kernel
theorem dX6_holder_45 : decode cX6_holder 45 = .ok (.ifCond .ne 6, 3) := by decide +kernel
theorem dX6_holder_48 : decode cX6_holder 48 = .ok (.goto 39, 3) := by decide +kernel
theorem dX6_holder_51 : decode cX6_holder 51 = .ok (.lload 5, 2) := by decide +kernel
theorem dX6_holder_53 : decode cX6_holder 53 = .ok (.lconst 1, 1) := by decide +kernel
theorem dX6_holder_54 : decode cX6_holder 54 = .ok (.ladd, 1) := by decide +kernel
theorem dX6_holder_55 : decode cX6_holder 55 = .ok (.lstore 5, 2) := by decide +kernel
theorem dX6_holder_57 : decode cX6_holder 57 = .ok (.lload_n 3, 1) := by decide +kernel
theorem dX6_holder_58 : decode cX6_holder 58 = .ok (.iload 7, 2) := by decide +kernel
theorem dX6_holder_60 : decode cX6_holder 60 = .ok (.iload_n 1, 1) := by decide +kernel
theorem dX6_holder_61 : decode cX6_holder 61 = .ok (.invokestatic 164, 3) := by decide +kernel
theorem dX6_holder_64 : decode cX6_holder 64 = .ok (.ifCond .eq 20, 3) := by decide +kernel
theorem dX6_holder_67 : decode cX6_holder 67 = .ok (.aload_n 0, 1) := by decide +kernel
theorem dX6_holder_68 : decode cX6_holder 68 = .ok (.getfield 21, 3) := by decide +kernel
theorem dX6_holder_71 : decode cX6_holder 71 = .ok (.bipush 9, 2) := by decide +kernel
theorem dX6_holder_73 : decode cX6_holder 73 = .ok (.laload, 1) := by decide +kernel
theorem dX6_holder_74 : decode cX6_holder 74 = .ok (.iload 7, 2) := by decide +kernel
theorem dX6_holder_76 : decode cX6_holder 76 = .ok (.invokestatic 190, 3) := by decide +kernel
theorem dX6_holder_79 : decode cX6_holder 79 = .ok (.i2l, 1) := by decide +kernel
theorem dX6_holder_80 : decode cX6_holder 80 = .ok (.ldiv, 1) := by decide +kernel
theorem dX6_holder_81 : decode cX6_holder 81 = .ok (.goto 4, 3) := by decide +kernel
theorem dX6_holder_84 : decode cX6_holder 84 = .ok (.lconst 0, 1) := by decide +kernel
theorem dX6_holder_85 : decode cX6_holder 85 = .ok (.ladd, 1) := by decide +kernel
theorem dX6_holder_86 : decode cX6_holder 86 = .ok (.lstore_n 3, 1) := by decide +kernel
theorem dX6_holder_87 : decode cX6_holder 87 = .ok (.iinc 7 1, 3) := by decide +kernel
theorem dX6_holder_90 : decode cX6_holder 90 = .ok (.goto (-60), 3) := by decide +kernel
theorem dX6_holder_93 : decode cX6_holder 93 = .ok (.lload 5, 2) := by decide +kernel
theorem dX6_holder_95 : decode cX6_holder 95 = .ok (.lconst 0, 1) := by decide +kernel
theorem dX6_holder_96 : decode cX6_holder 96 = .ok (.lcmp, 1) := by decide +kernel
theorem dX6_holder_97 : decode cX6_holder 97 = .ok (.ifCond .ne 8, 3) := by decide +kernel
theorem dX6_holder_100 : decode cX6_holder 100 = .ok (.iload_n 2, 1) := by decide +kernel
theorem dX6_holder_101 : decode cX6_holder 101 = .ok (.i2l, 1) := by decide +kernel
theorem dX6_holder_102 : decode cX6_holder 102 = .ok (.goto 18, 3) := by decide +kernel
theorem dX6_holder_105 : decode cX6_holder 105 = .ok (.lload_n 3, 1) := by decide +kernel
theorem dX6_holder_106 : decode cX6_holder 106 = .ok (.lload 5, 2) := by decide +kernel
theorem dX6_holder_108 : decode cX6_holder 108 = .ok (.aload_n 0, 1) := by decide +kernel
theorem dX6_holder_109 : decode cX6_holder 109 = .ok (.getfield 21, 3) := by decide +kernel
theorem dX6_holder_112 : decode cX6_holder 112 = .ok (.bipush 9, 2) := by decide +kernel
theorem dX6_holder_114 : decode cX6_holder 114 = .ok (.laload, 1) := by decide +kernel
theorem dX6_holder_115 : decode cX6_holder 115 = .ok (.lmul, 1) := by decide +kernel
theorem dX6_holder_116 : decode cX6_holder 116 = .ok (.iload_n 2, 1) := by decide +kernel
theorem dX6_holder_117 : decode cX6_holder 117 = .ok (.invokestatic 238, 3) := by decide +kernel
theorem dX6_holder_120 : decode cX6_holder 120 = .ok (.lreturn, 1) := by decide +kernel
set_option maxRecDepth 20000 in
theorem ggX6_votes_X6_isIn : GoodIn wsX6_votes wsX6_isIn := goodIn_r _ [5] (by decide +kernel) (by decide +kernel)
set_option maxRecDepth 20000 in
theorem gX6_votes_X6_isIn : GoodIn wsX6_votes (va_wsS RX6 70 yX6_isIn wsX6_isIn) := goodIn_app (goodIn_of _ (by decide +kernel)) ggX6_votes_X6_isIn
set_option maxRecDepth 20000 in
theorem ggX6_votes_X6_all : GoodIn wsX6_votes wsX6_all := goodIn_r _ [9, 10, 11, 12, 4, 13, 14, 33, 34, 35, 36, 37, 38, 39, 40, 41, 42, 43, 44, 45, 46, 47, 48] (by decide +kernel) (by decide +kernel)
set_option maxRecDepth 20000 in
theorem gX6_votes_X6_all : GoodIn wsX6_votes (wsV RX6 80 RX6 yX6_all wsX6_all) := goodIn_app (goodIn_of _ (by decide +kernel)) ggX6_votes_X6_all
set_option maxRecDepth 20000 in
theorem ggX6_votes_X6_wins : GoodIn wsX6_votes wsX6_wins := goodIn_r _ [18, 14, 19, 20, 21, 4, 22, 10, 11, 12, 13, 23, 24, 25, 33, 34, 35, 36, 37, 38, 39, 40, 41, 42, 43, 44, 45, 46, 47, 48] (by decide +kernel) (by decide +kernel)
set_option maxRecDepth 20000 in
theorem gX6_votes_X6_wins : GoodIn wsX6_votes (wsV RX6 173 RX6 yX6_wins wsX6_wins) := goodIn_app (goodIn_of _ (by decide +kernel)) ggX6_votes_X6_wins
set_option maxRecDepth 20000 in
theorem ggX6_votes_X6_isLeast : GoodIn wsX6_votes wsX6_isLeast := goodIn_r _ [29, 15, 16, 17, 4, 18, 14, 19, 20, 21, 22, 10, 11, 12, 13, 23, 24, 25, 33, 34, 35, 36, 37, 38, 39, 40, 41, 42, 43, 44, 45, 46, 47, 48] (by decide +kernel) (by decide +kernel)
set_option maxRecDepth 20000 in
theorem gX6_votes_X6_isLeast : GoodIn wsX6_votes (wsV RX6 260 RX6 yX6_isLeast wsX6_isLeast) := goodIn_app (goodIn_of _ (by decide +kernel)) ggX6_votes_X6_isLeast
set_option maxRecDepth 20000 in
theorem ggX6_votes_X6_size : GoodIn wsX6_votes wsX6_size := goodIn_r _ [32] (by decide +kernel) (by decide +kernel)
set_option maxRecDepth 20000 in
theorem gX6_votes_X6_size : GoodIn wsX6_votes (va_wsS RX6 190 yX6_size wsX6_size) := goodIn_app (goodIn_of _ (by decide +kernel)) ggX6_votes_X6_size
theorem dX6_votes_0 : decode cX6_votes 0 = .ok (.iload_n 1, 1) := by decide +kernel
theorem dX6_votes_1 : decode cX6_votes 1 = .ok (.i2l, 1) := by decide +kernel
theorem dX6_votes_2 : decode cX6_votes 2 = .ok (.lconst 0, 1) := by decide +kernel
theorem dX6_votes_3 : decode cX6_votes 3 = .ok (.ldc2_w 263, 3) := by decide +kernel
theorem dX6_votes_6 : decode cX6_votes 6 = .ok (.invokestatic 70, 3) := by decide +kernel
theorem dX6_votes_9 : decode cX6_votes 9 = .ok (.ifCond .ne 5, 3) := by decide +kernel
theorem dX6_votes_12 : decode cX6_votes 12 = .ok (.iconst (-1), 1) := by decide +kernel
theorem dX6_votes_13 : decode cX6_votes 13 = .ok (.ireturn, 1) := by decide +kernel
theorem dX6_votes_14 : decode cX6_votes 14 = .ok (.iconst 0, 1) := by decide +kernel
theorem dX6_votes_15 : decode cX6_votes 15 = .ok (.istore_n 2, 1) := by decide +kernel
theorem dX6_votes_16 : decode cX6_votes 16 = .ok (.bipush (-5), 2) := by decide +kernel
theorem dX6_votes_18 : decode cX6_votes 18 = .ok (.istore_n 3, 1) := by decide +kernel
theorem dX6_votes_19 : decode cX6_votes 19 = .ok (.iconst 0, 1) := by decide +kernel
theorem dX6_votes_20 : decode cX6_votes 20 = .ok (.istore 4, 2) := by decide +kernel
theorem dX6_votes_22 : decode cX6_votes 22 = .ok (.iload 4, 2) := by decide +kernel
theorem dX6_votes_24 : decode cX6_votes 24 = .ok (.aload_n 0, 1) := by decide +kernel
theorem dX6_votes_25 : decode cX6_votes 25 = .ok (.invokevirtual 80, 3) := by decide +kernel
theorem dX6_votes_28 : decode cX6_votes 28 = .ok (.if_icmp .gt 72, 3) := by decide +kernel
theorem dX6_votes_31 : decode cX6_votes 31 = .ok (.iload_n 2, 1) := by decide +kernel
theorem dX6_votes_32 : decode cX6_votes 32 = .ok (.iload_n 1, 1) := by decide +kernel
theorem dX6_votes_33 : decode cX6_votes 33 = .ok (.ifCond .ne 12, 3) := by decide +kernel
theorem dX6_votes_36 : decode cX6_votes 36 = .ok (.aload_n 0, 1) := by decide +kernel
theorem dX6_votes_37 : decode cX6_votes 37 = .ok (.iload 4, 2) := by decide +kernel
theorem dX6_votes_39 : decode cX6_votes 39 = .ok (.invokevirtual 173, 3) := by decide +kernel
theorem dX6_votes_42 : decode cX6_votes 42 = .ok (.ifCond .ne 17, 3) := by decide +kernel
theorem dX6_votes_45 : decode cX6_votes 45 = .ok (.iload_n 1, 1) := by decide +kernel
theorem dX6_votes_46 : decode cX6_votes 46 = .ok (.iconst 1, 1) := by decide +kernel
theorem dX6_votes_47 : decode cX6_votes 47 = .ok (.if_icmp .ne 16, 3) := by decide +kernel
theorem dX6_votes_50 : decode cX6_votes 50 = .ok (.aload_n 0, 1) := by decide +kernel
theorem dX6_votes_51 : decode cX6_votes 51 = .ok (.iload 4, 2) := by decide +kernel
theorem dX6_votes_53 : decode cX6_votes 53 = .ok (.invokevirtual 260, 3) := by decide +kernel
theorem dX6_votes_56 : decode cX6_votes 56 = .ok (.ifCond .eq 7, 3) := by decide +kernel
theorem dX6_votes_59 : decode cX6_votes 59 = .ok (.iconst 1, 1) := by decide +kernel
theorem dX6_votes_60 : decode cX6_votes 60 = .ok (.goto 4, 3) := by decide +kernel
theorem dX6_votes_63 : decode cX6_votes 63 = .ok (.iconst 0, 1) := by decide +kernel
theorem dX6_votes_64 : decode cX6_votes 64 = .ok (.iadd, 1) := by decide +kernel
theorem dX6_votes_65 : decode cX6_votes 65 = .ok (.istore_n 2, 1) := by decide +kernel
theorem dX6_votes_66 : decode cX6_votes 66 = .ok (.aload_n 0, 1) := by decide +kernel
theorem dX6_votes_67 : decode cX6_votes 67 = .ok (.iload 4, 2) := by decide +kernel
theorem dX6_votes_69 : decode cX6_votes 69 = .ok (.invokevirtual 173, 3) := by decide +kernel
theorem dX6_votes_72 : decode cX6_votes 72 = .ok (.ifCond .eq 22, 3) := by decide +kernel
theorem dX6_votes_75 : decode cX6_votes 75 = .ok (.iload_n 3, 1) := by decide +kernel
theorem dX6_votes_76 : decode cX6_votes 76 = .ok (.ifCond .lt 15, 3) := by decide +kernel
theorem dX6_votes_79 : decode cX6_votes 79 = .ok (.iload 4, 2) := by decide +kernel
theorem dX6_votes_81 : decode cX6_votes 81 = .ok (.invokestatic 190, 3) := by decide +kernel
theorem dX6_votes_84 : decode cX6_votes 84 = .ok (.iload_n 3, 1) := by decide +kernel
theorem dX6_votes_85 : decode cX6_votes 85 = .ok (.invokestatic 190, 3) := by decide +kernel
theorem dX6_votes_88 : decode cX6_votes 88 = .ok (.if_icmp .ge 6, 3) := by decide +kernel
theorem dX6_votes_91 : decode cX6_votes 91 = .ok (.iload 4, 2) := by decide +kernel
theorem dX6_votes_93 : decode cX6_votes 93 = .ok (.istore_n 3, 1) := by decide +kernel
theorem dX6_votes_94 : decode cX6_votes 94 = .ok (.iinc 4 1, 3) := by decide +kernel
theorem dX6_votes_97 : decode cX6_votes 97 = .ok (.goto (-75), 3) := by decide +kernel
theorem dX6_votes_100 : decode cX6_votes 100 = .ok (.iload_n 1, 1) := by decide +kernel
theorem dX6_votes_101 : decode cX6_votes 101 = .ok (.iconst 2, 1) := by decide +kernel
theorem dX6_votes_102 : decode cX6_votes 102 = .ok (.if_icmp .ne 7, 3) := by decide +kernel
theorem dX6_votes_105 : decode cX6_votes 105 = .ok (.iload_n 3, 1) := by decide +kernel
theorem dX6_votes_106 : decode cX6_votes 106 = .ok (.goto 4, 3) := by decide +kernel
theorem dX6_votes_109 : decode cX6_votes 109 = .ok (.iload_n 2, 1) := by decide +kernel
theorem dX6_votes_110 : decode cX6_votes 110 = .ok (.ireturn, 1) := by decide +kernel
set_option maxRecDepth 20000 in
theorem ggX6_isOfKind_X6_v : GoodIn wsX6_isOfKind wsX6_v := goodIn_r _ [6, 7, 12, 13, 14, 15, 16, 17, 18, 19, 20, 21, 22, 23, 24, 25, 26, 27] (by decide +kernel) (by decide +kernel)
set_option maxRecDepth 20000 in
theorem gX6_isOfKind_X6_v : GoodIn wsX6_isOfKind (wsV RX6 95 RX6 yX6_v wsX6_v) := goodIn_app (goodIn_of _ (by decide +kernel)) ggX6_isOfKind_X6_v
set_option maxRecDepth 20000 in
theorem ggX6_isOfKind_X6_plus : GoodIn wsX6_isOfKind wsX6_plus := goodIn_r _ [11, 1, 12, 13, 14, 15, 16, 17, 18, 19, 20, 21, 22, 23, 24, 25, 26, 27] (by decide +kernel) (by decide +kernel)
set_option maxRecDepth 20000 in
theorem gX6_isOfKind_X6_plus : GoodIn wsX6_isOfKind (wsV RX6 196 RX6 yX6_plus wsX6_plus) := goodIn_app (goodIn_of _ (by decide +kernel)) ggX6_isOfKind_X6_plus
theorem dX6_isOfKind_0 : decode cX6_isOfKind 0 = .ok (.aload_n 0, 1) := by decide +kernel
theorem dX6_isOfKind_1 : decode cX6_isOfKind 1 = .ok (.iload_n 1, 1) := by decide +kernel
theorem dX6_isOfKind_2 : decode cX6_isOfKind 2 = .ok (.iload 4, 2) := by decide +kernel
theorem dX6_isOfKind_4 : decode cX6_isOfKind 4 = .ok (.iconst 1, 1) := by decide +kernel
theorem dX6_isOfKind_5 : decode cX6_isOfKind 5 = .ok (.iload_n 2, 1) := by decide +kernel
theorem dX6_isOfKind_6 : decode cX6_isOfKind 6 = .ok (.ishl, 1) := by decide +kernel
theorem dX6_isOfKind_7 : decode cX6_isOfKind 7 = .ok (.ior, 1) := by decide +kernel
theorem dX6_isOfKind_8 : decode cX6_isOfKind 8 = .ok (.invokevirtual 95, 3) := by decide +kernel
theorem dX6_isOfKind_11 : decode cX6_isOfKind 11 = .ok (.lstore 5, 2) := by decide +kernel
theorem dX6_isOfKind_13 : decode cX6_isOfKind 13 = .ok (.aload_n 0, 1) := by decide +kernel
theorem dX6_isOfKind_14 : decode cX6_isOfKind 14 = .ok (.iload_n 1, 1) := by decide +kernel
theorem dX6_isOfKind_15 : decode cX6_isOfKind 15 = .ok (.iconst 1, 1) := by decide +kernel
theorem dX6_isOfKind_16 : decode cX6_isOfKind 16 = .ok (.iload_n 2, 1) := by decide +kernel
theorem dX6_isOfKind_17 : decode cX6_isOfKind 17 = .ok (.ishl, 1) := by decide +kernel
theorem dX6_isOfKind_18 : decode cX6_isOfKind 18 = .ok (.invokevirtual 95, 3) := by decide +kernel
theorem dX6_isOfKind_21 : decode cX6_isOfKind 21 = .ok (.lstore 7, 2) := by decide +kernel
theorem dX6_isOfKind_23 : decode cX6_isOfKind 23 = .ok (.iload_n 3, 1) := by decide +kernel
theorem dX6_isOfKind_24 : decode cX6_isOfKind 24 = .ok (.iconst 2, 1) := by decide +kernel
theorem dX6_isOfKind_25 : decode cX6_isOfKind 25 = .ok (.if_icmp .ne 21, 3) := by decide +kernel
theorem dX6_isOfKind_28 : decode cX6_isOfKind 28 = .ok (.aload_n 0, 1) := by decide +kernel
theorem dX6_isOfKind_29 : decode cX6_isOfKind 29 = .ok (.iload_n 1, 1) := by decide +kernel
theorem dX6_isOfKind_30 : decode cX6_isOfKind 30 = .ok (.iload 4, 2) := by decide +kernel
theorem dX6_isOfKind_32 : decode cX6_isOfKind 32 = .ok (.invokevirtual 95, 3) := by decide +kernel
theorem dX6_isOfKind_35 : decode cX6_isOfKind 35 = .ok (.lconst 0, 1) := by decide +kernel
theorem dX6_isOfKind_36 : decode cX6_isOfKind 36 = .ok (.lcmp, 1) := by decide +kernel
theorem dX6_isOfKind_37 : decode cX6_isOfKind 37 = .ok (.ifCond .ne 7, 3) := by decide +kernel
theorem dX6_isOfKind_40 : decode cX6_isOfKind 40 = .ok (.iconst 1, 1) := by decide +kernel
theorem dX6_isOfKind_41 : decode cX6_isOfKind 41 = .ok (.goto 4, 3) := by decide +kernel
theorem dX6_isOfKind_44 : decode cX6_isOfKind 44 = .ok (.iconst 0, 1) := by decide +kernel
theorem dX6_isOfKind_45 : decode cX6_isOfKind 45 = .ok (.ireturn, 1) := by decide +kernel
theorem dX6_isOfKind_46 : decode cX6_isOfKind 46 = .ok (.iload_n 3, 1) := by decide +kernel
theorem dX6_isOfKind_47 : decode cX6_isOfKind 47 = .ok (.ifCond .ne 22, 3) := by decide +kernel
theorem dX6_isOfKind_50 : decode cX6_isOfKind 50 = .ok (.lload 5, 2) := by decide +kernel
theorem dX6_isOfKind_52 : decode cX6_isOfKind 52 = .ok (.aload_n 0, 1) := by decide +kernel
theorem dX6_isOfKind_53 : decode cX6_isOfKind 53 = .ok (.iload_n 1, 1) := by decide +kernel
theorem dX6_isOfKind_54 : decode cX6_isOfKind 54 = .ok (.iload 4, 2) := by decide +kernel
theorem dX6_isOfKind_56 : decode cX6_isOfKind 56 = .ok (.invokevirtual 95, 3) := by decide +kernel
theorem dX6_isOfKind_59 : decode cX6_isOfKind 59 = .ok (.lcmp, 1) := by decide +kernel
theorem dX6_isOfKind_60 : decode cX6_isOfKind 60 = .ok (.ifCond .ne 7, 3) := by decide +kernel
theorem dX6_isOfKind_63 : decode cX6_isOfKind 63 = .ok (.iconst 1, 1) := by decide +kernel
theorem dX6_isOfKind_64 : decode cX6_isOfKind 64 = .ok (.goto 4, 3) := by decide +kernel
theorem dX6_isOfKind_67 : decode cX6_isOfKind 67 = .ok (.iconst 0, 1) := by decide +kernel
theorem dX6_isOfKind_68 : decode cX6_isOfKind 68 = .ok (.ireturn, 1) := by decide +kernel
theorem dX6_isOfKind_69 : decode cX6_isOfKind 69 = .ok (.aload_n 0, 1) := by decide +kernel
theorem dX6_isOfKind_70 : decode cX6_isOfKind 70 = .ok (.iconst 0, 1) := by decide +kernel
theorem dX6_isOfKind_71 : decode cX6_isOfKind 71 = .ok (.putfield 54, 3) := by decide +kernel
theorem dX6_isOfKind_74 : decode cX6_isOfKind 74 = .ok (.aload_n 0, 1) := by decide +kernel
theorem dX6_isOfKind_75 : decode cX6_isOfKind 75 = .ok (.aload_n 0, 1) := by decide +kernel
theorem dX6_isOfKind_76 : decode cX6_isOfKind 76 = .ok (.iload_n 1, 1) := by decide +kernel
theorem dX6_isOfKind_77 : decode cX6_isOfKind 77 = .ok (.iload 4, 2) := by decide +kernel
theorem dX6_isOfKind_79 : decode cX6_isOfKind 79 = .ok (.invokevirtual 95, 3) := by decide +kernel
theorem dX6_isOfKind_82 : decode cX6_isOfKind 82 = .ok (.lload 7, 2) := by decide +kernel
theorem dX6_isOfKind_84 : decode cX6_isOfKind 84 = .ok (.invokevirtual 196, 3) := by decide +kernel
theorem dX6_isOfKind_87 : decode cX6_isOfKind 87 = .ok (.lload 5, 2) := by decide +kernel
theorem dX6_isOfKind_89 : decode cX6_isOfKind 89 = .ok (.lcmp, 1) := by decide +kernel
theorem dX6_isOfKind_90 : decode cX6_isOfKind 90 = .ok (.ifCond .ne 14, 3) := by decide +kernel
theorem dX6_isOfKind_93 : decode cX6_isOfKind 93 = .ok (.aload_n 0, 1) := by decide +kernel
theorem dX6_isOfKind_94 : decode cX6_isOfKind 94 = .ok (.getfield 54, 3) := by decide +kernel
theorem dX6_isOfKind_97 : decode cX6_isOfKind 97 = .ok (.ifCond .ne 7, 3) := by decide +kernel
theorem dX6_isOfKind_100 : decode cX6_isOfKind 100 = .ok (.iconst 1, 1) := by decide +kernel
theorem dX6_isOfKind_101 : decode cX6_isOfKind 101 = .ok (.goto 4, 3) := by decide +kernel
theorem dX6_isOfKind_104 : decode cX6_isOfKind 104 = .ok (.iconst 0, 1) := by decide +kernel
theorem dX6_isOfKind_105 : decode cX6_isOfKind 105 = .ok (.ireturn, 1) := by decide +kernel
set_option maxRecDepth 20000 in
theorem ggX6_isKind_X6_all : GoodIn wsX6_isKind wsX6_all := goodIn_r _ [5, 6, 7, 8, 4, 9, 10, 27, 28, 29, 30, 31, 32, 33, 34, 35, 36, 37, 38, 39, 40, 41, 42] (by decide +kernel) (by decide +kernel)
set_option maxRecDepth 20000 in
theorem gX6_isKind_X6_all : GoodIn wsX6_isKind (wsV RX6 80 RX6 yX6_all wsX6_all) := goodIn_app (goodIn_of _ (by decide +kernel)) ggX6_isKind_X6_all
set_option maxRecDepth 20000 in
theorem ggX6_isKind_X6_has : GoodIn wsX6_isKind wsX6_has := goodIn_r _ [13] (by decide +kernel) (by decide +kernel)
set_option maxRecDepth 20000 in
theorem gX6_isKind_X6_has : GoodIn wsX6_isKind (va_wsS RX6 164 yX6_has wsX6_has) := goodIn_app (goodIn_of _ (by decide +kernel)) ggX6_isKind_X6_has
set_option maxRecDepth 20000 in
theorem ggX6_isKind_X6_isOfKind : GoodIn wsX6_isKind wsX6_isOfKind := goodIn_r _ [17, 18, 19, 20, 21, 4, 22, 10, 23, 24, 25, 26, 27, 28, 29, 30, 31, 32, 33, 34, 35, 36, 37, 38, 39, 40, 41, 42] (by decide +kernel) (by decide +kernel)
set_option maxRecDepth 20000 in
theorem gX6_isKind_X6_isOfKind : GoodIn wsX6_isKind (wsV RX6 265 RX6 yX6_isOfKind wsX6_isOfKind) := goodIn_app (goodIn_of _ (by decide +kernel)) ggX6_isKind_X6_isOfKind
theorem dX6_isKind_0 : decode cX6_isKind 0 = .ok (.iconst 0, 1) := by decide +kernel
theorem dX6_isKind_1 : decode cX6_isKind 1 = .ok (.istore 4, 2) := by decide +kernel
theorem dX6_isKind_3 : decode cX6_isKind 3 = .ok (.iload 4, 2) := by decide +kernel
theorem dX6_isKind_5 : decode cX6_isKind 5 = .ok (.aload_n 0, 1) := by decide +kernel
theorem dX6_isKind_6 : decode cX6_isKind 6 = .ok (.invokevirtual 80, 3) := by decide +kernel
theorem dX6_isKind_9 : decode cX6_isKind 9 = .ok (.if_icmp .gt 32, 3) := by decide +kernel
theorem dX6_isKind_12 : decode cX6_isKind 12 = .ok (.iload 4, 2) := by decide +kernel
theorem dX6_isKind_14 : decode cX6_isKind 14 = .ok (.iload_n 2, 1) := by decide +kernel
theorem dX6_isKind_15 : decode cX6_isKind 15 = .ok (.invokestatic 164, 3) := by decide +kernel
theorem dX6_isKind_18 : decode cX6_isKind 18 = .ok (.ifCond .ne 17, 3) := by decide +kernel
theorem dX6_isKind_21 : decode cX6_isKind 21 = .ok (.aload_n 0, 1) := by decide +kernel
theorem dX6_isKind_22 : decode cX6_isKind 22 = .ok (.iload_n 1, 1) := by decide +kernel
theorem dX6_isKind_23 : decode cX6_isKind 23 = .ok (.iload_n 2, 1) := by decide +kernel
theorem dX6_isKind_24 : decode cX6_isKind 24 = .ok (.iload_n 3, 1) := by decide +kernel
theorem dX6_isKind_25 : decode cX6_isKind 25 = .ok (.iload 4, 2) := by decide +kernel
theorem dX6_isKind_27 : decode cX6_isKind 27 = .ok (.invokevirtual 265, 3) := by decide +kernel
theorem dX6_isKind_30 : decode cX6_isKind 30 = .ok (.ifCond .ne 5, 3) := by decide +kernel
theorem dX6_isKind_33 : decode cX6_isKind 33 = .ok (.iconst 0, 1) := by decide +kernel
theorem dX6_isKind_34 : decode cX6_isKind 34 = .ok (.ireturn, 1) := by decide +kernel
theorem dX6_isKind_35 : decode cX6_isKind 35 = .ok (.iinc 4 1, 3) := by decide +kernel
theorem dX6_isKind_38 : decode cX6_isKind 38 = .ok (.goto (-35), 3) := by decide +kernel
theorem dX6_isKind_41 : decode cX6_isKind 41 = .ok (.iconst 1, 1) := by decide +kernel
theorem dX6_isKind_42 : decode cX6_isKind 42 = .ok (.ireturn, 1) := by decide +kernel
set_option maxRecDepth 20000 in
theorem ggX6_kind_X6_isGame : GoodIn wsX6_kind wsX6_isGame := goodIn_r _ [5, 6, 7, 8, 4, 9] (by decide +kernel) (by decide +kernel)
set_option maxRecDepth 20000 in
theorem gX6_kind_X6_isGame : GoodIn wsX6_kind (va_wsS RX6 85 yX6_isGame wsX6_isGame) := goodIn_app (goodIn_of _ (by decide +kernel)) ggX6_kind_X6_isGame
set_option maxRecDepth 20000 in
theorem ggX6_kind_X6_isIn : GoodIn wsX6_kind wsX6_isIn := goodIn_r _ [9] (by decide +kernel) (by decide +kernel)
set_option maxRecDepth 20000 in
theorem gX6_kind_X6_isIn : GoodIn wsX6_kind (va_wsS RX6 70 yX6_isIn wsX6_isIn) := goodIn_app (goodIn_of _ (by decide +kernel)) ggX6_kind_X6_isIn
set_option maxRecDepth 20000 in
theorem ggX6_kind_X6_n : GoodIn wsX6_kind wsX6_n := goodIn_r _ [13, 14, 39, 40, 41, 42, 43, 44, 45, 46, 47, 48, 49, 50, 51, 52, 53, 54] (by decide +kernel) (by decide +kernel)
set_option maxRecDepth 20000 in
theorem gX6_kind_X6_n : GoodIn wsX6_kind (wsV RX6 66 RX6 yX6_n wsX6_n) := goodIn_app (goodIn_of _ (by decide +kernel)) ggX6_kind_X6_n
set_option maxRecDepth 20000 in
theorem ggX6_kind_X6_isKind : GoodIn wsX6_kind wsX6_isKind := goodIn_r _ [18, 19, 20, 21, 4, 22, 10, 11, 12, 13, 14, 23, 24, 25, 26, 27, 28, 29, 30, 31, 32, 33, 34, 35, 36, 37, 38, 39, 40, 41, 42, 43, 44, 45, 46, 47, 48, 49, 50, 51, 52, 53, 54] (by decide +kernel) (by decide +kernel)
set_option maxRecDepth 20000 in
theorem gX6_kind_X6_isKind : GoodIn wsX6_kind (wsV RX6 269 RX6 yX6_isKind wsX6_isKind) := goodIn_app (goodIn_of _ (by decide +kernel)) ggX6_kind_X6_isKind
theorem dX6_kind_0 : decode cX6_kind 0 = .ok (.iload_n 1, 1) := by decide +kernel
theorem dX6_kind_1 : decode cX6_kind 1 = .ok (.invokestatic 85, 3) := by decide +kernel
theorem dX6_kind_4 : decode cX6_kind 4 = .ok (.ifCond .eq 15, 3) := by decide +kernel
theorem dX6_kind_7 : decode cX6_kind 7 = .ok (.iload_n 2, 1) := by decide +kernel
theorem dX6_kind_8 : decode cX6_kind 8 = .ok (.i2l, 1) := by decide +kernel
theorem dX6_kind_9 : decode cX6_kind 9 = .ok (.lconst 0, 1) := by decide +kernel
theorem dX6_kind_10 : decode cX6_kind 10 = .ok (.ldc2_w 263, 3) := by decide +kernel
theorem dX6_kind_13 : decode cX6_kind 13 = .ok (.invokestatic 70, 3) := by decide +kernel
theorem dX6_kind_16 : decode cX6_kind 16 = .ok (.ifCond .ne 5, 3) := by decide +kernel
theorem dX6_kind_19 : decode cX6_kind 19 = .ok (.iconst (-1), 1) := by decide +kernel
theorem dX6_kind_20 : decode cX6_kind 20 = .ok (.ireturn, 1) := by decide +kernel
theorem dX6_kind_21 : decode cX6_kind 21 = .ok (.iconst 0, 1) := by decide +kernel
theorem dX6_kind_22 : decode cX6_kind 22 = .ok (.istore_n 3, 1) := by decide +kernel
theorem dX6_kind_23 : decode cX6_kind 23 = .ok (.iconst 0, 1) := by decide +kernel
theorem dX6_kind_24 : decode cX6_kind 24 = .ok (.istore 4, 2) := by decide +kernel
theorem dX6_kind_26 : decode cX6_kind 26 = .ok (.iload 4, 2) := by decide +kernel
theorem dX6_kind_28 : decode cX6_kind 28 = .ok (.aload_n 0, 1) := by decide +kernel
theorem dX6_kind_29 : decode cX6_kind 29 = .ok (.invokevirtual 66, 3) := by decide +kernel
theorem dX6_kind_32 : decode cX6_kind 32 = .ok (.if_icmp .ge 31, 3) := by decide +kernel
theorem dX6_kind_35 : decode cX6_kind 35 = .ok (.iload_n 3, 1) := by decide +kernel
theorem dX6_kind_36 : decode cX6_kind 36 = .ok (.aload_n 0, 1) := by decide +kernel
theorem dX6_kind_37 : decode cX6_kind 37 = .ok (.iload_n 1, 1) := by decide +kernel
theorem dX6_kind_38 : decode cX6_kind 38 = .ok (.iload 4, 2) := by decide +kernel
theorem dX6_kind_40 : decode cX6_kind 40 = .ok (.iload_n 2, 1) := by decide +kernel
theorem dX6_kind_41 : decode cX6_kind 41 = .ok (.invokevirtual 269, 3) := by decide +kernel
theorem dX6_kind_44 : decode cX6_kind 44 = .ok (.ifCond .eq 10, 3) := by decide +kernel
theorem dX6_kind_47 : decode cX6_kind 47 = .ok (.iconst 1, 1) := by decide +kernel
theorem dX6_kind_48 : decode cX6_kind 48 = .ok (.iload 4, 2) := by decide +kernel
theorem dX6_kind_50 : decode cX6_kind 50 = .ok (.ishl, 1) := by decide +kernel
theorem dX6_kind_51 : decode cX6_kind 51 = .ok (.goto 4, 3) := by decide +kernel
theorem dX6_kind_54 : decode cX6_kind 54 = .ok (.iconst 0, 1) := by decide +kernel
theorem dX6_kind_55 : decode cX6_kind 55 = .ok (.ior, 1) := by decide +kernel
theorem dX6_kind_56 : decode cX6_kind 56 = .ok (.istore_n 3, 1) := by decide +kernel
theorem dX6_kind_57 : decode cX6_kind 57 = .ok (.iinc 4 1, 3) := by decide +kernel
theorem dX6_kind_60 : decode cX6_kind 60 = .ok (.goto (-34), 3) := by decide +kernel
theorem dX6_kind_63 : decode cX6_kind 63 = .ok (.iload_n 3, 1) := by decide +kernel
theorem dX6_kind_64 : decode cX6_kind 64 = .ok (.ireturn, 1) := by decide +kernel
set_option maxRecDepth 20000 in
theorem ggX6_isAlike_X6_all : GoodIn wsX6_isAlike wsX6_all := goodIn_r _ [5, 6, 7, 8, 4, 9, 10, 18, 19, 20, 21, 22, 23, 24, 25, 26, 27, 28, 29, 30, 31, 32, 33] (by decide +kernel) (by decide +kernel)
set_option maxRecDepth 20000 in
theorem gX6_isAlike_X6_all : GoodIn wsX6_isAlike (wsV RX6 80 RX6 yX6_all wsX6_all) := goodIn_app (goodIn_of _ (by decide +kernel)) ggX6_isAlike_X6_all
set_option maxRecDepth 20000 in
theorem ggX6_isAlike_X6_has : GoodIn wsX6_isAlike wsX6_has := goodIn_r _ [13] (by decide +kernel) (by decide +kernel)
set_option maxRecDepth 20000 in
theorem gX6_isAlike_X6_has : GoodIn wsX6_isAlike (va_wsS RX6 164 yX6_has wsX6_has) := goodIn_app (goodIn_of _ (by decide +kernel)) ggX6_isAlike_X6_has
set_option maxRecDepth 20000 in
theorem ggX6_isAlike_X6_v : GoodIn wsX6_isAlike wsX6_v := goodIn_r _ [17, 10, 18, 19, 20, 21, 22, 23, 24, 25, 26, 27, 28, 29, 30, 31, 32, 33] (by decide +kernel) (by decide +kernel)
set_option maxRecDepth 20000 in
theorem gX6_isAlike_X6_v : GoodIn wsX6_isAlike (wsV RX6 95 RX6 yX6_v wsX6_v) := goodIn_app (goodIn_of _ (by decide +kernel)) ggX6_isAlike_X6_v
theorem dX6_isAlike_0 : decode cX6_isAlike 0 = .ok (.iconst 0, 1) := by decide +kernel
theorem dX6_isAlike_1 : decode cX6_isAlike 1 = .ok (.istore 4, 2) := by decide +kernel
theorem dX6_isAlike_3 : decode cX6_isAlike 3 = .ok (.iload 4, 2) := by decide +kernel
theorem dX6_isAlike_5 : decode cX6_isAlike 5 = .ok (.aload_n 0, 1) := by decide +kernel
theorem dX6_isAlike_6 : decode cX6_isAlike 6 = .ok (.invokevirtual 80, 3) := by decide +kernel
theorem dX6_isAlike_9 : decode cX6_isAlike 9 = .ok (.if_icmp .gt 55, 3) := by decide +kernel
theorem dX6_isAlike_12 : decode cX6_isAlike 12 = .ok (.iload 4, 2) := by decide +kernel
theorem dX6_isAlike_14 : decode cX6_isAlike 14 = .ok (.iload_n 2, 1) := by decide +kernel
theorem dX6_isAlike_15 : decode cX6_isAlike 15 = .ok (.invokestatic 164, 3) := by decide +kernel
theorem dX6_isAlike_18 : decode cX6_isAlike 18 = .ok (.ifCond .ne 40, 3) := by decide +kernel
theorem dX6_isAlike_21 : decode cX6_isAlike 21 = .ok (.iload 4, 2) := by decide +kernel
theorem dX6_isAlike_23 : decode cX6_isAlike 23 = .ok (.iload_n 3, 1) := by decide +kernel
theorem dX6_isAlike_24 : decode cX6_isAlike 24 = .ok (.invokestatic 164, 3) := by decide +kernel
theorem dX6_isAlike_27 : decode cX6_isAlike 27 = .ok (.ifCond .ne 31, 3) := by decide +kernel
theorem dX6_isAlike_30 : decode cX6_isAlike 30 = .ok (.aload_n 0, 1) := by decide +kernel
theorem dX6_isAlike_31 : decode cX6_isAlike 31 = .ok (.iload_n 1, 1) := by decide +kernel
theorem dX6_isAlike_32 : decode cX6_isAlike 32 = .ok (.iload 4, 2) := by decide +kernel
theorem dX6_isAlike_34 : decode cX6_isAlike 34 = .ok (.iconst 1, 1) := by decide +kernel
theorem dX6_isAlike_35 : decode cX6_isAlike 35 = .ok (.iload_n 2, 1) := by decide +kernel
theorem dX6_isAlike_36 : decode cX6_isAlike 36 = .ok (.ishl, 1) := by decide +kernel
theorem dX6_isAlike_37 : decode cX6_isAlike 37 = .ok (.ior, 1) := by decide +kernel
theorem dX6_isAlike_38 : decode cX6_isAlike 38 = .ok (.invokevirtual 95, 3) := by decide +kernel
theorem dX6_isAlike_41 : decode cX6_isAlike 41 = .ok (.aload_n 0, 1) := by decide +kernel
theorem dX6_isAlike_42 : decode cX6_isAlike 42 = .ok (.iload_n 1, 1) := by decide +kernel
theorem dX6_isAlike_43 : decode cX6_isAlike 43 = .ok (.iload 4, 2) := by decide +kernel
theorem dX6_isAlike_45 : decode cX6_isAlike 45 = .ok (.iconst 1, 1) := by decide +kernel
theorem dX6_isAlike_46 : decode cX6_isAlike 46 = .ok (.iload_n 3, 1) := by decide +kernel
theorem dX6_isAlike_47 : decode cX6_isAlike 47 = .ok (.ishl, 1) := by decide +kernel
theorem dX6_isAlike_48 : decode cX6_isAlike 48 = .ok (.ior, 1) := by decide +kernel
theorem dX6_isAlike_49 : decode cX6_isAlike 49 = .ok (.invokevirtual 95, 3) := by decide +kernel
theorem dX6_isAlike_52 : decode cX6_isAlike 52 = .ok (.lcmp, 1) := by decide +kernel
theorem dX6_isAlike_53 : decode cX6_isAlike 53 = .ok (.ifCond .eq 5, 3) := by decide +kernel
theorem dX6_isAlike_56 : decode cX6_isAlike 56 = .ok (.iconst 0, 1) := by decide +kernel
theorem dX6_isAlike_57 : decode cX6_isAlike 57 = .ok (.ireturn, 1) := by decide +kernel
theorem dX6_isAlike_58 : decode cX6_isAlike 58 = .ok (.iinc 4 1, 3) := by decide +kernel
theorem dX6_isAlike_61 : decode cX6_isAlike 61 = .ok (.goto (-58), 3) := by decide +kernel
theorem dX6_isAlike_64 : decode cX6_isAlike 64 = .ok (.iconst 1, 1) := by decide +kernel
theorem dX6_isAlike_65 : decode cX6_isAlike 65 = .ok (.ireturn, 1) := by decide +kernel
set_option maxRecDepth 20000 in
theorem ggX6_alike_X6_isGame : GoodIn wsX6_alike wsX6_isGame := goodIn_r _ [4, 5, 6, 7, 3, 8] (by decide +kernel) (by decide +kernel)
set_option maxRecDepth 20000 in
theorem gX6_alike_X6_isGame : GoodIn wsX6_alike (va_wsS RX6 85 yX6_isGame wsX6_isGame) := goodIn_app (goodIn_of _ (by decide +kernel)) ggX6_alike_X6_isGame
set_option maxRecDepth 20000 in
theorem ggX6_alike_X6_isPartner : GoodIn wsX6_alike wsX6_isPartner := goodIn_r _ [12, 13, 14, 15, 3, 16, 17, 6, 7, 8, 33, 34, 35, 36, 37, 38, 39, 40, 41, 42, 43, 44, 45, 46, 47, 48] (by decide +kernel) (by decide +kernel)
set_option maxRecDepth 20000 in
theorem gX6_alike_X6_isPartner : GoodIn wsX6_alike (wsV RX6 74 RX6 yX6_isPartner wsX6_isPartner) := goodIn_app (goodIn_of _ (by decide +kernel)) ggX6_alike_X6_isPartner
set_option maxRecDepth 20000 in
theorem ggX6_alike_X6_n : GoodIn wsX6_alike wsX6_n := goodIn_r _ [16, 17, 33, 34, 35, 36, 37, 38, 39, 40, 41, 42, 43, 44, 45, 46, 47, 48] (by decide +kernel) (by decide +kernel)
set_option maxRecDepth 20000 in
theorem gX6_alike_X6_n : GoodIn wsX6_alike (wsV RX6 66 RX6 yX6_n wsX6_n) := goodIn_app (goodIn_of _ (by decide +kernel)) ggX6_alike_X6_n
set_option maxRecDepth 20000 in
theorem ggX6_alike_X6_isAlike : GoodIn wsX6_alike wsX6_isAlike := goodIn_r _ [21, 22, 23, 24, 3, 25, 13, 14, 15, 16, 17, 26, 27, 28, 29, 30, 31, 32, 33, 34, 35, 36, 37, 38, 39, 40, 41, 42, 43, 44, 45, 46, 47, 48] (by decide +kernel) (by decide +kernel)
set_option maxRecDepth 20000 in
theorem gX6_alike_X6_isAlike : GoodIn wsX6_alike (wsV RX6 273 RX6 yX6_isAlike wsX6_isAlike) := goodIn_app (goodIn_of _ (by decide +kernel)) ggX6_alike_X6_isAlike
theorem dX6_alike_0 : decode cX6_alike 0 = .ok (.iload_n 1, 1) := by decide +kernel
theorem dX6_alike_1 : decode cX6_alike 1 = .ok (.invokestatic 85, 3) := by decide +kernel
theorem dX6_alike_4 : decode cX6_alike 4 = .ok (.ifCond .eq 11, 3) := by decide +kernel
theorem dX6_alike_7 : decode cX6_alike 7 = .ok (.aload_n 0, 1) := by decide +kernel
theorem dX6_alike_8 : decode cX6_alike 8 = .ok (.iload_n 2, 1) := by decide +kernel
theorem dX6_alike_9 : decode cX6_alike 9 = .ok (.invokevirtual 74, 3) := by decide +kernel
theorem dX6_alike_12 : decode cX6_alike 12 = .ok (.ifCond .ne 5, 3) := by decide +kernel
theorem dX6_alike_15 : decode cX6_alike 15 = .ok (.iconst (-1), 1) := by decide +kernel
theorem dX6_alike_16 : decode cX6_alike 16 = .ok (.ireturn, 1) := by decide +kernel
theorem dX6_alike_17 : decode cX6_alike 17 = .ok (.iconst 0, 1) := by decide +kernel
theorem dX6_alike_18 : decode cX6_alike 18 = .ok (.istore_n 3, 1) := by decide +kernel
theorem dX6_alike_19 : decode cX6_alike 19 = .ok (.iconst 0, 1) := by decide +kernel
theorem dX6_alike_20 : decode cX6_alike 20 = .ok (.istore 4, 2) := by decide +kernel
theorem dX6_alike_22 : decode cX6_alike 22 = .ok (.iload 4, 2) := by decide +kernel
theorem dX6_alike_24 : decode cX6_alike 24 = .ok (.aload_n 0, 1) := by decide +kernel
theorem dX6_alike_25 : decode cX6_alike 25 = .ok (.invokevirtual 66, 3) := by decide +kernel
theorem dX6_alike_28 : decode cX6_alike 28 = .ok (.if_icmp .ge 31, 3) := by decide +kernel
theorem dX6_alike_31 : decode cX6_alike 31 = .ok (.iload_n 3, 1) := by decide +kernel
theorem dX6_alike_32 : decode cX6_alike 32 = .ok (.aload_n 0, 1) := by decide +kernel
theorem dX6_alike_33 : decode cX6_alike 33 = .ok (.iload_n 1, 1) := by decide +kernel
theorem dX6_alike_34 : decode cX6_alike 34 = .ok (.iload_n 2, 1) := by decide +kernel
theorem dX6_alike_35 : decode cX6_alike 35 = .ok (.iload 4, 2) := by decide +kernel
theorem dX6_alike_37 : decode cX6_alike 37 = .ok (.invokevirtual 273, 3) := by decide +kernel
theorem dX6_alike_40 : decode cX6_alike 40 = .ok (.ifCond .eq 10, 3) := by decide +kernel
theorem dX6_alike_43 : decode cX6_alike 43 = .ok (.iconst 1, 1) := by decide +kernel
theorem dX6_alike_44 : decode cX6_alike 44 = .ok (.iload 4, 2) := by decide +kernel
theorem dX6_alike_46 : decode cX6_alike 46 = .ok (.ishl, 1) := by decide +kernel
theorem dX6_alike_47 : decode cX6_alike 47 = .ok (.goto 4, 3) := by decide +kernel
theorem dX6_alike_50 : decode cX6_alike 50 = .ok (.iconst 0, 1) := by decide +kernel
theorem dX6_alike_51 : decode cX6_alike 51 = .ok (.ior, 1) := by decide +kernel
theorem dX6_alike_52 : decode cX6_alike 52 = .ok (.istore_n 3, 1) := by decide +kernel
theorem dX6_alike_53 : decode cX6_alike 53 = .ok (.iinc 4 1, 3) := by decide +kernel
theorem dX6_alike_56 : decode cX6_alike 56 = .ok (.goto (-34), 3) := by decide +kernel
theorem dX6_alike_59 : decode cX6_alike 59 = .ok (.iload_n 3, 1) := by decide +kernel
theorem dX6_alike_60 : decode cX6_alike 60 = .ok (.ireturn, 1) := by decide +kernel
set_option maxRecDepth 20000 in
theorem ggX6_carrier_X6_isGame : GoodIn wsX6_carrier wsX6_isGame := goodIn_r _ [4, 5, 6, 7, 3, 8] (by decide +kernel) (by decide +kernel)
set_option maxRecDepth 20000 in
theorem gX6_carrier_X6_isGame : GoodIn wsX6_carrier (va_wsS RX6 85 yX6_isGame wsX6_isGame) := goodIn_app (goodIn_of _ (by decide +kernel)) ggX6_carrier_X6_isGame
set_option maxRecDepth 20000 in
theorem ggX6_carrier_X6_all : GoodIn wsX6_carrier wsX6_all := goodIn_r _ [12, 13, 14, 15, 3, 16, 17, 43, 44, 45, 46, 47, 48, 49, 50, 51, 52, 53, 54, 55, 56, 57, 58] (by decide +kernel) (by decide +kernel)
set_option maxRecDepth 20000 in
theorem gX6_carrier_X6_all : GoodIn wsX6_carrier (wsV RX6 80 RX6 yX6_all wsX6_all) := goodIn_app (goodIn_of _ (by decide +kernel)) ggX6_carrier_X6_all
set_option maxRecDepth 20000 in
theorem ggX6_carrier_X6_kind : GoodIn wsX6_carrier wsX6_kind := goodIn_r _ [21, 22, 1, 2, 3, 4, 5, 6, 7, 8, 13, 14, 15, 16, 17, 23, 24, 25, 26, 9, 10, 11, 12, 27, 28, 29, 30, 31, 32, 33, 34, 35, 36, 37, 38, 39, 40, 41, 42, 43, 44, 45, 46, 47, 48, 49, 50, 51, 52, 53, 54, 55, 56, 57, 58] (by decide +kernel) (by decide +kernel)
set_option maxRecDepth 20000 in
theorem gX6_carrier_X6_kind : GoodIn wsX6_carrier (wsV RX6 276 RX6 yX6_kind wsX6_kind) := goodIn_app (goodIn_of _ (by decide +kernel)) ggX6_carrier_X6_kind
theorem dX6_carrier_0 : decode cX6_carrier 0 = .ok (.iload_n 1, 1) := by decide +kernel
theorem dX6_carrier_1 : decode cX6_carrier 1 = .ok (.invokestatic 85, 3) := by decide +kernel
theorem dX6_carrier_4 : decode cX6_carrier 4 = .ok (.ifCond .eq 19, 3) := by decide +kernel
theorem dX6_carrier_7 : decode cX6_carrier 7 = .ok (.aload_n 0, 1) := by decide +kernel
theorem dX6_carrier_8 : decode cX6_carrier 8 = .ok (.invokevirtual 80, 3) := by decide +kernel
theorem dX6_carrier_11 : decode cX6_carrier 11 = .ok (.aload_n 0, 1) := by decide +kernel
theorem dX6_carrier_12 : decode cX6_carrier 12 = .ok (.iload_n 1, 1) := by decide +kernel
theorem dX6_carrier_13 : decode cX6_carrier 13 = .ok (.iconst 0, 1) := by decide +kernel
theorem dX6_carrier_14 : decode cX6_carrier 14 = .ok (.invokevirtual 276, 3) := by decide +kernel
theorem dX6_carrier_17 : decode cX6_carrier 17 = .ok (.iconst (-1), 1) := by decide +kernel
theorem dX6_carrier_18 : decode cX6_carrier 18 = .ok (.ixor, 1) := by decide +kernel
theorem dX6_carrier_19 : decode cX6_carrier 19 = .ok (.iand, 1) := by decide +kernel
theorem dX6_carrier_20 : decode cX6_carrier 20 = .ok (.goto 4, 3) := by decide +kernel
theorem dX6_carrier_23 : decode cX6_carrier 23 = .ok (.iconst (-1), 1) := by decide +kernel
theorem dX6_carrier_24 : decode cX6_carrier 24 = .ok (.ireturn, 1) := by decide +kernel
set_option maxRecDepth 20000 in
theorem ggX6_agree_X6_v : GoodIn wsX6_agree wsX6_v := goodIn_r _ [5, 6, 12, 13, 14, 15, 16, 17, 18, 19, 20, 21, 22, 23, 24, 25, 26, 27] (by decide +kernel) (by decide +kernel)
set_option maxRecDepth 20000 in
theorem gX6_agree_X6_v : GoodIn wsX6_agree (wsV RX6 95 RX6 yX6_v wsX6_v) := goodIn_app (goodIn_of _ (by decide +kernel)) ggX6_agree_X6_v
set_option maxRecDepth 20000 in
theorem ggX6_agree_X6_plus : GoodIn wsX6_agree wsX6_plus := goodIn_r _ [10, 11, 12, 13, 14, 15, 16, 17, 18, 19, 20, 21, 22, 23, 24, 25, 26, 27] (by decide +kernel) (by decide +kernel)
set_option maxRecDepth 20000 in
theorem gX6_agree_X6_plus : GoodIn wsX6_agree (wsV RX6 196 RX6 yX6_plus wsX6_plus) := goodIn_app (goodIn_of _ (by decide +kernel)) ggX6_agree_X6_plus
