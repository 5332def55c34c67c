theorem dX0_init_0 : decode cX0_init 0 = .ok (.aload_n 0, 1) := by decide +kernel
theorem dX0_init_1 : decode cX0_init 1 = .ok (.invokespecial 3, 3) := by decide +kernel
theorem dX0_init_4 : decode cX0_init 4 = .ok (.aload_n 0, 1) := by decide +kernel
theorem dX0_init_5 : decode cX0_init 5 = .ok (.bipush 9, 2) := by decide +kernel
theorem dX0_init_7 : decode cX0_init 7 = .ok (.newarray .int, 2) := by decide +kernel
theorem dX0_init_9 : decode cX0_init 9 = .ok (.putfield 9, 3) := by decide +kernel
theorem dX0_init_12 : decode cX0_init 12 = .ok (.aload_n 0, 1) := by decide +kernel
theorem dX0_init_13 : decode cX0_init 13 = .ok (.bipush 9, 2) := by decide +kernel
theorem dX0_init_15 : decode cX0_init 15 = .ok (.newarray .int, 2) := by decide +kernel
theorem dX0_init_17 : decode cX0_init 17 = .ok (.putfield 15, 3) := by decide +kernel
theorem dX0_init_20 : decode cX0_init 20 = .ok (.aload_n 0, 1) := by decide +kernel
theorem dX0_init_21 : decode cX0_init 21 = .ok (.bipush 81, 2) := by decide +kernel
theorem dX0_init_23 : decode cX0_init 23 = .ok (.newarray .int, 2) := by decide +kernel
theorem dX0_init_25 : decode cX0_init 25 = .ok (.putfield 18, 3) := by decide +kernel
theorem dX0_init_28 : decode cX0_init 28 = .ok (.aload_n 0, 1) := by decide +kernel
theorem dX0_init_29 : decode cX0_init 29 = .ok (.iconst 4, 1) := by decide +kernel
theorem dX0_init_30 : decode cX0_init 30 = .ok (.sipush 512, 3) := by decide +kernel
theorem dX0_init_33 : decode cX0_init 33 = .ok (.multianewarray 21 2, 4) := by decide +kernel
theorem dX0_init_37 : decode cX0_init 37 = .ok (.putfield 23, 3) := by decide +kernel
theorem dX0_init_40 : decode cX0_init 40 = .ok (.return_, 1) := by decide +kernel
set_option maxRecDepth 20000 in
theorem ggX0_begin_J7_fill_53178 : GoodIn wsX0_begin wsJ7_fill_53178 := goodIn_r _ [11] (by decide +kernel) (by decide +kernel)
set_option maxRecDepth 20000 in
theorem gX0_begin_J7_fill_53178 : GoodIn wsX0_begin (va_wsS RX0 36 yJ7_fill_53178 wsJ7_fill_53178) := goodIn_app (goodIn_of _ (by decide +kernel)) ggX0_begin_J7_fill_53178
set_option maxRecDepth 20000 in
theorem ggX0_begin_J7_fill_d0a16 : GoodIn wsX0_begin wsJ7_fill_d0a16 := goodIn_r _ [14] (by decide +kernel) (by decide +kernel)
set_option maxRecDepth 20000 in
theorem gX0_begin_J7_fill_d0a16 : GoodIn wsX0_begin (va_wsS RX0 42 yJ7_fill_d0a16 wsJ7_fill_d0a16) := goodIn_app (goodIn_of _ (by decide +kernel)) ggX0_begin_J7_fill_d0a16
theorem dX0_begin_0 : decode cX0_begin 0 = .ok (.aload_n 0, 1) := by decide +kernel
theorem dX0_begin_1 : decode cX0_begin 1 = .ok (.iload_n 1, 1) := by decide +kernel
theorem dX0_begin_2 : decode cX0_begin 2 = .ok (.putfield 26, 3) := by decide +kernel
theorem dX0_begin_5 : decode cX0_begin 5 = .ok (.aload_n 0, 1) := by decide +kernel
theorem dX0_begin_6 : decode cX0_begin 6 = .ok (.iconst 1, 1) := by decide +kernel
theorem dX0_begin_7 : decode cX0_begin 7 = .ok (.putfield 30, 3) := by decide +kernel
theorem dX0_begin_10 : decode cX0_begin 10 = .ok (.aload_n 0, 1) := by decide +kernel
theorem dX0_begin_11 : decode cX0_begin 11 = .ok (.iconst 0, 1) := by decide +kernel
theorem dX0_begin_12 : decode cX0_begin 12 = .ok (.putfield 33, 3) := by decide +kernel
theorem dX0_begin_15 : decode cX0_begin 15 = .ok (.aload_n 0, 1) := by decide +kernel
theorem dX0_begin_16 : decode cX0_begin 16 = .ok (.getfield 9, 3) := by decide +kernel
theorem dX0_begin_19 : decode cX0_begin 19 = .ok (.iconst 0, 1) := by decide +kernel
theorem dX0_begin_20 : decode cX0_begin 20 = .ok (.invokestatic 36, 3) := by decide +kernel
theorem dX0_begin_23 : decode cX0_begin 23 = .ok (.aload_n 0, 1) := by decide +kernel
theorem dX0_begin_24 : decode cX0_begin 24 = .ok (.getfield 18, 3) := by decide +kernel
theorem dX0_begin_27 : decode cX0_begin 27 = .ok (.sipush 10000, 3) := by decide +kernel
theorem dX0_begin_30 : decode cX0_begin 30 = .ok (.invokestatic 36, 3) := by decide +kernel
theorem dX0_begin_33 : decode cX0_begin 33 = .ok (.iconst 0, 1) := by decide +kernel
theorem dX0_begin_34 : decode cX0_begin 34 = .ok (.istore_n 2, 1) := by decide +kernel
theorem dX0_begin_35 : decode cX0_begin 35 = .ok (.iload_n 2, 1) := by decide +kernel
theorem dX0_begin_36 : decode cX0_begin 36 = .ok (.bipush 9, 2) := by decide +kernel
theorem dX0_begin_38 : decode cX0_begin 38 = .ok (.if_icmp .ge 18, 3) := by decide +kernel
theorem dX0_begin_41 : decode cX0_begin 41 = .ok (.aload_n 0, 1) := by decide +kernel
theorem dX0_begin_42 : decode cX0_begin 42 = .ok (.getfield 15, 3) := by decide +kernel
theorem dX0_begin_45 : decode cX0_begin 45 = .ok (.iload_n 2, 1) := by decide +kernel
theorem dX0_begin_46 : decode cX0_begin 46 = .ok (.iconst 1, 1) := by decide +kernel
theorem dX0_begin_47 : decode cX0_begin 47 = .ok (.iload_n 2, 1) := by decide +kernel
theorem dX0_begin_48 : decode cX0_begin 48 = .ok (.ishl, 1) := by decide +kernel
theorem dX0_begin_49 : decode cX0_begin 49 = .ok (.iastore, 1) := by decide +kernel
theorem dX0_begin_50 : decode cX0_begin 50 = .ok (.iinc 2 1, 3) := by decide +kernel
theorem dX0_begin_53 : decode cX0_begin 53 = .ok (.goto (-18), 3) := by decide +kernel
theorem dX0_begin_56 : decode cX0_begin 56 = .ok (.iconst 0, 1) := by decide +kernel
theorem dX0_begin_57 : decode cX0_begin 57 = .ok (.istore_n 2, 1) := by decide +kernel
theorem dX0_begin_58 : decode cX0_begin 58 = .ok (.iload_n 2, 1) := by decide +kernel
theorem dX0_begin_59 : decode cX0_begin 59 = .ok (.iconst 4, 1) := by decide +kernel
theorem dX0_begin_60 : decode cX0_begin 60 = .ok (.if_icmp .ge 19, 3) := by decide +kernel
theorem dX0_begin_63 : decode cX0_begin 63 = .ok (.aload_n 0, 1) := by decide +kernel
theorem dX0_begin_64 : decode cX0_begin 64 = .ok (.getfield 23, 3) := by decide +kernel
theorem dX0_begin_67 : decode cX0_begin 67 = .ok (.iload_n 2, 1) := by decide +kernel
theorem dX0_begin_68 : decode cX0_begin 68 = .ok (.aaload, 1) := by decide +kernel
theorem dX0_begin_69 : decode cX0_begin 69 = .ok (.lconst 0, 1) := by decide +kernel
theorem dX0_begin_70 : decode cX0_begin 70 = .ok (.invokestatic 42, 3) := by decide +kernel
theorem dX0_begin_73 : decode cX0_begin 73 = .ok (.iinc 2 1, 3) := by decide +kernel
theorem dX0_begin_76 : decode cX0_begin 76 = .ok (.goto (-18), 3) := by decide +kernel
theorem dX0_begin_79 : decode cX0_begin 79 = .ok (.return_, 1) := by decide +kernel
theorem dX0_become_0 : decode cX0_become 0 = .ok (.aload_n 0, 1) := by decide +kernel
theorem dX0_become_1 : decode cX0_become 1 = .ok (.aload_n 1, 1) := by decide +kernel
theorem dX0_become_2 : decode cX0_become 2 = .ok (.getfield 26, 3) := by decide +kernel
theorem dX0_become_5 : decode cX0_become 5 = .ok (.putfield 26, 3) := by decide +kernel
theorem dX0_become_8 : decode cX0_become 8 = .ok (.aload_n 0, 1) := by decide +kernel
theorem dX0_become_9 : decode cX0_become 9 = .ok (.aload_n 1, 1) := by decide +kernel
theorem dX0_become_10 : decode cX0_become 10 = .ok (.getfield 30, 3) := by decide +kernel
theorem dX0_become_13 : decode cX0_become 13 = .ok (.putfield 30, 3) := by decide +kernel
theorem dX0_become_16 : decode cX0_become 16 = .ok (.aload_n 0, 1) := by decide +kernel
theorem dX0_become_17 : decode cX0_become 17 = .ok (.aload_n 1, 1) := by decide +kernel
theorem dX0_become_18 : decode cX0_become 18 = .ok (.getfield 33, 3) := by decide +kernel
theorem dX0_become_21 : decode cX0_become 21 = .ok (.putfield 33, 3) := by decide +kernel
theorem dX0_become_24 : decode cX0_become 24 = .ok (.aload_n 1, 1) := by decide +kernel
theorem dX0_become_25 : decode cX0_become 25 = .ok (.getfield 9, 3) := by decide +kernel
theorem dX0_become_28 : decode cX0_become 28 = .ok (.iconst 0, 1) := by decide +kernel
theorem dX0_become_29 : decode cX0_become 29 = .ok (.aload_n 0, 1) := by decide +kernel
theorem dX0_become_30 : decode cX0_become 30 = .ok (.getfield 9, 3) := by decide +kernel
theorem dX0_become_33 : decode cX0_become 33 = .ok (.iconst 0, 1) := by decide +kernel
theorem dX0_become_34 : decode cX0_become 34 = .ok (.bipush 9, 2) := by decide +kernel
theorem dX0_become_36 : decode cX0_become 36 = .ok (.invokestatic 45, 3) := by decide +kernel
theorem dX0_become_39 : decode cX0_become 39 = .ok (.aload_n 1, 1) := by decide +kernel
theorem dX0_become_40 : decode cX0_become 40 = .ok (.getfield 15, 3) := by decide +kernel
theorem dX0_become_43 : decode cX0_become 43 = .ok (.iconst 0, 1) := by decide +kernel
theorem dX0_become_44 : decode cX0_become 44 = .ok (.aload_n 0, 1) := by decide +kernel
theorem dX0_become_45 : decode cX0_become 45 = .ok (.getfield 15, 3) := by decide +kernel
theorem dX0_become_48 : decode cX0_become 48 = .ok (.iconst 0, 1) := by decide +kernel
theorem dX0_become_49 : decode cX0_become 49 = .ok (.bipush 9, 2) := by decide +kernel
theorem dX0_become_51 : decode cX0_become 51 = .ok (.invokestatic 45, 3) := by decide +kernel
theorem dX0_become_54 : decode cX0_become 54 = .ok (.aload_n 1, 1) := by decide +kernel
theorem dX0_become_55 : decode cX0_become 55 = .ok (.getfield 18, 3) := by decide +kernel
theorem dX0_become_58 : decode cX0_become 58 = .ok (.iconst 0, 1) := by decide +kernel
theorem dX0_become_59 : decode cX0_become 59 = .ok (.aload_n 0, 1) := by decide +kernel
theorem dX0_become_60 : decode cX0_become 60 = .ok (.getfield 18, 3) := by decide +kernel
theorem dX0_become_63 : decode cX0_become 63 = .ok (.iconst 0, 1) := by decide +kernel
theorem dX0_become_64 : decode cX0_become 64 = .ok (.aload_n 0, 1) := by decide +kernel
theorem dX0_become_65 : decode cX0_become 65 = .ok (.getfield 18, 3) := by decide +kernel
theorem dX0_become_68 : decode cX0_become 68 = .ok (.arraylength, 1) := by decide +kernel
theorem dX0_become_69 : decode cX0_become 69 = .ok (.invokestatic 45, 3) := by decide +kernel
theorem dX0_become_72 : decode cX0_become 72 = .ok (.iconst 0, 1) := by decide +kernel
theorem dX0_become_73 : decode cX0_become 73 = .ok (.istore_n 2, 1) := by decide +kernel
theorem dX0_become_74 : decode cX0_become 74 = .ok (.iload_n 2, 1) := by decide +kernel
theorem dX0_become_75 : decode cX0_become 75 = .ok (.iconst 4, 1) := by decide +kernel
theorem dX0_become_76 : decode cX0_become 76 = .ok (.if_icmp .ge 29, 3) := by decide +kernel
theorem dX0_become_79 : decode cX0_become 79 = .ok (.aload_n 1, 1) := by decide +kernel
theorem dX0_become_80 : decode cX0_become 80 = .ok (.getfield 23, 3) := by decide +kernel
theorem dX0_become_83 : decode cX0_become 83 = .ok (.iload_n 2, 1) := by decide +kernel
theorem dX0_become_84 : decode cX0_become 84 = .ok (.aaload, 1) := by decide +kernel
theorem dX0_become_85 : decode cX0_become 85 = .ok (.iconst 0, 1) := by decide +kernel
theorem dX0_become_86 : decode cX0_become 86 = .ok (.aload_n 0, 1) := by decide +kernel
theorem dX0_become_87 : decode cX0_become 87 = .ok (.getfield 23, 3) := by decide +kernel
theorem dX0_become_90 : decode cX0_become 90 = .ok (.iload_n 2, 1) := by decide +kernel
theorem dX0_become_91 : decode cX0_become 91 = .ok (.aaload, 1) := by decide +kernel
theorem dX0_become_92 : decode cX0_become 92 = .ok (.iconst 0, 1) := by decide +kernel
theorem dX0_become_93 : decode cX0_become 93 = .ok (.sipush 512, 3) := by decide +kernel
theorem dX0_become_96 : decode cX0_become 96 = .ok (.invokestatic 45, 3) := by decide +kernel
theorem dX0_become_99 : decode cX0_become 99 = .ok (.iinc 2 1, 3) := by decide +kernel
theorem dX0_become_102 : decode cX0_become 102 = .ok (.goto (-28), 3) := by decide +kernel
theorem dX0_become_105 : decode cX0_become 105 = .ok (.return_, 1) := by decide +kernel
theorem dX0_sets_0 : decode cX0_sets 0 = .ok (.iconst 1, 1) := by decide +kernel
theorem dX0_sets_1 : decode cX0_sets 1 = .ok (.aload_n 0, 1) := by decide +kernel
theorem dX0_sets_2 : decode cX0_sets 2 = .ok (.getfield 26, 3) := by decide +kernel
theorem dX0_sets_5 : decode cX0_sets 5 = .ok (.ishl, 1) := by decide +kernel
theorem dX0_sets_6 : decode cX0_sets 6 = .ok (.ireturn, 1) := by decide +kernel
theorem dX0_everyone_0 : decode cX0_everyone 0 = .ok (.iconst 1, 1) := by decide +kernel
theorem dX0_everyone_1 : decode cX0_everyone 1 = .ok (.aload_n 0, 1) := by decide +kernel
theorem dX0_everyone_2 : decode cX0_everyone 2 = .ok (.getfield 26, 3) := by decide +kernel
theorem dX0_everyone_5 : decode cX0_everyone 5 = .ok (.ishl, 1) := by decide +kernel
theorem dX0_everyone_6 : decode cX0_everyone 6 = .ok (.iconst 1, 1) := by decide +kernel
theorem dX0_everyone_7 : decode cX0_everyone 7 = .ok (.isub, 1) := by decide +kernel
theorem dX0_everyone_8 : decode cX0_everyone 8 = .ok (.ireturn, 1) := by decide +kernel
theorem dX0_hasPartner_0 : decode cX0_hasPartner 0 = .ok (.iload_n 1, 1) := by decide +kernel
theorem dX0_hasPartner_1 : decode cX0_hasPartner 1 = .ok (.ifCond .lt 15, 3) := by decide +kernel
theorem dX0_hasPartner_4 : decode cX0_hasPartner 4 = .ok (.iload_n 1, 1) := by decide +kernel
theorem dX0_hasPartner_5 : decode cX0_hasPartner 5 = .ok (.aload_n 0, 1) := by decide +kernel
theorem dX0_hasPartner_6 : decode cX0_hasPartner 6 = .ok (.getfield 26, 3) := by decide +kernel
theorem dX0_hasPartner_9 : decode cX0_hasPartner 9 = .ok (.if_icmp .ge 7, 3) := by decide +kernel
theorem dX0_hasPartner_12 : decode cX0_hasPartner 12 = .ok (.iconst 1, 1) := by decide +kernel
theorem dX0_hasPartner_13 : decode cX0_hasPartner 13 = .ok (.goto 4, 3) := by decide +kernel
theorem dX0_hasPartner_16 : decode cX0_hasPartner 16 = .ok (.iconst 0, 1) := by decide +kernel
theorem dX0_hasPartner_17 : decode cX0_hasPartner 17 = .ok (.ireturn, 1) := by decide +kernel
set_option maxRecDepth 20000 in
theorem ggX0_hasTwo_X0_hasPartner : GoodIn wsX0_hasTwo wsX0_hasPartner := goodIn_r _ [5, 6, 7, 8, 9, 10, 11, 12, 13] (by decide +kernel) (by decide +kernel)
set_option maxRecDepth 20000 in
theorem gX0_hasTwo_X0_hasPartner : GoodIn wsX0_hasTwo (wsV RX0 51 RX0 yX0_hasPartner wsX0_hasPartner) := goodIn_app (goodIn_of _ (by decide +kernel)) ggX0_hasTwo_X0_hasPartner
theorem dX0_hasTwo_0 : decode cX0_hasTwo 0 = .ok (.aload_n 0, 1) := by decide +kernel
theorem dX0_hasTwo_1 : decode cX0_hasTwo 1 = .ok (.iload_n 1, 1) := by decide +kernel
theorem dX0_hasTwo_2 : decode cX0_hasTwo 2 = .ok (.invokevirtual 51, 3) := by decide +kernel
theorem dX0_hasTwo_5 : decode cX0_hasTwo 5 = .ok (.ifCond .eq 20, 3) := by decide +kernel
theorem dX0_hasTwo_8 : decode cX0_hasTwo 8 = .ok (.aload_n 0, 1) := by decide +kernel
theorem dX0_hasTwo_9 : decode cX0_hasTwo 9 = .ok (.iload_n 2, 1) := by decide +kernel
theorem dX0_hasTwo_10 : decode cX0_hasTwo 10 = .ok (.invokevirtual 51, 3) := by decide +kernel
theorem dX0_hasTwo_13 : decode cX0_hasTwo 13 = .ok (.ifCond .eq 12, 3) := by decide +kernel
theorem dX0_hasTwo_16 : decode cX0_hasTwo 16 = .ok (.iload_n 1, 1) := by decide +kernel
theorem dX0_hasTwo_17 : decode cX0_hasTwo 17 = .ok (.iload_n 2, 1) := by decide +kernel
theorem dX0_hasTwo_18 : decode cX0_hasTwo 18 = .ok (.if_icmp .eq 7, 3) := by decide +kernel
theorem dX0_hasTwo_21 : decode cX0_hasTwo 21 = .ok (.iconst 1, 1) := by decide +kernel
theorem dX0_hasTwo_22 : decode cX0_hasTwo 22 = .ok (.goto 4, 3) := by decide +kernel
theorem dX0_hasTwo_25 : decode cX0_hasTwo 25 = .ok (.iconst 0, 1) := by decide +kernel
theorem dX0_hasTwo_26 : decode cX0_hasTwo 26 = .ok (.ireturn, 1) := by decide +kernel
set_option maxRecDepth 20000 in
theorem ggX0_hasSet_X0_sets : GoodIn wsX0_hasSet wsX0_sets := goodIn_r _ [5, 6, 7, 8, 9, 10, 11, 12, 13] (by decide +kernel) (by decide +kernel)
set_option maxRecDepth 20000 in
theorem gX0_hasSet_X0_sets : GoodIn wsX0_hasSet (wsV RX0 55 RX0 yX0_sets wsX0_sets) := goodIn_app (goodIn_of _ (by decide +kernel)) ggX0_hasSet_X0_sets
theorem dX0_hasSet_0 : decode cX0_hasSet 0 = .ok (.iload_n 1, 1) := by decide +kernel
theorem dX0_hasSet_1 : decode cX0_hasSet 1 = .ok (.ifCond .lt 15, 3) := by decide +kernel
theorem dX0_hasSet_4 : decode cX0_hasSet 4 = .ok (.iload_n 1, 1) := by decide +kernel
theorem dX0_hasSet_5 : decode cX0_hasSet 5 = .ok (.aload_n 0, 1) := by decide +kernel
theorem dX0_hasSet_6 : decode cX0_hasSet 6 = .ok (.invokevirtual 55, 3) := by decide +kernel
theorem dX0_hasSet_9 : decode cX0_hasSet 9 = .ok (.if_icmp .ge 7, 3) := by decide +kernel
theorem dX0_hasSet_12 : decode cX0_hasSet 12 = .ok (.iconst 1, 1) := by decide +kernel
theorem dX0_hasSet_13 : decode cX0_hasSet 13 = .ok (.goto 4, 3) := by decide +kernel
theorem dX0_hasSet_16 : decode cX0_hasSet 16 = .ok (.iconst 0, 1) := by decide +kernel
theorem dX0_hasSet_17 : decode cX0_hasSet 17 = .ok (.ireturn, 1) := by decide +kernel
set_option maxRecDepth 20000 in
theorem ggX0_bringTogether_X5_has : GoodIn wsX0_bringTogether wsX5_has := goodIn_r _ [5] (by decide +kernel) (by decide +kernel)
set_option maxRecDepth 20000 in
theorem gX0_bringTogether_X5_has_n59 : GoodIn wsX0_bringTogether (wsX5_has) := ggX0_bringTogether_X5_has
theorem dX0_bringTogether_0 : decode cX0_bringTogether 0 = .ok (.iconst 0, 1) := by decide +kernel
theorem dX0_bringTogether_1 : decode cX0_bringTogether 1 = .ok (.istore_n 3, 1) := by decide +kernel
theorem dX0_bringTogether_2 : decode cX0_bringTogether 2 = .ok (.iload_n 3, 1) := by decide +kernel
theorem dX0_bringTogether_3 : decode cX0_bringTogether 3 = .ok (.aload_n 0, 1) := by decide +kernel
theorem dX0_bringTogether_4 : decode cX0_bringTogether 4 = .ok (.getfield 26, 3) := by decide +kernel
theorem dX0_bringTogether_7 : decode cX0_bringTogether 7 = .ok (.if_icmp .ge 23, 3) := by decide +kernel
theorem dX0_bringTogether_10 : decode cX0_bringTogether 10 = .ok (.aload_n 0, 1) := by decide +kernel
theorem dX0_bringTogether_11 : decode cX0_bringTogether 11 = .ok (.getfield 15, 3) := by decide +kernel
theorem dX0_bringTogether_14 : decode cX0_bringTogether 14 = .ok (.iload_n 3, 1) := by decide +kernel
theorem dX0_bringTogether_15 : decode cX0_bringTogether 15 = .ok (.dup2, 1) := by decide +kernel
theorem dX0_bringTogether_16 : decode cX0_bringTogether 16 = .ok (.iaload, 1) := by decide +kernel
theorem dX0_bringTogether_17 : decode cX0_bringTogether 17 = .ok (.iconst 1, 1) := by decide +kernel
theorem dX0_bringTogether_18 : decode cX0_bringTogether 18 = .ok (.iload_n 1, 1) := by decide +kernel
theorem dX0_bringTogether_19 : decode cX0_bringTogether 19 = .ok (.ishl, 1) := by decide +kernel
theorem dX0_bringTogether_20 : decode cX0_bringTogether 20 = .ok (.iconst (-1), 1) := by decide +kernel
theorem dX0_bringTogether_21 : decode cX0_bringTogether 21 = .ok (.ixor, 1) := by decide +kernel
theorem dX0_bringTogether_22 : decode cX0_bringTogether 22 = .ok (.iand, 1) := by decide +kernel
theorem dX0_bringTogether_23 : decode cX0_bringTogether 23 = .ok (.iastore, 1) := by decide +kernel
theorem dX0_bringTogether_24 : decode cX0_bringTogether 24 = .ok (.iinc 3 1, 3) := by decide +kernel
theorem dX0_bringTogether_27 : decode cX0_bringTogether 27 = .ok (.goto (-25), 3) := by decide +kernel
theorem dX0_bringTogether_30 : decode cX0_bringTogether 30 = .ok (.iconst 1, 1) := by decide +kernel
theorem dX0_bringTogether_31 : decode cX0_bringTogether 31 = .ok (.iload_n 1, 1) := by decide +kernel
theorem dX0_bringTogether_32 : decode cX0_bringTogether 32 = .ok (.ishl, 1) := by decide +kernel
theorem dX0_bringTogether_33 : decode cX0_bringTogether 33 = .ok (.iload_n 1, 1) := by decide +kernel
theorem dX0_bringTogether_34 : decode cX0_bringTogether 34 = .ok (.iload_n 2, 1) := by decide +kernel
theorem dX0_bringTogether_35 : decode cX0_bringTogether 35 = .ok (.if_icmp .ne 7, 3) := by decide +kernel
theorem dX0_bringTogether_38 : decode cX0_bringTogether 38 = .ok (.iconst 0, 1) := by decide +kernel
theorem dX0_bringTogether_39 : decode cX0_bringTogether 39 = .ok (.goto 9, 3) := by decide +kernel
theorem dX0_bringTogether_42 : decode cX0_bringTogether 42 = .ok (.aload_n 0, 1) := by decide +kernel
theorem dX0_bringTogether_43 : decode cX0_bringTogether 43 = .ok (.getfield 15, 3) := by decide +kernel
theorem dX0_bringTogether_46 : decode cX0_bringTogether 46 = .ok (.iload_n 2, 1) := by decide +kernel
theorem dX0_bringTogether_47 : decode cX0_bringTogether 47 = .ok (.iaload, 1) := by decide +kernel
theorem dX0_bringTogether_48 : decode cX0_bringTogether 48 = .ok (.ior, 1) := by decide +kernel
theorem dX0_bringTogether_49 : decode cX0_bringTogether 49 = .ok (.istore_n 3, 1) := by decide +kernel
theorem dX0_bringTogether_50 : decode cX0_bringTogether 50 = .ok (.iconst 0, 1) := by decide +kernel
theorem dX0_bringTogether_51 : decode cX0_bringTogether 51 = .ok (.istore 4, 2) := by decide +kernel
theorem dX0_bringTogether_53 : decode cX0_bringTogether 53 = .ok (.iload 4, 2) := by decide +kernel
theorem dX0_bringTogether_55 : decode cX0_bringTogether 55 = .ok (.aload_n 0, 1) := by decide +kernel
theorem dX0_bringTogether_56 : decode cX0_bringTogether 56 = .ok (.getfield 26, 3) := by decide +kernel
theorem dX0_bringTogether_59 : decode cX0_bringTogether 59 = .ok (.if_icmp .ge 26, 3) := by decide +kernel
theorem dX0_bringTogether_62 : decode cX0_bringTogether 62 = .ok (.iload_n 3, 1) := by decide +kernel
theorem dX0_bringTogether_63 : decode cX0_bringTogether 63 = .ok (.iload 4, 2) := by decide +kernel
theorem dX0_bringTogether_65 : decode cX0_bringTogether 65 = .ok (.invokestatic 59, 3) := by decide +kernel
theorem dX0_bringTogether_68 : decode cX0_bringTogether 68 = .ok (.ifCond .eq 11, 3) := by decide +kernel
theorem dX0_bringTogether_71 : decode cX0_bringTogether 71 = .ok (.aload_n 0, 1) := by decide +kernel
theorem dX0_bringTogether_72 : decode cX0_bringTogether 72 = .ok (.getfield 15, 3) := by decide +kernel
theorem dX0_bringTogether_75 : decode cX0_bringTogether 75 = .ok (.iload 4, 2) := by decide +kernel
theorem dX0_bringTogether_77 : decode cX0_bringTogether 77 = .ok (.iload_n 3, 1) := by decide +kernel
theorem dX0_bringTogether_78 : decode cX0_bringTogether 78 = .ok (.iastore, 1) := by decide +kernel
theorem dX0_bringTogether_79 : decode cX0_bringTogether 79 = .ok (.iinc 4 1, 3) := by decide +kernel
theorem dX0_bringTogether_82 : decode cX0_bringTogether 82 = .ok (.goto (-29), 3) := by decide +kernel
theorem dX0_bringTogether_85 : decode cX0_bringTogether 85 = .ok (.return_, 1) := by decide +kernel
set_option maxRecDepth 20000 in
theorem ggX0_countUnions_X5_leastOf : GoodIn wsX0_countUnions wsX5_leastOf := goodIn_r _ [5, 6, 7, 4, 8] (by decide +kernel) (by decide +kernel)
set_option maxRecDepth 20000 in
theorem gX0_countUnions_X5_leastOf_n63 : GoodIn wsX0_countUnions (wsX5_leastOf) := ggX0_countUnions_X5_leastOf
theorem dX0_countUnions_0 : decode cX0_countUnions 0 = .ok (.iconst 0, 1) := by decide +kernel
theorem dX0_countUnions_1 : decode cX0_countUnions 1 = .ok (.istore_n 1, 1) := by decide +kernel
theorem dX0_countUnions_2 : decode cX0_countUnions 2 = .ok (.iconst 0, 1) := by decide +kernel
theorem dX0_countUnions_3 : decode cX0_countUnions 3 = .ok (.istore_n 2, 1) := by decide +kernel
theorem dX0_countUnions_4 : decode cX0_countUnions 4 = .ok (.iload_n 2, 1) := by decide +kernel
theorem dX0_countUnions_5 : decode cX0_countUnions 5 = .ok (.aload_n 0, 1) := by decide +kernel
theorem dX0_countUnions_6 : decode cX0_countUnions 6 = .ok (.getfield 26, 3) := by decide +kernel
theorem dX0_countUnions_9 : decode cX0_countUnions 9 = .ok (.if_icmp .ge 25, 3) := by decide +kernel
theorem dX0_countUnions_12 : decode cX0_countUnions 12 = .ok (.aload_n 0, 1) := by decide +kernel
theorem dX0_countUnions_13 : decode cX0_countUnions 13 = .ok (.getfield 15, 3) := by decide +kernel
theorem dX0_countUnions_16 : decode cX0_countUnions 16 = .ok (.iload_n 2, 1) := by decide +kernel
theorem dX0_countUnions_17 : decode cX0_countUnions 17 = .ok (.iaload, 1) := by decide +kernel
theorem dX0_countUnions_18 : decode cX0_countUnions 18 = .ok (.invokestatic 63, 3) := by decide +kernel
theorem dX0_countUnions_21 : decode cX0_countUnions 21 = .ok (.iload_n 2, 1) := by decide +kernel
theorem dX0_countUnions_22 : decode cX0_countUnions 22 = .ok (.if_icmp .ne 6, 3) := by decide +kernel
theorem dX0_countUnions_25 : decode cX0_countUnions 25 = .ok (.iinc 1 1, 3) := by decide +kernel
theorem dX0_countUnions_28 : decode cX0_countUnions 28 = .ok (.iinc 2 1, 3) := by decide +kernel
theorem dX0_countUnions_31 : decode cX0_countUnions 31 = .ok (.goto (-27), 3) := by decide +kernel
theorem dX0_countUnions_34 : decode cX0_countUnions 34 = .ok (.iload_n 1, 1) := by decide +kernel
theorem dX0_countUnions_35 : decode cX0_countUnions 35 = .ok (.ireturn, 1) := by decide +kernel
set_option maxRecDepth 20000 in
theorem ggX0_wholeUnions_X5_has : GoodIn wsX0_wholeUnions wsX5_has := goodIn_r _ [5] (by decide +kernel) (by decide +kernel)
set_option maxRecDepth 20000 in
theorem gX0_wholeUnions_X5_has_n59 : GoodIn wsX0_wholeUnions (wsX5_has) := ggX0_wholeUnions_X5_has
set_option maxRecDepth 20000 in
theorem ggX0_wholeUnions_X5_leastOf : GoodIn wsX0_wholeUnions wsX5_leastOf := goodIn_r _ [7, 8, 3, 4, 5] (by decide +kernel) (by decide +kernel)
set_option maxRecDepth 20000 in
theorem gX0_wholeUnions_X5_leastOf_n63 : GoodIn wsX0_wholeUnions (wsX5_leastOf) := ggX0_wholeUnions_X5_leastOf
theorem dX0_wholeUnions_0 : decode cX0_wholeUnions 0 = .ok (.iconst 0, 1) := by decide +kernel
theorem dX0_wholeUnions_1 : decode cX0_wholeUnions 1 = .ok (.istore_n 2, 1) := by decide +kernel
theorem dX0_wholeUnions_2 : decode cX0_wholeUnions 2 = .ok (.iconst 0, 1) := by decide +kernel
theorem dX0_wholeUnions_3 : decode cX0_wholeUnions 3 = .ok (.istore_n 3, 1) := by decide +kernel
theorem dX0_wholeUnions_4 : decode cX0_wholeUnions 4 = .ok (.iload_n 3, 1) := by decide +kernel
theorem dX0_wholeUnions_5 : decode cX0_wholeUnions 5 = .ok (.aload_n 0, 1) := by decide +kernel
theorem dX0_wholeUnions_6 : decode cX0_wholeUnions 6 = .ok (.getfield 26, 3) := by decide +kernel
theorem dX0_wholeUnions_9 : decode cX0_wholeUnions 9 = .ok (.if_icmp .ge 57, 3) := by decide +kernel
theorem dX0_wholeUnions_12 : decode cX0_wholeUnions 12 = .ok (.iload_n 1, 1) := by decide +kernel
theorem dX0_wholeUnions_13 : decode cX0_wholeUnions 13 = .ok (.iload_n 3, 1) := by decide +kernel
theorem dX0_wholeUnions_14 : decode cX0_wholeUnions 14 = .ok (.invokestatic 59, 3) := by decide +kernel
theorem dX0_wholeUnions_17 : decode cX0_wholeUnions 17 = .ok (.ifCond .eq 43, 3) := by decide +kernel
theorem dX0_wholeUnions_20 : decode cX0_wholeUnions 20 = .ok (.iload_n 1, 1) := by decide +kernel
theorem dX0_wholeUnions_21 : decode cX0_wholeUnions 21 = .ok (.aload_n 0, 1) := by decide +kernel
theorem dX0_wholeUnions_22 : decode cX0_wholeUnions 22 = .ok (.getfield 15, 3) := by decide +kernel
theorem dX0_wholeUnions_25 : decode cX0_wholeUnions 25 = .ok (.iload_n 3, 1) := by decide +kernel
theorem dX0_wholeUnions_26 : decode cX0_wholeUnions 26 = .ok (.iaload, 1) := by decide +kernel
theorem dX0_wholeUnions_27 : decode cX0_wholeUnions 27 = .ok (.iand, 1) := by decide +kernel
theorem dX0_wholeUnions_28 : decode cX0_wholeUnions 28 = .ok (.aload_n 0, 1) := by decide +kernel
theorem dX0_wholeUnions_29 : decode cX0_wholeUnions 29 = .ok (.getfield 15, 3) := by decide +kernel
theorem dX0_wholeUnions_32 : decode cX0_wholeUnions 32 = .ok (.iload_n 3, 1) := by decide +kernel
theorem dX0_wholeUnions_33 : decode cX0_wholeUnions 33 = .ok (.iaload, 1) := by decide +kernel
theorem dX0_wholeUnions_34 : decode cX0_wholeUnions 34 = .ok (.if_icmp .eq 5, 3) := by decide +kernel
theorem dX0_wholeUnions_37 : decode cX0_wholeUnions 37 = .ok (.iconst (-1), 1) := by decide +kernel
theorem dX0_wholeUnions_38 : decode cX0_wholeUnions 38 = .ok (.ireturn, 1) := by decide +kernel
theorem dX0_wholeUnions_39 : decode cX0_wholeUnions 39 = .ok (.iload_n 2, 1) := by decide +kernel
theorem dX0_wholeUnions_40 : decode cX0_wholeUnions 40 = .ok (.aload_n 0, 1) := by decide +kernel
theorem dX0_wholeUnions_41 : decode cX0_wholeUnions 41 = .ok (.getfield 15, 3) := by decide +kernel
theorem dX0_wholeUnions_44 : decode cX0_wholeUnions 44 = .ok (.iload_n 3, 1) := by decide +kernel
theorem dX0_wholeUnions_45 : decode cX0_wholeUnions 45 = .ok (.iaload, 1) := by decide +kernel
theorem dX0_wholeUnions_46 : decode cX0_wholeUnions 46 = .ok (.invokestatic 63, 3) := by decide +kernel
theorem dX0_wholeUnions_49 : decode cX0_wholeUnions 49 = .ok (.iload_n 3, 1) := by decide +kernel
theorem dX0_wholeUnions_50 : decode cX0_wholeUnions 50 = .ok (.if_icmp .ne 7, 3) := by decide +kernel
theorem dX0_wholeUnions_53 : decode cX0_wholeUnions 53 = .ok (.iconst 1, 1) := by decide +kernel
theorem dX0_wholeUnions_54 : decode cX0_wholeUnions 54 = .ok (.goto 4, 3) := by decide +kernel
theorem dX0_wholeUnions_57 : decode cX0_wholeUnions 57 = .ok (.iconst 0, 1) := by decide +kernel
theorem dX0_wholeUnions_58 : decode cX0_wholeUnions 58 = .ok (.iadd, 1) := by decide +kernel
theorem dX0_wholeUnions_59 : decode cX0_wholeUnions 59 = .ok (.istore_n 2, 1) := by decide +kernel
theorem dX0_wholeUnions_60 : decode cX0_wholeUnions 60 = .ok (.iinc 3 1, 3) := by decide +kernel
theorem dX0_wholeUnions_63 : decode cX0_wholeUnions 63 = .ok (.goto (-59), 3) := by decide +kernel
theorem dX0_wholeUnions_66 : decode cX0_wholeUnions 66 = .ok (.iload_n 2, 1) := by decide +kernel
theorem dX0_wholeUnions_67 : decode cX0_wholeUnions 67 = .ok (.ireturn, 1) := by decide +kernel
theorem dX0_countEdges_0 : decode cX0_countEdges 0 = .ok (.iconst 0, 1) := by decide +kernel
theorem dX0_countEdges_1 : decode cX0_countEdges 1 = .ok (.istore_n 1, 1) := by decide +kernel
theorem dX0_countEdges_2 : decode cX0_countEdges 2 = .ok (.iconst 0, 1) := by decide +kernel
theorem dX0_countEdges_3 : decode cX0_countEdges 3 = .ok (.istore_n 2, 1) := by decide +kernel
theorem dX0_countEdges_4 : decode cX0_countEdges 4 = .ok (.iload_n 2, 1) := by decide +kernel
theorem dX0_countEdges_5 : decode cX0_countEdges 5 = .ok (.aload_n 0, 1) := by decide +kernel
theorem dX0_countEdges_6 : decode cX0_countEdges 6 = .ok (.getfield 18, 3) := by decide +kernel
theorem dX0_countEdges_9 : decode cX0_countEdges 9 = .ok (.arraylength, 1) := by decide +kernel
theorem dX0_countEdges_10 : decode cX0_countEdges 10 = .ok (.if_icmp .ge 24, 3) := by decide +kernel
theorem dX0_countEdges_13 : decode cX0_countEdges 13 = .ok (.aload_n 0, 1) := by decide +kernel
theorem dX0_countEdges_14 : decode cX0_countEdges 14 = .ok (.getfield 18, 3) := by decide +kernel
theorem dX0_countEdges_17 : decode cX0_countEdges 17 = .ok (.iload_n 2, 1) := by decide +kernel
theorem dX0_countEdges_18 : decode cX0_countEdges 18 = .ok (.iaload, 1) := by decide +kernel
theorem dX0_countEdges_19 : decode cX0_countEdges 19 = .ok (.sipush 10000, 3) := by decide +kernel
theorem dX0_countEdges_22 : decode cX0_countEdges 22 = .ok (.if_icmp .eq 6, 3) := by decide +kernel
theorem dX0_countEdges_25 : decode cX0_countEdges 25 = .ok (.iinc 1 1, 3) := by decide +kernel
theorem dX0_countEdges_28 : decode cX0_countEdges 28 = .ok (.iinc 2 1, 3) := by decide +kernel
theorem dX0_countEdges_31 : decode cX0_countEdges 31 = .ok (.goto (-27), 3) := by decide +kernel
theorem dX0_countEdges_34 : decode cX0_countEdges 34 = .ok (.iload_n 1, 1) := by decide +kernel
theorem dX0_countEdges_35 : decode cX0_countEdges 35 = .ok (.ireturn, 1) := by decide +kernel
set_option maxRecDepth 20000 in
theorem ggX0_weigh_X5_has : GoodIn wsX0_weigh wsX5_has := goodIn_r _ [5] (by decide +kernel) (by decide +kernel)
set_option maxRecDepth 20000 in
theorem gX0_weigh_X5_has_n59 : GoodIn wsX0_weigh (wsX5_has) := ggX0_weigh_X5_has
theorem dX0_weigh_0 : decode cX0_weigh 0 = .ok (.iconst 0, 1) := by decide +kernel
theorem dX0_weigh_1 : decode cX0_weigh 1 = .ok (.istore_n 2, 1) := by decide +kernel
theorem dX0_weigh_2 : decode cX0_weigh 2 = .ok (.iconst 0, 1) := by decide +kernel
theorem dX0_weigh_3 : decode cX0_weigh 3 = .ok (.istore_n 3, 1) := by decide +kernel
theorem dX0_weigh_4 : decode cX0_weigh 4 = .ok (.iload_n 3, 1) := by decide +kernel
theorem dX0_weigh_5 : decode cX0_weigh 5 = .ok (.aload_n 0, 1) := by decide +kernel
theorem dX0_weigh_6 : decode cX0_weigh 6 = .ok (.getfield 26, 3) := by decide +kernel
theorem dX0_weigh_9 : decode cX0_weigh 9 = .ok (.if_icmp .ge 30, 3) := by decide +kernel
theorem dX0_weigh_12 : decode cX0_weigh 12 = .ok (.iload_n 2, 1) := by decide +kernel
theorem dX0_weigh_13 : decode cX0_weigh 13 = .ok (.iload_n 1, 1) := by decide +kernel
theorem dX0_weigh_14 : decode cX0_weigh 14 = .ok (.iload_n 3, 1) := by decide +kernel
theorem dX0_weigh_15 : decode cX0_weigh 15 = .ok (.invokestatic 59, 3) := by decide +kernel
theorem dX0_weigh_18 : decode cX0_weigh 18 = .ok (.ifCond .eq 12, 3) := by decide +kernel
theorem dX0_weigh_21 : decode cX0_weigh 21 = .ok (.aload_n 0, 1) := by decide +kernel
theorem dX0_weigh_22 : decode cX0_weigh 22 = .ok (.getfield 9, 3) := by decide +kernel
theorem dX0_weigh_25 : decode cX0_weigh 25 = .ok (.iload_n 3, 1) := by decide +kernel
theorem dX0_weigh_26 : decode cX0_weigh 26 = .ok (.iaload, 1) := by decide +kernel
theorem dX0_weigh_27 : decode cX0_weigh 27 = .ok (.goto 4, 3) := by decide +kernel
theorem dX0_weigh_30 : decode cX0_weigh 30 = .ok (.iconst 0, 1) := by decide +kernel
theorem dX0_weigh_31 : decode cX0_weigh 31 = .ok (.iadd, 1) := by decide +kernel
theorem dX0_weigh_32 : decode cX0_weigh 32 = .ok (.istore_n 2, 1) := by decide +kernel
theorem dX0_weigh_33 : decode cX0_weigh 33 = .ok (.iinc 3 1, 3) := by decide +kernel
theorem dX0_weigh_36 : decode cX0_weigh 36 = .ok (.goto (-32), 3) := by decide +kernel
theorem dX0_weigh_39 : decode cX0_weigh 39 = .ok (.iload_n 2, 1) := by decide +kernel
theorem dX0_weigh_40 : decode cX0_weigh 40 = .ok (.ireturn, 1) := by decide +kernel
set_option maxRecDepth 20000 in
theorem ggX0_wins_X0_weigh : GoodIn wsX0_wins wsX0_weigh := goodIn_r _ [6, 7, 8, 9, 10, 11, 12, 13, 14, 15, 16, 17, 18] (by decide +kernel) (by decide +kernel)
set_option maxRecDepth 20000 in
theorem gX0_wins_X0_weigh : GoodIn wsX0_wins (wsV RX0 67 RX0 yX0_weigh wsX0_weigh) := goodIn_app (goodIn_of _ (by decide +kernel)) ggX0_wins_X0_weigh
theorem dX0_wins_0 : decode cX0_wins 0 = .ok (.aload_n 0, 1) := by decide +kernel
theorem dX0_wins_1 : decode cX0_wins 1 = .ok (.iload_n 1, 1) := by decide +kernel
theorem dX0_wins_2 : decode cX0_wins 2 = .ok (.invokevirtual 67, 3) := by decide +kernel
theorem dX0_wins_5 : decode cX0_wins 5 = .ok (.aload_n 0, 1) := by decide +kernel
theorem dX0_wins_6 : decode cX0_wins 6 = .ok (.getfield 30, 3) := by decide +kernel
theorem dX0_wins_9 : decode cX0_wins 9 = .ok (.if_icmp .lt 7, 3) := by decide +kernel
theorem dX0_wins_12 : decode cX0_wins 12 = .ok (.iconst 1, 1) := by decide +kernel
theorem dX0_wins_13 : decode cX0_wins 13 = .ok (.goto 4, 3) := by decide +kernel
theorem dX0_wins_16 : decode cX0_wins 16 = .ok (.iconst 0, 1) := by decide +kernel
theorem dX0_wins_17 : decode cX0_wins 17 = .ok (.ireturn, 1) := by decide +kernel
set_option maxRecDepth 20000 in
theorem ggX0_isSwing_X5_has : GoodIn wsX0_isSwing wsX5_has := goodIn_r _ [3] (by decide +kernel) (by decide +kernel)
set_option maxRecDepth 20000 in
theorem gX0_isSwing_X5_has_n59 : GoodIn wsX0_isSwing (wsX5_has) := ggX0_isSwing_X5_has
set_option maxRecDepth 20000 in
theorem ggX0_isSwing_X0_wins : GoodIn wsX0_isSwing wsX0_wins := goodIn_r _ [8, 9, 10, 11, 12, 7, 13, 14, 15, 1, 2, 3, 16, 17, 18, 19, 20, 21, 22] (by decide +kernel) (by decide +kernel)
set_option maxRecDepth 20000 in
theorem gX0_isSwing_X0_wins : GoodIn wsX0_isSwing (wsV RX0 70 RX0 yX0_wins wsX0_wins) := goodIn_app (goodIn_of _ (by decide +kernel)) ggX0_isSwing_X0_wins
theorem dX0_isSwing_0 : decode cX0_isSwing 0 = .ok (.iload_n 1, 1) := by decide +kernel
theorem dX0_isSwing_1 : decode cX0_isSwing 1 = .ok (.iload_n 2, 1) := by decide +kernel
theorem dX0_isSwing_2 : decode cX0_isSwing 2 = .ok (.invokestatic 59, 3) := by decide +kernel
theorem dX0_isSwing_5 : decode cX0_isSwing 5 = .ok (.ifCond .ne 27, 3) := by decide +kernel
theorem dX0_isSwing_8 : decode cX0_isSwing 8 = .ok (.aload_n 0, 1) := by decide +kernel
theorem dX0_isSwing_9 : decode cX0_isSwing 9 = .ok (.iload_n 1, 1) := by decide +kernel
theorem dX0_isSwing_10 : decode cX0_isSwing 10 = .ok (.invokevirtual 70, 3) := by decide +kernel
theorem dX0_isSwing_13 : decode cX0_isSwing 13 = .ok (.ifCond .ne 19, 3) := by decide +kernel
theorem dX0_isSwing_16 : decode cX0_isSwing 16 = .ok (.aload_n 0, 1) := by decide +kernel
theorem dX0_isSwing_17 : decode cX0_isSwing 17 = .ok (.iload_n 1, 1) := by decide +kernel
theorem dX0_isSwing_18 : decode cX0_isSwing 18 = .ok (.iconst 1, 1) := by decide +kernel
theorem dX0_isSwing_19 : decode cX0_isSwing 19 = .ok (.iload_n 2, 1) := by decide +kernel
theorem dX0_isSwing_20 : decode cX0_isSwing 20 = .ok (.ishl, 1) := by decide +kernel
theorem dX0_isSwing_21 : decode cX0_isSwing 21 = .ok (.ior, 1) := by decide +kernel
theorem dX0_isSwing_22 : decode cX0_isSwing 22 = .ok (.invokevirtual 70, 3) := by decide +kernel
theorem dX0_isSwing_25 : decode cX0_isSwing 25 = .ok (.ifCond .eq 7, 3) := by decide +kernel
theorem dX0_isSwing_28 : decode cX0_isSwing 28 = .ok (.iconst 1, 1) := by decide +kernel
theorem dX0_isSwing_29 : decode cX0_isSwing 29 = .ok (.goto 4, 3) := by decide +kernel
theorem dX0_isSwing_32 : decode cX0_isSwing 32 = .ok (.iconst 0, 1) := by decide +kernel
theorem dX0_isSwing_33 : decode cX0_isSwing 33 = .ok (.ireturn, 1) := by decide +kernel
set_option maxRecDepth 20000 in
theorem ggX0_winsBarely_X0_wins : GoodIn wsX0_winsBarely wsX0_wins := goodIn_r _ [6, 7, 8, 9, 10, 5, 11, 1, 12, 13, 14, 15, 16, 17, 18, 19, 20, 21, 22] (by decide +kernel) (by decide +kernel)
set_option maxRecDepth 20000 in
theorem gX0_winsBarely_X0_wins : GoodIn wsX0_winsBarely (wsV RX0 70 RX0 yX0_wins wsX0_wins) := goodIn_app (goodIn_of _ (by decide +kernel)) ggX0_winsBarely_X0_wins
set_option maxRecDepth 20000 in
theorem ggX0_winsBarely_X5_has : GoodIn wsX0_winsBarely wsX5_has := goodIn_r _ [15] (by decide +kernel) (by decide +kernel)
set_option maxRecDepth 20000 in
theorem gX0_winsBarely_X5_has_n59 : GoodIn wsX0_winsBarely (wsX5_has) := ggX0_winsBarely_X5_has
theorem dX0_winsBarely_0 : decode cX0_winsBarely 0 = .ok (.aload_n 0, 1) := by decide +kernel
theorem dX0_winsBarely_1 : decode cX0_winsBarely 1 = .ok (.iload_n 1, 1) := by decide +kernel
theorem dX0_winsBarely_2 : decode cX0_winsBarely 2 = .ok (.invokevirtual 70, 3) := by decide +kernel
theorem dX0_winsBarely_5 : decode cX0_winsBarely 5 = .ok (.ifCond .ne 5, 3) := by decide +kernel
theorem dX0_winsBarely_8 : decode cX0_winsBarely 8 = .ok (.iconst 0, 1) := by decide +kernel
theorem dX0_winsBarely_9 : decode cX0_winsBarely 9 = .ok (.ireturn, 1) := by decide +kernel
theorem dX0_winsBarely_10 : decode cX0_winsBarely 10 = .ok (.iconst 0, 1) := by decide +kernel
theorem dX0_winsBarely_11 : decode cX0_winsBarely 11 = .ok (.istore_n 2, 1) := by decide +kernel
theorem dX0_winsBarely_12 : decode cX0_winsBarely 12 = .ok (.iload_n 2, 1) := by decide +kernel
theorem dX0_winsBarely_13 : decode cX0_winsBarely 13 = .ok (.aload_n 0, 1) := by decide +kernel
theorem dX0_winsBarely_14 : decode cX0_winsBarely 14 = .ok (.getfield 26, 3) := by decide +kernel
theorem dX0_winsBarely_17 : decode cX0_winsBarely 17 = .ok (.if_icmp .ge 33, 3) := by decide +kernel
theorem dX0_winsBarely_20 : decode cX0_winsBarely 20 = .ok (.iload_n 1, 1) := by decide +kernel
theorem dX0_winsBarely_21 : decode cX0_winsBarely 21 = .ok (.iload_n 2, 1) := by decide +kernel
theorem dX0_winsBarely_22 : decode cX0_winsBarely 22 = .ok (.invokestatic 59, 3) := by decide +kernel
theorem dX0_winsBarely_25 : decode cX0_winsBarely 25 = .ok (.ifCond .eq 19, 3) := by decide +kernel
theorem dX0_winsBarely_28 : decode cX0_winsBarely 28 = .ok (.aload_n 0, 1) := by decide +kernel
theorem dX0_winsBarely_29 : decode cX0_winsBarely 29 = .ok (.iload_n 1, 1) := by decide +kernel
theorem dX0_winsBarely_30 : decode cX0_winsBarely 30 = .ok (.iconst 1, 1) := by decide +kernel
theorem dX0_winsBarely_31 : decode cX0_winsBarely 31 = .ok (.iload_n 2, 1) := by decide +kernel
theorem dX0_winsBarely_32 : decode cX0_winsBarely 32 = .ok (.ishl, 1) := by decide +kernel
theorem dX0_winsBarely_33 : decode cX0_winsBarely 33 = .ok (.iconst (-1), 1) := by decide +kernel
theorem dX0_winsBarely_34 : decode cX0_winsBarely 34 = .ok (.ixor, 1) := by decide +kernel
theorem dX0_winsBarely_35 : decode cX0_winsBarely 35 = .ok (.iand, 1) := by decide +kernel
theorem dX0_winsBarely_36 : decode cX0_winsBarely 36 = .ok (.invokevirtual 70, 3) := by decide +kernel
theorem dX0_winsBarely_39 : decode cX0_winsBarely 39 = .ok (.ifCond .eq 5, 3) := by decide +kernel
theorem dX0_winsBarely_42 : decode cX0_winsBarely 42 = .ok (.iconst 0, 1) := by decide +kernel
theorem dX0_winsBarely_43 : decode cX0_winsBarely 43 = .ok (.ireturn, 1) := by decide +kernel
theorem dX0_winsBarely_44 : decode cX0_winsBarely 44 = .ok (.iinc 2 1, 3) := by decide +kernel
theorem dX0_winsBarely_47 : decode cX0_winsBarely 47 = .ok (.goto (-35), 3) := by decide +kernel
theorem dX0_winsBarely_50 : decode cX0_winsBarely 50 = .ok (.iconst 1, 1) := by decide +kernel
theorem dX0_winsBarely_51 : decode cX0_winsBarely 51 = .ok (.ireturn, 1) := by decide +kernel
set_option maxRecDepth 20000 in
theorem ggX0_madeValue_X0_wins : GoodIn wsX0_madeValue wsX0_wins := goodIn_r _ [10, 11, 12, 13, 14, 9, 15, 16, 17, 18, 19, 20, 40, 41, 42, 43, 44, 45, 46] (by decide +kernel) (by decide +kernel)
set_option maxRecDepth 20000 in
theorem gX0_madeValue_X0_wins : GoodIn wsX0_madeValue (wsV RX0 70 RX0 yX0_wins wsX0_wins) := goodIn_app (goodIn_of _ (by decide +kernel)) ggX0_madeValue_X0_wins
set_option maxRecDepth 20000 in
theorem ggX0_madeValue_X0_weigh : GoodIn wsX0_madeValue wsX0_weigh := goodIn_r _ [15, 16, 17, 18, 19, 20, 40, 41, 42, 43, 44, 45, 46] (by decide +kernel) (by decide +kernel)
set_option maxRecDepth 20000 in
theorem gX0_madeValue_X0_weigh : GoodIn wsX0_madeValue (wsV RX0 67 RX0 yX0_weigh wsX0_weigh) := goodIn_app (goodIn_of _ (by decide +kernel)) ggX0_madeValue_X0_weigh
set_option maxRecDepth 20000 in
theorem ggX0_madeValue_X0_edgesWithin : GoodIn wsX0_madeValue wsX0_edgesWithin := goodIn_r _ [24, 16, 25, 26, 19, 27, 28, 29, 4, 30, 31, 3, 5, 18, 20, 40, 41, 42, 43, 44, 45, 46] (by decide +kernel) (by decide +kernel)
set_option maxRecDepth 20000 in
theorem gX0_madeValue_X0_edgesWithin : GoodIn wsX0_madeValue (wsV RX0 73 RX0 yX0_edgesWithin wsX0_edgesWithin) := goodIn_app (goodIn_of _ (by decide +kernel)) ggX0_madeValue_X0_edgesWithin
set_option maxRecDepth 20000 in
theorem ggX0_madeValue_X0_heaviestOf : GoodIn wsX0_madeValue wsX0_heaviestOf := goodIn_r _ [35, 16, 17, 2, 3, 4, 5, 18, 19, 20, 40, 41, 42, 43, 44, 45, 46] (by decide +kernel) (by decide +kernel)
set_option maxRecDepth 20000 in
theorem gX0_madeValue_X0_heaviestOf : GoodIn wsX0_madeValue (wsV RX0 76 RX0 yX0_heaviestOf wsX0_heaviestOf) := goodIn_app (goodIn_of _ (by decide +kernel)) ggX0_madeValue_X0_heaviestOf
set_option maxRecDepth 20000 in
theorem ggX0_madeValue_X0_everyone : GoodIn wsX0_madeValue wsX0_everyone := goodIn_r _ [39, 16, 40, 41, 42, 43, 44, 45, 46] (by decide +kernel) (by decide +kernel)
set_option maxRecDepth 20000 in
theorem gX0_madeValue_X0_everyone : GoodIn wsX0_madeValue (wsV RX0 79 RX0 yX0_everyone wsX0_everyone) := goodIn_app (goodIn_of _ (by decide +kernel)) ggX0_madeValue_X0_everyone
theorem dX0_madeValue_0 : decode cX0_madeValue 0 = .ok (.iload_n 1, 1) := by decide +kernel
theorem dX0_madeValue_1 : decode cX0_madeValue 1 = .ok (.tableswitch 66 0 3 #[31, 45, 52, 59], 31) := by decide +kernel
theorem dX0_madeValue_32 : decode cX0_madeValue 32 = .ok (.aload_n 0, 1) := by decide +kernel
theorem dX0_madeValue_33 : decode cX0_madeValue 33 = .ok (.iload_n 2, 1) := by decide +kernel
theorem dX0_madeValue_34 : decode cX0_madeValue 34 = .ok (.invokevirtual 70, 3) := by decide +kernel
theorem dX0_madeValue_37 : decode cX0_madeValue 37 = .ok (.ifCond .eq 7, 3) := by decide +kernel
theorem dX0_madeValue_40 : decode cX0_madeValue 40 = .ok (.lconst 1, 1) := by decide +kernel
theorem dX0_madeValue_41 : decode cX0_madeValue 41 = .ok (.goto 4, 3) := by decide +kernel
theorem dX0_madeValue_44 : decode cX0_madeValue 44 = .ok (.lconst 0, 1) := by decide +kernel
theorem dX0_madeValue_45 : decode cX0_madeValue 45 = .ok (.lreturn, 1) := by decide +kernel
theorem dX0_madeValue_46 : decode cX0_madeValue 46 = .ok (.aload_n 0, 1) := by decide +kernel
theorem dX0_madeValue_47 : decode cX0_madeValue 47 = .ok (.iload_n 2, 1) := by decide +kernel
theorem dX0_madeValue_48 : decode cX0_madeValue 48 = .ok (.invokevirtual 67, 3) := by decide +kernel
theorem dX0_madeValue_51 : decode cX0_madeValue 51 = .ok (.i2l, 1) := by decide +kernel
theorem dX0_madeValue_52 : decode cX0_madeValue 52 = .ok (.lreturn, 1) := by decide +kernel
theorem dX0_madeValue_53 : decode cX0_madeValue 53 = .ok (.aload_n 0, 1) := by decide +kernel
theorem dX0_madeValue_54 : decode cX0_madeValue 54 = .ok (.iload_n 2, 1) := by decide +kernel
theorem dX0_madeValue_55 : decode cX0_madeValue 55 = .ok (.invokevirtual 73, 3) := by decide +kernel
theorem dX0_madeValue_58 : decode cX0_madeValue 58 = .ok (.i2l, 1) := by decide +kernel
theorem dX0_madeValue_59 : decode cX0_madeValue 59 = .ok (.lreturn, 1) := by decide +kernel
theorem dX0_madeValue_60 : decode cX0_madeValue 60 = .ok (.aload_n 0, 1) := by decide +kernel
theorem dX0_madeValue_61 : decode cX0_madeValue 61 = .ok (.iload_n 2, 1) := by decide +kernel
theorem dX0_madeValue_62 : decode cX0_madeValue 62 = .ok (.invokevirtual 76, 3) := by decide +kernel
theorem dX0_madeValue_65 : decode cX0_madeValue 65 = .ok (.i2l, 1) := by decide +kernel
theorem dX0_madeValue_66 : decode cX0_madeValue 66 = .ok (.lreturn, 1) := by decide +kernel
theorem dX0_madeValue_67 : decode cX0_madeValue 67 = .ok (.iconst 0, 1) := by decide +kernel
theorem dX0_madeValue_68 : decode cX0_madeValue 68 = .ok (.aload_n 0, 1) := by decide +kernel
theorem dX0_madeValue_69 : decode cX0_madeValue 69 = .ok (.getfield 33, 3) := by decide +kernel
theorem dX0_madeValue_72 : decode cX0_madeValue 72 = .ok (.aload_n 0, 1) := by decide +kernel
theorem dX0_madeValue_73 : decode cX0_madeValue 73 = .ok (.aload_n 0, 1) := by decide +kernel
theorem dX0_madeValue_74 : decode cX0_madeValue 74 = .ok (.invokevirtual 79, 3) := by decide +kernel
theorem dX0_madeValue_77 : decode cX0_madeValue 77 = .ok (.iload_n 2, 1) := by decide +kernel
theorem dX0_madeValue_78 : decode cX0_madeValue 78 = .ok (.iconst (-1), 1) := by decide +kernel
theorem dX0_madeValue_79 : decode cX0_madeValue 79 = .ok (.ixor, 1) := by decide +kernel
theorem dX0_madeValue_80 : decode cX0_madeValue 80 = .ok (.iand, 1) := by decide +kernel
theorem dX0_madeValue_81 : decode cX0_madeValue 81 = .ok (.invokevirtual 67, 3) := by decide +kernel
theorem dX0_madeValue_84 : decode cX0_madeValue 84 = .ok (.isub, 1) := by decide +kernel
theorem dX0_madeValue_85 : decode cX0_madeValue 85 = .ok (.invokestatic 82, 3) := by decide +kernel
theorem dX0_madeValue_88 : decode cX0_madeValue 88 = .ok (.i2l, 1) := by decide +kernel
theorem dX0_madeValue_89 : decode cX0_madeValue 89 = .ok (.lreturn, 1) := by decide +kernel
set_option maxRecDepth 20000 in
theorem ggX0_edgesWithin_X5_edgePlace : GoodIn wsX0_edgesWithin wsX5_edgePlace := goodIn_r _ [5, 6, 7, 8, 9, 10, 11, 12] (by decide +kernel) (by decide +kernel)
set_option maxRecDepth 20000 in
theorem gX0_edgesWithin_X5_edgePlace_n88 : GoodIn wsX0_edgesWithin (wsX5_edgePlace) := ggX0_edgesWithin_X5_edgePlace
set_option maxRecDepth 20000 in
theorem ggX0_edgesWithin_X5_has : GoodIn wsX0_edgesWithin wsX5_has := goodIn_r _ [14] (by decide +kernel) (by decide +kernel)
set_option maxRecDepth 20000 in
theorem gX0_edgesWithin_X5_has_n59 : GoodIn wsX0_edgesWithin (wsX5_has) := ggX0_edgesWithin_X5_has
theorem dX0_edgesWithin_0 : decode cX0_edgesWithin 0 = .ok (.iconst 0, 1) := by decide +kernel
theorem dX0_edgesWithin_1 : decode cX0_edgesWithin 1 = .ok (.istore_n 2, 1) := by decide +kernel
theorem dX0_edgesWithin_2 : decode cX0_edgesWithin 2 = .ok (.iconst 0, 1) := by decide +kernel
theorem dX0_edgesWithin_3 : decode cX0_edgesWithin 3 = .ok (.istore_n 3, 1) := by decide +kernel
theorem dX0_edgesWithin_4 : decode cX0_edgesWithin 4 = .ok (.iload_n 3, 1) := by decide +kernel
theorem dX0_edgesWithin_5 : decode cX0_edgesWithin 5 = .ok (.aload_n 0, 1) := by decide +kernel
theorem dX0_edgesWithin_6 : decode cX0_edgesWithin 6 = .ok (.getfield 26, 3) := by decide +kernel
theorem dX0_edgesWithin_9 : decode cX0_edgesWithin 9 = .ok (.if_icmp .ge 72, 3) := by decide +kernel
theorem dX0_edgesWithin_12 : decode cX0_edgesWithin 12 = .ok (.iload_n 3, 1) := by decide +kernel
theorem dX0_edgesWithin_13 : decode cX0_edgesWithin 13 = .ok (.iconst 1, 1) := by decide +kernel
theorem dX0_edgesWithin_14 : decode cX0_edgesWithin 14 = .ok (.iadd, 1) := by decide +kernel
theorem dX0_edgesWithin_15 : decode cX0_edgesWithin 15 = .ok (.istore 4, 2) := by decide +kernel
theorem dX0_edgesWithin_17 : decode cX0_edgesWithin 17 = .ok (.iload 4, 2) := by decide +kernel
theorem dX0_edgesWithin_19 : decode cX0_edgesWithin 19 = .ok (.aload_n 0, 1) := by decide +kernel
theorem dX0_edgesWithin_20 : decode cX0_edgesWithin 20 = .ok (.getfield 26, 3) := by decide +kernel
theorem dX0_edgesWithin_23 : decode cX0_edgesWithin 23 = .ok (.if_icmp .ge 52, 3) := by decide +kernel
theorem dX0_edgesWithin_26 : decode cX0_edgesWithin 26 = .ok (.aload_n 0, 1) := by decide +kernel
theorem dX0_edgesWithin_27 : decode cX0_edgesWithin 27 = .ok (.getfield 18, 3) := by decide +kernel
theorem dX0_edgesWithin_30 : decode cX0_edgesWithin 30 = .ok (.iload_n 3, 1) := by decide +kernel
theorem dX0_edgesWithin_31 : decode cX0_edgesWithin 31 = .ok (.iload 4, 2) := by decide +kernel
theorem dX0_edgesWithin_33 : decode cX0_edgesWithin 33 = .ok (.invokestatic 88, 3) := by decide +kernel
theorem dX0_edgesWithin_36 : decode cX0_edgesWithin 36 = .ok (.iaload, 1) := by decide +kernel
theorem dX0_edgesWithin_37 : decode cX0_edgesWithin 37 = .ok (.istore 5, 2) := by decide +kernel
theorem dX0_edgesWithin_39 : decode cX0_edgesWithin 39 = .ok (.iload_n 1, 1) := by decide +kernel
theorem dX0_edgesWithin_40 : decode cX0_edgesWithin 40 = .ok (.iload_n 3, 1) := by decide +kernel
theorem dX0_edgesWithin_41 : decode cX0_edgesWithin 41 = .ok (.invokestatic 59, 3) := by decide +kernel
theorem dX0_edgesWithin_44 : decode cX0_edgesWithin 44 = .ok (.ifCond .eq 25, 3) := by decide +kernel
theorem dX0_edgesWithin_47 : decode cX0_edgesWithin 47 = .ok (.iload_n 1, 1) := by decide +kernel
theorem dX0_edgesWithin_48 : decode cX0_edgesWithin 48 = .ok (.iload 4, 2) := by decide +kernel
theorem dX0_edgesWithin_50 : decode cX0_edgesWithin 50 = .ok (.invokestatic 59, 3) := by decide +kernel
theorem dX0_edgesWithin_53 : decode cX0_edgesWithin 53 = .ok (.ifCond .eq 16, 3) := by decide +kernel
theorem dX0_edgesWithin_56 : decode cX0_edgesWithin 56 = .ok (.iload 5, 2) := by decide +kernel
theorem dX0_edgesWithin_58 : decode cX0_edgesWithin 58 = .ok (.sipush 10000, 3) := by decide +kernel
theorem dX0_edgesWithin_61 : decode cX0_edgesWithin 61 = .ok (.if_icmp .eq 8, 3) := by decide +kernel
theorem dX0_edgesWithin_64 : decode cX0_edgesWithin 64 = .ok (.iload_n 2, 1) := by decide +kernel
theorem dX0_edgesWithin_65 : decode cX0_edgesWithin 65 = .ok (.iload 5, 2) := by decide +kernel
theorem dX0_edgesWithin_67 : decode cX0_edgesWithin 67 = .ok (.iadd, 1) := by decide +kernel
theorem dX0_edgesWithin_68 : decode cX0_edgesWithin 68 = .ok (.istore_n 2, 1) := by decide +kernel
theorem dX0_edgesWithin_69 : decode cX0_edgesWithin 69 = .ok (.iinc 4 1, 3) := by decide +kernel
theorem dX0_edgesWithin_72 : decode cX0_edgesWithin 72 = .ok (.goto (-55), 3) := by decide +kernel
theorem dX0_edgesWithin_75 : decode cX0_edgesWithin 75 = .ok (.iinc 3 1, 3) := by decide +kernel
theorem dX0_edgesWithin_78 : decode cX0_edgesWithin 78 = .ok (.goto (-74), 3) := by decide +kernel
theorem dX0_edgesWithin_81 : decode cX0_edgesWithin 81 = .ok (.iload_n 2, 1) := by decide +kernel
theorem dX0_edgesWithin_82 : decode cX0_edgesWithin 82 = .ok (.ireturn, 1) := by decide +kernel
set_option maxRecDepth 20000 in
theorem ggX0_heaviestOf_X5_has : GoodIn wsX0_heaviestOf wsX5_has := goodIn_r _ [9] (by decide +kernel) (by decide +kernel)
set_option maxRecDepth 20000 in
theorem gX0_heaviestOf_X5_has_n59 : GoodIn wsX0_heaviestOf (wsX5_has) := ggX0_heaviestOf_X5_has
theorem dX0_heaviestOf_0 : decode cX0_heaviestOf 0 = .ok (.iconst 0, 1) := by decide +kernel
theorem dX0_heaviestOf_1 : decode cX0_heaviestOf 1 = .ok (.istore_n 2, 1) := by decide +kernel
theorem dX0_heaviestOf_2 : decode cX0_heaviestOf 2 = .ok (.iconst 0, 1) := by decide +kernel
theorem dX0_heaviestOf_3 : decode cX0_heaviestOf 3 = .ok (.istore_n 3, 1) := by decide +kernel
theorem dX0_heaviestOf_4 : decode cX0_heaviestOf 4 = .ok (.iload_n 3, 1) := by decide +kernel
theorem dX0_heaviestOf_5 : decode cX0_heaviestOf 5 = .ok (.aload_n 0, 1) := by decide +kernel
theorem dX0_heaviestOf_6 : decode cX0_heaviestOf 6 = .ok (.getfield 26, 3) := by decide +kernel
theorem dX0_heaviestOf_9 : decode cX0_heaviestOf 9 = .ok (.if_icmp .ge 28, 3) := by decide +kernel
theorem dX0_heaviestOf_12 : decode cX0_heaviestOf 12 = .ok (.iload_n 1, 1) := by decide +kernel
theorem dX0_heaviestOf_13 : decode cX0_heaviestOf 13 = .ok (.iload_n 3, 1) := by decide +kernel
theorem dX0_heaviestOf_14 : decode cX0_heaviestOf 14 = .ok (.invokestatic 59, 3) := by decide +kernel
theorem dX0_heaviestOf_17 : decode cX0_heaviestOf 17 = .ok (.ifCond .eq 14, 3) := by decide +kernel
theorem dX0_heaviestOf_20 : decode cX0_heaviestOf 20 = .ok (.iload_n 2, 1) := by decide +kernel
theorem dX0_heaviestOf_21 : decode cX0_heaviestOf 21 = .ok (.aload_n 0, 1) := by decide +kernel
theorem dX0_heaviestOf_22 : decode cX0_heaviestOf 22 = .ok (.getfield 9, 3) := by decide +kernel
theorem dX0_heaviestOf_25 : decode cX0_heaviestOf 25 = .ok (.iload_n 3, 1) := by decide +kernel
theorem dX0_heaviestOf_26 : decode cX0_heaviestOf 26 = .ok (.iaload, 1) := by decide +kernel
theorem dX0_heaviestOf_27 : decode cX0_heaviestOf 27 = .ok (.invokestatic 82, 3) := by decide +kernel
theorem dX0_heaviestOf_30 : decode cX0_heaviestOf 30 = .ok (.istore_n 2, 1) := by decide +kernel
theorem dX0_heaviestOf_31 : decode cX0_heaviestOf 31 = .ok (.iinc 3 1, 3) := by decide +kernel
theorem dX0_heaviestOf_34 : decode cX0_heaviestOf 34 = .ok (.goto (-30), 3) := by decide +kernel
theorem dX0_heaviestOf_37 : decode cX0_heaviestOf 37 = .ok (.iload_n 2, 1) := by decide +kernel
theorem dX0_heaviestOf_38 : decode cX0_heaviestOf 38 = .ok (.ireturn, 1) := by decide +kernel
theorem dX1_init_0 : decode cX1_init 0 = .ok (.aload_n 0, 1) := by decide +kernel
theorem dX1_init_1 : decode cX1_init 1 = .ok (.invokespecial 1, 3) := by decide +kernel
theorem dX1_init_4 : decode cX1_init 4 = .ok (.return_, 1) := by decide +kernel
theorem dX1_begin_0 : decode cX1_begin 0 = .ok (.aload_n 0, 1) := by decide +kernel
theorem dX1_begin_1 : decode cX1_begin 1 = .ok (.iconst 0, 1) := by decide +kernel
theorem dX1_begin_2 : decode cX1_begin 2 = .ok (.putfield 7, 3) := by decide +kernel
theorem dX1_begin_5 : decode cX1_begin 5 = .ok (.return_, 1) := by decide +kernel
theorem dX1_plus_0 : decode cX1_plus 0 = .ok (.lload_n 1, 1) := by decide +kernel
theorem dX1_plus_1 : decode cX1_plus 1 = .ok (.lload_n 3, 1) := by decide +kernel
theorem dX1_plus_2 : decode cX1_plus 2 = .ok (.ladd, 1) := by decide +kernel
theorem dX1_plus_3 : decode cX1_plus 3 = .ok (.lstore 5, 2) := by decide +kernel
theorem dX1_plus_5 : decode cX1_plus 5 = .ok (.lload_n 1, 1) := by decide +kernel
theorem dX1_plus_6 : decode cX1_plus 6 = .ok (.lload 5, 2) := by decide +kernel
theorem dX1_plus_8 : decode cX1_plus 8 = .ok (.lxor, 1) := by decide +kernel
theorem dX1_plus_9 : decode cX1_plus 9 = .ok (.lload_n 3, 1) := by decide +kernel
theorem dX1_plus_10 : decode cX1_plus 10 = .ok (.lload 5, 2) := by decide +kernel
theorem dX1_plus_12 : decode cX1_plus 12 = .ok (.lxor, 1) := by decide +kernel
theorem dX1_plus_13 : decode cX1_plus 13 = .ok (.land, 1) := by decide +kernel
theorem dX1_plus_14 : decode cX1_plus 14 = .ok (.lconst 0, 1) := by decide +kernel
theorem dX1_plus_15 : decode cX1_plus 15 = .ok (.lcmp, 1) := by decide +kernel
theorem dX1_plus_16 : decode cX1_plus 16 = .ok (.ifCond .ge 8, 3) := by decide +kernel
theorem dX1_plus_19 : decode cX1_plus 19 = .ok (.aload_n 0, 1) := by decide +kernel
theorem dX1_plus_20 : decode cX1_plus 20 = .ok (.iconst 1, 1) := by decide +kernel
theorem dX1_plus_21 : decode cX1_plus 21 = .ok (.putfield 7, 3) := by decide +kernel
theorem dX1_plus_24 : decode cX1_plus 24 = .ok (.lload 5, 2) := by decide +kernel
theorem dX1_plus_26 : decode cX1_plus 26 = .ok (.lreturn, 1) := by decide +kernel
theorem dX1_less_0 : decode cX1_less 0 = .ok (.lload_n 1, 1) := by decide +kernel
theorem dX1_less_1 : decode cX1_less 1 = .ok (.lload_n 3, 1) := by decide +kernel
theorem dX1_less_2 : decode cX1_less 2 = .ok (.lsub, 1) := by decide +kernel
theorem dX1_less_3 : decode cX1_less 3 = .ok (.lstore 5, 2) := by decide +kernel
theorem dX1_less_5 : decode cX1_less 5 = .ok (.lload_n 1, 1) := by decide +kernel
theorem dX1_less_6 : decode cX1_less 6 = .ok (.lload_n 3, 1) := by decide +kernel
theorem dX1_less_7 : decode cX1_less 7 = .ok (.lxor, 1) := by decide +kernel
theorem dX1_less_8 : decode cX1_less 8 = .ok (.lload_n 1, 1) := by decide +kernel
theorem dX1_less_9 : decode cX1_less 9 = .ok (.lload 5, 2) := by decide +kernel
theorem dX1_less_11 : decode cX1_less 11 = .ok (.lxor, 1) := by decide +kernel
theorem dX1_less_12 : decode cX1_less 12 = .ok (.land, 1) := by decide +kernel
theorem dX1_less_13 : decode cX1_less 13 = .ok (.lconst 0, 1) := by decide +kernel
theorem dX1_less_14 : decode cX1_less 14 = .ok (.lcmp, 1) := by decide +kernel
theorem dX1_less_15 : decode cX1_less 15 = .ok (.ifCond .ge 8, 3) := by decide +kernel
theorem dX1_less_18 : decode cX1_less 18 = .ok (.aload_n 0, 1) := by decide +kernel
theorem dX1_less_19 : decode cX1_less 19 = .ok (.iconst 1, 1) := by decide +kernel
theorem dX1_less_20 : decode cX1_less 20 = .ok (.putfield 7, 3) := by decide +kernel
theorem dX1_less_23 : decode cX1_less 23 = .ok (.lload 5, 2) := by decide +kernel
theorem dX1_less_25 : decode cX1_less 25 = .ok (.lreturn, 1) := by decide +kernel
theorem dX1_product_0 : decode cX1_product 0 = .ok (.lload_n 1, 1) := by decide +kernel
theorem dX1_product_1 : decode cX1_product 1 = .ok (.lload_n 3, 1) := by decide +kernel
theorem dX1_product_2 : decode cX1_product 2 = .ok (.lmul, 1) := by decide +kernel
theorem dX1_product_3 : decode cX1_product 3 = .ok (.lstore 5, 2) := by decide +kernel
theorem dX1_product_5 : decode cX1_product 5 = .ok (.lload_n 3, 1) := by decide +kernel
theorem dX1_product_6 : decode cX1_product 6 = .ok (.ldc2_w 13, 3) := by decide +kernel
theorem dX1_product_9 : decode cX1_product 9 = .ok (.lcmp, 1) := by decide +kernel
theorem dX1_product_10 : decode cX1_product 10 = .ok (.ifCond .ne 14, 3) := by decide +kernel
theorem dX1_product_13 : decode cX1_product 13 = .ok (.lload_n 1, 1) := by decide +kernel
theorem dX1_product_14 : decode cX1_product 14 = .ok (.ldc2_w 17, 3) := by decide +kernel
theorem dX1_product_17 : decode cX1_product 17 = .ok (.lcmp, 1) := by decide +kernel
theorem dX1_product_18 : decode cX1_product 18 = .ok (.ifCond .ne 26, 3) := by decide +kernel
theorem dX1_product_21 : decode cX1_product 21 = .ok (.goto 18, 3) := by decide +kernel
theorem dX1_product_24 : decode cX1_product 24 = .ok (.lload_n 3, 1) := by decide +kernel
theorem dX1_product_25 : decode cX1_product 25 = .ok (.lconst 0, 1) := by decide +kernel
theorem dX1_product_26 : decode cX1_product 26 = .ok (.lcmp, 1) := by decide +kernel
theorem dX1_product_27 : decode cX1_product 27 = .ok (.ifCond .eq 17, 3) := by decide +kernel
theorem dX1_product_30 : decode cX1_product 30 = .ok (.lload 5, 2) := by decide +kernel
theorem dX1_product_32 : decode cX1_product 32 = .ok (.lload_n 3, 1) := by decide +kernel
theorem dX1_product_33 : decode cX1_product 33 = .ok (.ldiv, 1) := by decide +kernel
theorem dX1_product_34 : decode cX1_product 34 = .ok (.lload_n 1, 1) := by decide +kernel
theorem dX1_product_35 : decode cX1_product 35 = .ok (.lcmp, 1) := by decide +kernel
theorem dX1_product_36 : decode cX1_product 36 = .ok (.ifCond .eq 8, 3) := by decide +kernel
theorem dX1_product_39 : decode cX1_product 39 = .ok (.aload_n 0, 1) := by decide +kernel
theorem dX1_product_40 : decode cX1_product 40 = .ok (.iconst 1, 1) := by decide +kernel
theorem dX1_product_41 : decode cX1_product 41 = .ok (.putfield 7, 3) := by decide +kernel
theorem dX1_product_44 : decode cX1_product 44 = .ok (.lload 5, 2) := by decide +kernel
theorem dX1_product_46 : decode cX1_product 46 = .ok (.lreturn, 1) := by decide +kernel
theorem dX2_init_0 : decode cX2_init 0 = .ok (.aload_n 0, 1) := by decide +kernel
theorem dX2_init_1 : decode cX2_init 1 = .ok (.invokespecial 3, 3) := by decide +kernel
theorem dX2_init_4 : decode cX2_init 4 = .ok (.aload_n 0, 1) := by decide +kernel
theorem dX2_init_5 : decode cX2_init 5 = .ok (.sipush 256, 3) := by decide +kernel
theorem dX2_init_8 : decode cX2_init 8 = .ok (.newarray .byte, 2) := by decide +kernel
theorem dX2_init_10 : decode cX2_init 10 = .ok (.putfield 9, 3) := by decide +kernel
theorem dX2_init_13 : decode cX2_init 13 = .ok (.return_, 1) := by decide +kernel
theorem dX2_wipe_0 : decode cX2_wipe 0 = .ok (.aload_n 0, 1) := by decide +kernel
theorem dX2_wipe_1 : decode cX2_wipe 1 = .ok (.iconst 0, 1) := by decide +kernel
theorem dX2_wipe_2 : decode cX2_wipe 2 = .ok (.putfield 15, 3) := by decide +kernel
theorem dX2_wipe_5 : decode cX2_wipe 5 = .ok (.return_, 1) := by decide +kernel
theorem dX2_append_0 : decode cX2_append 0 = .ok (.aload_n 0, 1) := by decide +kernel
theorem dX2_append_1 : decode cX2_append 1 = .ok (.getfield 15, 3) := by decide +kernel
theorem dX2_append_4 : decode cX2_append 4 = .ok (.aload_n 0, 1) := by decide +kernel
theorem dX2_append_5 : decode cX2_append 5 = .ok (.getfield 9, 3) := by decide +kernel
theorem dX2_append_8 : decode cX2_append 8 = .ok (.arraylength, 1) := by decide +kernel
theorem dX2_append_9 : decode cX2_append 9 = .ok (.if_icmp .ge 24, 3) := by decide +kernel
theorem dX2_append_12 : decode cX2_append 12 = .ok (.aload_n 0, 1) := by decide +kernel
theorem dX2_append_13 : decode cX2_append 13 = .ok (.getfield 9, 3) := by decide +kernel
theorem dX2_append_16 : decode cX2_append 16 = .ok (.aload_n 0, 1) := by decide +kernel
theorem dX2_append_17 : decode cX2_append 17 = .ok (.getfield 15, 3) := by decide +kernel
theorem dX2_append_20 : decode cX2_append 20 = .ok (.iload_n 1, 1) := by decide +kernel
theorem dX2_append_21 : decode cX2_append 21 = .ok (.i2b, 1) := by decide +kernel
theorem dX2_append_22 : decode cX2_append 22 = .ok (.bastore, 1) := by decide +kernel
theorem dX2_append_23 : decode cX2_append 23 = .ok (.aload_n 0, 1) := by decide +kernel
theorem dX2_append_24 : decode cX2_append 24 = .ok (.dup, 1) := by decide +kernel
theorem dX2_append_25 : decode cX2_append 25 = .ok (.getfield 15, 3) := by decide +kernel
theorem dX2_append_28 : decode cX2_append 28 = .ok (.iconst 1, 1) := by decide +kernel
theorem dX2_append_29 : decode cX2_append 29 = .ok (.iadd, 1) := by decide +kernel
theorem dX2_append_30 : decode cX2_append 30 = .ok (.putfield 15, 3) := by decide +kernel
theorem dX2_append_33 : decode cX2_append 33 = .ok (.return_, 1) := by decide +kernel
set_option maxRecDepth 20000 in
theorem ggX2_appendFraction_X2_appendNumber : GoodIn wsX2_appendFraction wsX2_appendNumber := goodIn_r _ [5, 6, 7, 8, 9, 10, 11, 12, 13, 14, 4, 15, 16, 17, 18, 19] (by decide +kernel) (by decide +kernel)
set_option maxRecDepth 20000 in
theorem gX2_appendFraction_X2_appendNumber : GoodIn wsX2_appendFraction (wsV RX2 19 RX2 yX2_appendNumber wsX2_appendNumber) := goodIn_app (goodIn_of _ (by decide +kernel)) ggX2_appendFraction_X2_appendNumber
set_option maxRecDepth 20000 in
theorem ggX2_appendFraction_X2_append : GoodIn wsX2_appendFraction wsX2_append := goodIn_r _ [15, 16, 17, 18, 19] (by decide +kernel) (by decide +kernel)
set_option maxRecDepth 20000 in
theorem gX2_appendFraction_X2_append : GoodIn wsX2_appendFraction (wsV RX2 23 RX2 yX2_append wsX2_append) := goodIn_app (goodIn_of _ (by decide +kernel)) ggX2_appendFraction_X2_append
theorem dX2_appendFraction_0 : decode cX2_appendFraction 0 = .ok (.aload_n 0, 1) := by decide +kernel
theorem dX2_appendFraction_1 : decode cX2_appendFraction 1 = .ok (.lload_n 1, 1) := by decide +kernel
theorem dX2_appendFraction_2 : decode cX2_appendFraction 2 = .ok (.invokevirtual 19, 3) := by decide +kernel
theorem dX2_appendFraction_5 : decode cX2_appendFraction 5 = .ok (.lload_n 3, 1) := by decide +kernel
theorem dX2_appendFraction_6 : decode cX2_appendFraction 6 = .ok (.lconst 1, 1) := by decide +kernel
theorem dX2_appendFraction_7 : decode cX2_appendFraction 7 = .ok (.lcmp, 1) := by decide +kernel
theorem dX2_appendFraction_8 : decode cX2_appendFraction 8 = .ok (.ifCond .eq 14, 3) := by decide +kernel
theorem dX2_appendFraction_11 : decode cX2_appendFraction 11 = .ok (.aload_n 0, 1) := by decide +kernel
theorem dX2_appendFraction_12 : decode cX2_appendFraction 12 = .ok (.bipush 47, 2) := by decide +kernel
theorem dX2_appendFraction_14 : decode cX2_appendFraction 14 = .ok (.invokevirtual 23, 3) := by decide +kernel
theorem dX2_appendFraction_17 : decode cX2_appendFraction 17 = .ok (.aload_n 0, 1) := by decide +kernel
theorem dX2_appendFraction_18 : decode cX2_appendFraction 18 = .ok (.lload_n 3, 1) := by decide +kernel
theorem dX2_appendFraction_19 : decode cX2_appendFraction 19 = .ok (.invokevirtual 19, 3) := by decide +kernel
theorem dX2_appendFraction_22 : decode cX2_appendFraction 22 = .ok (.return_, 1) := by decide +kernel
set_option maxRecDepth 20000 in
theorem ggX2_appendNumber_X2_append : GoodIn wsX2_appendNumber wsX2_append := goodIn_r _ [11, 12, 13, 14, 15] (by decide +kernel) (by decide +kernel)
set_option maxRecDepth 20000 in
theorem gX2_appendNumber_X2_append : GoodIn wsX2_appendNumber (wsV RX2 23 RX2 yX2_append wsX2_append) := goodIn_app (goodIn_of _ (by decide +kernel)) ggX2_appendNumber_X2_append
theorem dX2_appendNumber_0 : decode cX2_appendNumber 0 = .ok (.lload_n 1, 1) := by decide +kernel
theorem dX2_appendNumber_1 : decode cX2_appendNumber 1 = .ok (.lconst 0, 1) := by decide +kernel
theorem dX2_appendNumber_2 : decode cX2_appendNumber 2 = .ok (.lcmp, 1) := by decide +kernel
theorem dX2_appendNumber_3 : decode cX2_appendNumber 3 = .ok (.ifCond .ge 9, 3) := by decide +kernel
theorem dX2_appendNumber_6 : decode cX2_appendNumber 6 = .ok (.aload_n 0, 1) := by decide +kernel
theorem dX2_appendNumber_7 : decode cX2_appendNumber 7 = .ok (.bipush 45, 2) := by decide +kernel
theorem dX2_appendNumber_9 : decode cX2_appendNumber 9 = .ok (.invokevirtual 23, 3) := by decide +kernel
theorem dX2_appendNumber_12 : decode cX2_appendNumber 12 = .ok (.lconst 1, 1) := by decide +kernel
theorem dX2_appendNumber_13 : decode cX2_appendNumber 13 = .ok (.lstore_n 3, 1) := by decide +kernel
theorem dX2_appendNumber_14 : decode cX2_appendNumber 14 = .ok (.iconst 1, 1) := by decide +kernel
theorem dX2_appendNumber_15 : decode cX2_appendNumber 15 = .ok (.istore 5, 2) := by decide +kernel
theorem dX2_appendNumber_17 : decode cX2_appendNumber 17 = .ok (.iload 5, 2) := by decide +kernel
theorem dX2_appendNumber_19 : decode cX2_appendNumber 19 = .ok (.bipush 19, 2) := by decide +kernel
theorem dX2_appendNumber_21 : decode cX2_appendNumber 21 = .ok (.if_icmp .ge 27, 3) := by decide +kernel
theorem dX2_appendNumber_24 : decode cX2_appendNumber 24 = .ok (.lload_n 1, 1) := by decide +kernel
theorem dX2_appendNumber_25 : decode cX2_appendNumber 25 = .ok (.lload_n 3, 1) := by decide +kernel
theorem dX2_appendNumber_26 : decode cX2_appendNumber 26 = .ok (.ldiv, 1) := by decide +kernel
theorem dX2_appendNumber_27 : decode cX2_appendNumber 27 = .ok (.ldc2_w 27, 3) := by decide +kernel
theorem dX2_appendNumber_30 : decode cX2_appendNumber 30 = .ok (.ldiv, 1) := by decide +kernel
theorem dX2_appendNumber_31 : decode cX2_appendNumber 31 = .ok (.lconst 0, 1) := by decide +kernel
theorem dX2_appendNumber_32 : decode cX2_appendNumber 32 = .ok (.lcmp, 1) := by decide +kernel
theorem dX2_appendNumber_33 : decode cX2_appendNumber 33 = .ok (.ifCond .eq 15, 3) := by decide +kernel
theorem dX2_appendNumber_36 : decode cX2_appendNumber 36 = .ok (.lload_n 3, 1) := by decide +kernel
theorem dX2_appendNumber_37 : decode cX2_appendNumber 37 = .ok (.ldc2_w 27, 3) := by decide +kernel
theorem dX2_appendNumber_40 : decode cX2_appendNumber 40 = .ok (.lmul, 1) := by decide +kernel
theorem dX2_appendNumber_41 : decode cX2_appendNumber 41 = .ok (.lstore_n 3, 1) := by decide +kernel
theorem dX2_appendNumber_42 : decode cX2_appendNumber 42 = .ok (.iinc 5 1, 3) := by decide +kernel
theorem dX2_appendNumber_45 : decode cX2_appendNumber 45 = .ok (.goto (-28), 3) := by decide +kernel
theorem dX2_appendNumber_48 : decode cX2_appendNumber 48 = .ok (.iconst 0, 1) := by decide +kernel
theorem dX2_appendNumber_49 : decode cX2_appendNumber 49 = .ok (.istore 5, 2) := by decide +kernel
theorem dX2_appendNumber_51 : decode cX2_appendNumber 51 = .ok (.iload 5, 2) := by decide +kernel
theorem dX2_appendNumber_53 : decode cX2_appendNumber 53 = .ok (.bipush 19, 2) := by decide +kernel
theorem dX2_appendNumber_55 : decode cX2_appendNumber 55 = .ok (.if_icmp .ge 41, 3) := by decide +kernel
theorem dX2_appendNumber_58 : decode cX2_appendNumber 58 = .ok (.lload_n 3, 1) := by decide +kernel
theorem dX2_appendNumber_59 : decode cX2_appendNumber 59 = .ok (.lconst 0, 1) := by decide +kernel
theorem dX2_appendNumber_60 : decode cX2_appendNumber 60 = .ok (.lcmp, 1) := by decide +kernel
theorem dX2_appendNumber_61 : decode cX2_appendNumber 61 = .ok (.ifCond .le 35, 3) := by decide +kernel
theorem dX2_appendNumber_64 : decode cX2_appendNumber 64 = .ok (.aload_n 0, 1) := by decide +kernel
theorem dX2_appendNumber_65 : decode cX2_appendNumber 65 = .ok (.ldc2_w 29, 3) := by decide +kernel
theorem dX2_appendNumber_68 : decode cX2_appendNumber 68 = .ok (.lload_n 1, 1) := by decide +kernel
theorem dX2_appendNumber_69 : decode cX2_appendNumber 69 = .ok (.lload_n 3, 1) := by decide +kernel
theorem dX2_appendNumber_70 : decode cX2_appendNumber 70 = .ok (.ldiv, 1) := by decide +kernel
theorem dX2_appendNumber_71 : decode cX2_appendNumber 71 = .ok (.ldc2_w 27, 3) := by decide +kernel
theorem dX2_appendNumber_74 : decode cX2_appendNumber 74 = .ok (.lrem, 1) := by decide +kernel
theorem dX2_appendNumber_75 : decode cX2_appendNumber 75 = .ok (.invokestatic 31, 3) := by decide +kernel
theorem dX2_appendNumber_78 : decode cX2_appendNumber 78 = .ok (.ladd, 1) := by decide +kernel
theorem dX2_appendNumber_79 : decode cX2_appendNumber 79 = .ok (.l2i, 1) := by decide +kernel
theorem dX2_appendNumber_80 : decode cX2_appendNumber 80 = .ok (.i2c, 1) := by decide +kernel
theorem dX2_appendNumber_81 : decode cX2_appendNumber 81 = .ok (.invokevirtual 23, 3) := by decide +kernel
theorem dX2_appendNumber_84 : decode cX2_appendNumber 84 = .ok (.lload_n 3, 1) := by decide +kernel
theorem dX2_appendNumber_85 : decode cX2_appendNumber 85 = .ok (.ldc2_w 27, 3) := by decide +kernel
theorem dX2_appendNumber_88 : decode cX2_appendNumber 88 = .ok (.ldiv, 1) := by decide +kernel
theorem dX2_appendNumber_89 : decode cX2_appendNumber 89 = .ok (.lstore_n 3, 1) := by decide +kernel
theorem dX2_appendNumber_90 : decode cX2_appendNumber 90 = .ok (.iinc 5 1, 3) := by decide +kernel
theorem dX2_appendNumber_93 : decode cX2_appendNumber 93 = .ok (.goto (-42), 3) := by decide +kernel
theorem dX2_appendNumber_96 : decode cX2_appendNumber 96 = .ok (.return_, 1) := by decide +kernel
theorem dX3_init_0 : decode cX3_init 0 = .ok (.aload_n 0, 1) := by decide +kernel
theorem dX3_init_1 : decode cX3_init 1 = .ok (.invokespecial 3, 3) := by decide +kernel
theorem dX3_init_4 : decode cX3_init 4 = .ok (.aload_n 0, 1) := by decide +kernel
theorem dX3_init_5 : decode cX3_init 5 = .ok (.iconst 4, 1) := by decide +kernel
theorem dX3_init_6 : decode cX3_init 6 = .ok (.bipush 20, 2) := by decide +kernel
theorem dX3_init_8 : decode cX3_init 8 = .ok (.multianewarray 9 2, 4) := by decide +kernel
theorem dX3_init_12 : decode cX3_init 12 = .ok (.putfield 11, 3) := by decide +kernel
theorem dX3_init_15 : decode cX3_init 15 = .ok (.aload_n 0, 1) := by decide +kernel
theorem dX3_init_16 : decode cX3_init 16 = .ok (.iconst 4, 1) := by decide +kernel
theorem dX3_init_17 : decode cX3_init 17 = .ok (.newarray .int, 2) := by decide +kernel
theorem dX3_init_19 : decode cX3_init 19 = .ok (.dup, 1) := by decide +kernel
theorem dX3_init_20 : decode cX3_init 20 = .ok (.iconst 0, 1) := by decide +kernel
theorem dX3_init_21 : decode cX3_init 21 = .ok (.iconst (-1), 1) := by decide +kernel
theorem dX3_init_22 : decode cX3_init 22 = .ok (.iastore, 1) := by decide +kernel
theorem dX3_init_23 : decode cX3_init 23 = .ok (.dup, 1) := by decide +kernel
theorem dX3_init_24 : decode cX3_init 24 = .ok (.iconst 1, 1) := by decide +kernel
theorem dX3_init_25 : decode cX3_init 25 = .ok (.iconst (-1), 1) := by decide +kernel
theorem dX3_init_26 : decode cX3_init 26 = .ok (.iastore, 1) := by decide +kernel
theorem dX3_init_27 : decode cX3_init 27 = .ok (.dup, 1) := by decide +kernel
theorem dX3_init_28 : decode cX3_init 28 = .ok (.iconst 2, 1) := by decide +kernel
theorem dX3_init_29 : decode cX3_init 29 = .ok (.iconst (-1), 1) := by decide +kernel
theorem dX3_init_30 : decode cX3_init 30 = .ok (.iastore, 1) := by decide +kernel
theorem dX3_init_31 : decode cX3_init 31 = .ok (.dup, 1) := by decide +kernel
theorem dX3_init_32 : decode cX3_init 32 = .ok (.iconst 3, 1) := by decide +kernel
theorem dX3_init_33 : decode cX3_init 33 = .ok (.iconst (-1), 1) := by decide +kernel
theorem dX3_init_34 : decode cX3_init 34 = .ok (.iastore, 1) := by decide +kernel
theorem dX3_init_35 : decode cX3_init 35 = .ok (.putfield 16, 3) := by decide +kernel
theorem dX3_init_38 : decode cX3_init 38 = .ok (.return_, 1) := by decide +kernel
set_option maxRecDepth 20000 in
theorem ggX3_begin_X5_isRow : GoodIn wsX3_begin wsX5_isRow := goodIn_r _ [5] (by decide +kernel) (by decide +kernel)
set_option maxRecDepth 20000 in
theorem gX3_begin_X5_isRow_n20 : GoodIn wsX3_begin (wsX5_isRow) := ggX3_begin_X5_isRow
set_option maxRecDepth 20000 in
theorem ggX3_begin_J7_fill_d0a16 : GoodIn wsX3_begin wsJ7_fill_d0a16 := goodIn_r _ [9] (by decide +kernel) (by decide +kernel)
set_option maxRecDepth 20000 in
theorem gX3_begin_J7_fill_d0a16 : GoodIn wsX3_begin (va_wsS RX3 24 yJ7_fill_d0a16 wsJ7_fill_d0a16) := goodIn_app (goodIn_of _ (by decide +kernel)) ggX3_begin_J7_fill_d0a16
theorem dX3_begin_0 : decode cX3_begin 0 = .ok (.iload_n 1, 1) := by decide +kernel
theorem dX3_begin_1 : decode cX3_begin 1 = .ok (.invokestatic 20, 3) := by decide +kernel
theorem dX3_begin_4 : decode cX3_begin 4 = .ok (.ifCond .eq 30, 3) := by decide +kernel
theorem dX3_begin_7 : decode cX3_begin 7 = .ok (.iload_n 2, 1) := by decide +kernel
theorem dX3_begin_8 : decode cX3_begin 8 = .ok (.ifCond .lt 26, 3) := by decide +kernel
theorem dX3_begin_11 : decode cX3_begin 11 = .ok (.iload_n 2, 1) := by decide +kernel
theorem dX3_begin_12 : decode cX3_begin 12 = .ok (.bipush 20, 2) := by decide +kernel
theorem dX3_begin_14 : decode cX3_begin 14 = .ok (.if_icmp .gt 20, 3) := by decide +kernel
theorem dX3_begin_17 : decode cX3_begin 17 = .ok (.aload_n 0, 1) := by decide +kernel
theorem dX3_begin_18 : decode cX3_begin 18 = .ok (.getfield 16, 3) := by decide +kernel
theorem dX3_begin_21 : decode cX3_begin 21 = .ok (.iload_n 1, 1) := by decide +kernel
theorem dX3_begin_22 : decode cX3_begin 22 = .ok (.iload_n 2, 1) := by decide +kernel
theorem dX3_begin_23 : decode cX3_begin 23 = .ok (.iastore, 1) := by decide +kernel
theorem dX3_begin_24 : decode cX3_begin 24 = .ok (.aload_n 0, 1) := by decide +kernel
theorem dX3_begin_25 : decode cX3_begin 25 = .ok (.getfield 11, 3) := by decide +kernel
theorem dX3_begin_28 : decode cX3_begin 28 = .ok (.iload_n 1, 1) := by decide +kernel
theorem dX3_begin_29 : decode cX3_begin 29 = .ok (.aaload, 1) := by decide +kernel
theorem dX3_begin_30 : decode cX3_begin 30 = .ok (.lconst 0, 1) := by decide +kernel
theorem dX3_begin_31 : decode cX3_begin 31 = .ok (.invokestatic 24, 3) := by decide +kernel
theorem dX3_begin_34 : decode cX3_begin 34 = .ok (.return_, 1) := by decide +kernel
set_option maxRecDepth 20000 in
theorem ggX3_isNothing_X5_isRow : GoodIn wsX3_isNothing wsX5_isRow := goodIn_r _ [4] (by decide +kernel) (by decide +kernel)
set_option maxRecDepth 20000 in
theorem gX3_isNothing_X5_isRow_n20 : GoodIn wsX3_isNothing (wsX5_isRow) := ggX3_isNothing_X5_isRow
theorem dX3_isNothing_0 : decode cX3_isNothing 0 = .ok (.iload_n 1, 1) := by decide +kernel
theorem dX3_isNothing_1 : decode cX3_isNothing 1 = .ok (.invokestatic 20, 3) := by decide +kernel
theorem dX3_isNothing_4 : decode cX3_isNothing 4 = .ok (.ifCond .eq 13, 3) := by decide +kernel
theorem dX3_isNothing_7 : decode cX3_isNothing 7 = .ok (.aload_n 0, 1) := by decide +kernel
theorem dX3_isNothing_8 : decode cX3_isNothing 8 = .ok (.getfield 16, 3) := by decide +kernel
theorem dX3_isNothing_11 : decode cX3_isNothing 11 = .ok (.iload_n 1, 1) := by decide +kernel
theorem dX3_isNothing_12 : decode cX3_isNothing 12 = .ok (.iaload, 1) := by decide +kernel
theorem dX3_isNothing_13 : decode cX3_isNothing 13 = .ok (.iconst (-1), 1) := by decide +kernel
theorem dX3_isNothing_14 : decode cX3_isNothing 14 = .ok (.if_icmp .ne 7, 3) := by decide +kernel
theorem dX3_isNothing_17 : decode cX3_isNothing 17 = .ok (.iconst 1, 1) := by decide +kernel
theorem dX3_isNothing_18 : decode cX3_isNothing 18 = .ok (.goto 4, 3) := by decide +kernel
theorem dX3_isNothing_21 : decode cX3_isNothing 21 = .ok (.iconst 0, 1) := by decide +kernel
theorem dX3_isNothing_22 : decode cX3_isNothing 22 = .ok (.ireturn, 1) := by decide +kernel
set_option maxRecDepth 20000 in
theorem ggX3_holds_X5_isRow : GoodIn wsX3_holds wsX5_isRow := goodIn_r _ [4] (by decide +kernel) (by decide +kernel)
set_option maxRecDepth 20000 in
theorem gX3_holds_X5_isRow_n20 : GoodIn wsX3_holds (wsX5_isRow) := ggX3_holds_X5_isRow
theorem dX3_holds_0 : decode cX3_holds 0 = .ok (.iload_n 1, 1) := by decide +kernel
theorem dX3_holds_1 : decode cX3_holds 1 = .ok (.invokestatic 20, 3) := by decide +kernel
theorem dX3_holds_4 : decode cX3_holds 4 = .ok (.ifCond .eq 23, 3) := by decide +kernel
theorem dX3_holds_7 : decode cX3_holds 7 = .ok (.iload_n 2, 1) := by decide +kernel
theorem dX3_holds_8 : decode cX3_holds 8 = .ok (.ifCond .lt 19, 3) := by decide +kernel
theorem dX3_holds_11 : decode cX3_holds 11 = .ok (.iload_n 2, 1) := by decide +kernel
theorem dX3_holds_12 : decode cX3_holds 12 = .ok (.aload_n 0, 1) := by decide +kernel
theorem dX3_holds_13 : decode cX3_holds 13 = .ok (.getfield 16, 3) := by decide +kernel
theorem dX3_holds_16 : decode cX3_holds 16 = .ok (.iload_n 1, 1) := by decide +kernel
theorem dX3_holds_17 : decode cX3_holds 17 = .ok (.iaload, 1) := by decide +kernel
theorem dX3_holds_18 : decode cX3_holds 18 = .ok (.iload_n 3, 1) := by decide +kernel
theorem dX3_holds_19 : decode cX3_holds 19 = .ok (.isub, 1) := by decide +kernel
theorem dX3_holds_20 : decode cX3_holds 20 = .ok (.if_icmp .gt 7, 3) := by decide +kernel
theorem dX3_holds_23 : decode cX3_holds 23 = .ok (.iconst 1, 1) := by decide +kernel
theorem dX3_holds_24 : decode cX3_holds 24 = .ok (.goto 4, 3) := by decide +kernel
theorem dX3_holds_27 : decode cX3_holds 27 = .ok (.iconst 0, 1) := by decide +kernel
theorem dX3_holds_28 : decode cX3_holds 28 = .ok (.ireturn, 1) := by decide +kernel
theorem dX4_init_0 : decode cX4_init 0 = .ok (.aload_n 0, 1) := by decide +kernel
theorem dX4_init_1 : decode cX4_init 1 = .ok (.invokespecial 3, 3) := by decide +kernel
theorem dX4_init_4 : decode cX4_init 4 = .ok (.aload_n 0, 1) := by decide +kernel
theorem dX4_init_5 : decode cX4_init 5 = .ok (.bipush 120, 2) := by decide +kernel
theorem dX4_init_7 : decode cX4_init 7 = .ok (.newarray .byte, 2) := by decide +kernel
theorem dX4_init_9 : decode cX4_init 9 = .ok (.putfield 9, 3) := by decide +kernel
theorem dX4_init_12 : decode cX4_init 12 = .ok (.return_, 1) := by decide +kernel
theorem dX4_append_0 : decode cX4_append 0 = .ok (.aload_n 0, 1) := by decide +kernel
theorem dX4_append_1 : decode cX4_append 1 = .ok (.getfield 15, 3) := by decide +kernel
theorem dX4_append_4 : decode cX4_append 4 = .ok (.aload_n 0, 1) := by decide +kernel
theorem dX4_append_5 : decode cX4_append 5 = .ok (.getfield 9, 3) := by decide +kernel
theorem dX4_append_8 : decode cX4_append 8 = .ok (.arraylength, 1) := by decide +kernel
theorem dX4_append_9 : decode cX4_append 9 = .ok (.if_icmp .lt 5, 3) := by decide +kernel
theorem dX4_append_12 : decode cX4_append 12 = .ok (.iconst 0, 1) := by decide +kernel
theorem dX4_append_13 : decode cX4_append 13 = .ok (.ireturn, 1) := by decide +kernel
theorem dX4_append_14 : decode cX4_append 14 = .ok (.aload_n 0, 1) := by decide +kernel
theorem dX4_append_15 : decode cX4_append 15 = .ok (.getfield 9, 3) := by decide +kernel
theorem dX4_append_18 : decode cX4_append 18 = .ok (.aload_n 0, 1) := by decide +kernel
theorem dX4_append_19 : decode cX4_append 19 = .ok (.getfield 15, 3) := by decide +kernel
theorem dX4_append_22 : decode cX4_append 22 = .ok (.iload_n 1, 1) := by decide +kernel
theorem dX4_append_23 : decode cX4_append 23 = .ok (.bastore, 1) := by decide +kernel
theorem dX4_append_24 : decode cX4_append 24 = .ok (.aload_n 0, 1) := by decide +kernel
theorem dX4_append_25 : decode cX4_append 25 = .ok (.dup, 1) := by decide +kernel
theorem dX4_append_26 : decode cX4_append 26 = .ok (.getfield 15, 3) := by decide +kernel
theorem dX4_append_29 : decode cX4_append 29 = .ok (.iconst 1, 1) := by decide +kernel
theorem dX4_append_30 : decode cX4_append 30 = .ok (.iadd, 1) := by decide +kernel
theorem dX4_append_31 : decode cX4_append 31 = .ok (.putfield 15, 3) := by decide +kernel
theorem dX4_append_34 : decode cX4_append 34 = .ok (.iconst 1, 1) := by decide +kernel
theorem dX4_append_35 : decode cX4_append 35 = .ok (.ireturn, 1) := by decide +kernel
theorem dX4_wipe_0 : decode cX4_wipe 0 = .ok (.aload_n 0, 1) := by decide +kernel
theorem dX4_wipe_1 : decode cX4_wipe 1 = .ok (.iconst 0, 1) := by decide +kernel
theorem dX4_wipe_2 : decode cX4_wipe 2 = .ok (.putfield 15, 3) := by decide +kernel
theorem dX4_wipe_5 : decode cX4_wipe 5 = .ok (.return_, 1) := by decide +kernel
set_option maxRecDepth 20000 in
theorem ggX4_readInto_X4_readPart : GoodIn wsX4_readInto wsX4_readPart := goodIn_r _ [7, 8, 9, 10, 11, 6, 12, 13, 14, 15, 16, 1, 17, 18, 19, 20, 2, 21, 22, 23, 24, 25, 26, 27, 28, 29, 30, 31, 32, 33] (by decide +kernel) (by decide +kernel)
set_option maxRecDepth 20000 in
theorem gX4_readInto_X4_readPart : GoodIn wsX4_readInto (wsV RX4 22 RX4 yX4_readPart wsX4_readPart) := goodIn_app (goodIn_of _ (by decide +kernel)) ggX4_readInto_X4_readPart
set_option maxRecDepth 20000 in
theorem ggX4_readInto_X4_take : GoodIn wsX4_readInto wsX4_take := goodIn_r _ [16, 1, 17, 18, 19, 6, 20, 2, 21, 30, 31, 32, 33] (by decide +kernel) (by decide +kernel)
set_option maxRecDepth 20000 in
theorem gX4_readInto_X4_take : GoodIn wsX4_readInto (wsV RX4 26 RX4 yX4_take wsX4_take) := goodIn_app (goodIn_of _ (by decide +kernel)) ggX4_readInto_X4_take
theorem dX4_readInto_0 : decode cX4_readInto 0 = .ok (.aload_n 0, 1) := by decide +kernel
theorem dX4_readInto_1 : decode cX4_readInto 1 = .ok (.iconst 0, 1) := by decide +kernel
theorem dX4_readInto_2 : decode cX4_readInto 2 = .ok (.putfield 19, 3) := by decide +kernel
theorem dX4_readInto_5 : decode cX4_readInto 5 = .ok (.iconst 0, 1) := by decide +kernel
theorem dX4_readInto_6 : decode cX4_readInto 6 = .ok (.istore_n 3, 1) := by decide +kernel
theorem dX4_readInto_7 : decode cX4_readInto 7 = .ok (.iconst 1, 1) := by decide +kernel
theorem dX4_readInto_8 : decode cX4_readInto 8 = .ok (.istore 4, 2) := by decide +kernel
theorem dX4_readInto_10 : decode cX4_readInto 10 = .ok (.iconst 0, 1) := by decide +kernel
theorem dX4_readInto_11 : decode cX4_readInto 11 = .ok (.istore 5, 2) := by decide +kernel
theorem dX4_readInto_13 : decode cX4_readInto 13 = .ok (.iload 4, 2) := by decide +kernel
theorem dX4_readInto_15 : decode cX4_readInto 15 = .ok (.ifCond .eq 44, 3) := by decide +kernel
theorem dX4_readInto_18 : decode cX4_readInto 18 = .ok (.iload 5, 2) := by decide +kernel
theorem dX4_readInto_20 : decode cX4_readInto 20 = .ok (.bipush 120, 2) := by decide +kernel
theorem dX4_readInto_22 : decode cX4_readInto 22 = .ok (.if_icmp .ge 37, 3) := by decide +kernel
theorem dX4_readInto_25 : decode cX4_readInto 25 = .ok (.aload_n 0, 1) := by decide +kernel
theorem dX4_readInto_26 : decode cX4_readInto 26 = .ok (.aload_n 1, 1) := by decide +kernel
theorem dX4_readInto_27 : decode cX4_readInto 27 = .ok (.iload_n 2, 1) := by decide +kernel
theorem dX4_readInto_28 : decode cX4_readInto 28 = .ok (.invokevirtual 22, 3) := by decide +kernel
theorem dX4_readInto_31 : decode cX4_readInto 31 = .ok (.ifCond .ne 11, 3) := by decide +kernel
theorem dX4_readInto_34 : decode cX4_readInto 34 = .ok (.bipush (-100), 2) := by decide +kernel
theorem dX4_readInto_36 : decode cX4_readInto 36 = .ok (.aload_n 0, 1) := by decide +kernel
theorem dX4_readInto_37 : decode cX4_readInto 37 = .ok (.getfield 19, 3) := by decide +kernel
theorem dX4_readInto_40 : decode cX4_readInto 40 = .ok (.isub, 1) := by decide +kernel
theorem dX4_readInto_41 : decode cX4_readInto 41 = .ok (.ireturn, 1) := by decide +kernel
theorem dX4_readInto_42 : decode cX4_readInto 42 = .ok (.iinc 3 1, 3) := by decide +kernel
theorem dX4_readInto_45 : decode cX4_readInto 45 = .ok (.aload_n 0, 1) := by decide +kernel
theorem dX4_readInto_46 : decode cX4_readInto 46 = .ok (.bipush 59, 2) := by decide +kernel
theorem dX4_readInto_48 : decode cX4_readInto 48 = .ok (.invokevirtual 26, 3) := by decide +kernel
theorem dX4_readInto_51 : decode cX4_readInto 51 = .ok (.istore 4, 2) := by decide +kernel
theorem dX4_readInto_53 : decode cX4_readInto 53 = .ok (.iinc 5 1, 3) := by decide +kernel
theorem dX4_readInto_56 : decode cX4_readInto 56 = .ok (.goto (-43), 3) := by decide +kernel
theorem dX4_readInto_59 : decode cX4_readInto 59 = .ok (.aload_n 0, 1) := by decide +kernel
theorem dX4_readInto_60 : decode cX4_readInto 60 = .ok (.getfield 19, 3) := by decide +kernel
theorem dX4_readInto_63 : decode cX4_readInto 63 = .ok (.aload_n 0, 1) := by decide +kernel
theorem dX4_readInto_64 : decode cX4_readInto 64 = .ok (.getfield 15, 3) := by decide +kernel
theorem dX4_readInto_67 : decode cX4_readInto 67 = .ok (.if_icmp .ge 13, 3) := by decide +kernel
theorem dX4_readInto_70 : decode cX4_readInto 70 = .ok (.bipush (-100), 2) := by decide +kernel
theorem dX4_readInto_72 : decode cX4_readInto 72 = .ok (.aload_n 0, 1) := by decide +kernel
theorem dX4_readInto_73 : decode cX4_readInto 73 = .ok (.getfield 19, 3) := by decide +kernel
theorem dX4_readInto_76 : decode cX4_readInto 76 = .ok (.isub, 1) := by decide +kernel
theorem dX4_readInto_77 : decode cX4_readInto 77 = .ok (.goto 4, 3) := by decide +kernel
theorem dX4_readInto_80 : decode cX4_readInto 80 = .ok (.iload_n 3, 1) := by decide +kernel
theorem dX4_readInto_81 : decode cX4_readInto 81 = .ok (.ireturn, 1) := by decide +kernel
set_option maxRecDepth 20000 in
theorem ggX4_readPart_X4_readLetters : GoodIn wsX4_readPart wsX4_readLetters := goodIn_r _ [6, 7, 8, 9, 5, 10, 11, 12, 13, 14, 15, 16, 17, 26, 27, 28, 29] (by decide +kernel) (by decide +kernel)
set_option maxRecDepth 20000 in
theorem gX4_readPart_X4_readLetters : GoodIn wsX4_readPart (wsV RX4 30 RX4 yX4_readLetters wsX4_readLetters) := goodIn_app (goodIn_of _ (by decide +kernel)) ggX4_readPart_X4_readLetters
set_option maxRecDepth 20000 in
theorem ggX4_readPart_X4_take : GoodIn wsX4_readPart wsX4_take := goodIn_r _ [10, 11, 12, 13, 14, 5, 15, 16, 17, 26, 27, 28, 29] (by decide +kernel) (by decide +kernel)
set_option maxRecDepth 20000 in
theorem gX4_readPart_X4_take : GoodIn wsX4_readPart (wsV RX4 26 RX4 yX4_take wsX4_take) := goodIn_app (goodIn_of _ (by decide +kernel)) ggX4_readPart_X4_take
set_option maxRecDepth 20000 in
theorem ggX4_readPart_X4_readNumber : GoodIn wsX4_readPart wsX4_readNumber := goodIn_r _ [21, 22, 11, 1, 7, 8, 9, 5, 10, 12, 13, 14, 15, 16, 17, 23, 24, 25, 26, 27, 28, 29] (by decide +kernel) (by decide +kernel)
set_option maxRecDepth 20000 in
theorem gX4_readPart_X4_readNumber : GoodIn wsX4_readPart (wsV RX4 34 RX4 yX4_readNumber wsX4_readNumber) := goodIn_app (goodIn_of _ (by decide +kernel)) ggX4_readPart_X4_readNumber
theorem dX4_readPart_0 : decode cX4_readPart 0 = .ok (.aload_n 0, 1) := by decide +kernel
theorem dX4_readPart_1 : decode cX4_readPart 1 = .ok (.iload_n 2, 1) := by decide +kernel
theorem dX4_readPart_2 : decode cX4_readPart 2 = .ok (.invokevirtual 30, 3) := by decide +kernel
theorem dX4_readPart_5 : decode cX4_readPart 5 = .ok (.istore_n 3, 1) := by decide +kernel
theorem dX4_readPart_6 : decode cX4_readPart 6 = .ok (.iload_n 3, 1) := by decide +kernel
theorem dX4_readPart_7 : decode cX4_readPart 7 = .ok (.ifCond .le 25, 3) := by decide +kernel
theorem dX4_readPart_10 : decode cX4_readPart 10 = .ok (.iload_n 3, 1) := by decide +kernel
theorem dX4_readPart_11 : decode cX4_readPart 11 = .ok (.aload_n 1, 1) := by decide +kernel
theorem dX4_readPart_12 : decode cX4_readPart 12 = .ok (.arraylength, 1) := by decide +kernel
theorem dX4_readPart_13 : decode cX4_readPart 13 = .ok (.if_icmp .ge 19, 3) := by decide +kernel
theorem dX4_readPart_16 : decode cX4_readPart 16 = .ok (.aload_n 0, 1) := by decide +kernel
theorem dX4_readPart_17 : decode cX4_readPart 17 = .ok (.bipush 61, 2) := by decide +kernel
theorem dX4_readPart_19 : decode cX4_readPart 19 = .ok (.invokevirtual 26, 3) := by decide +kernel
theorem dX4_readPart_22 : decode cX4_readPart 22 = .ok (.ifCond .eq 10, 3) := by decide +kernel
theorem dX4_readPart_25 : decode cX4_readPart 25 = .ok (.aload_n 0, 1) := by decide +kernel
theorem dX4_readPart_26 : decode cX4_readPart 26 = .ok (.invokevirtual 34, 3) := by decide +kernel
theorem dX4_readPart_29 : decode cX4_readPart 29 = .ok (.ifCond .ne 5, 3) := by decide +kernel
theorem dX4_readPart_32 : decode cX4_readPart 32 = .ok (.iconst 0, 1) := by decide +kernel
theorem dX4_readPart_33 : decode cX4_readPart 33 = .ok (.ireturn, 1) := by decide +kernel
theorem dX4_readPart_34 : decode cX4_readPart 34 = .ok (.aload_n 1, 1) := by decide +kernel
theorem dX4_readPart_35 : decode cX4_readPart 35 = .ok (.iload_n 3, 1) := by decide +kernel
theorem dX4_readPart_36 : decode cX4_readPart 36 = .ok (.aload_n 0, 1) := by decide +kernel
theorem dX4_readPart_37 : decode cX4_readPart 37 = .ok (.getfield 38, 3) := by decide +kernel
theorem dX4_readPart_40 : decode cX4_readPart 40 = .ok (.lastore, 1) := by decide +kernel
theorem dX4_readPart_41 : decode cX4_readPart 41 = .ok (.iconst 1, 1) := by decide +kernel
theorem dX4_readPart_42 : decode cX4_readPart 42 = .ok (.ireturn, 1) := by decide +kernel
set_option maxRecDepth 20000 in
theorem ggX4_readLetters_X4_take : GoodIn wsX4_readLetters wsX4_take := goodIn_r _ [5, 6, 7, 8, 9, 4, 10, 11, 12, 13, 14, 15, 16] (by decide +kernel) (by decide +kernel)
set_option maxRecDepth 20000 in
theorem gX4_readLetters_X4_take : GoodIn wsX4_readLetters (wsV RX4 26 RX4 yX4_take wsX4_take) := goodIn_app (goodIn_of _ (by decide +kernel)) ggX4_readLetters_X4_take
theorem dX4_readLetters_0 : decode cX4_readLetters 0 = .ok (.iconst 0, 1) := by decide +kernel
theorem dX4_readLetters_1 : decode cX4_readLetters 1 = .ok (.istore_n 2, 1) := by decide +kernel
theorem dX4_readLetters_2 : decode cX4_readLetters 2 = .ok (.iconst 0, 1) := by decide +kernel
theorem dX4_readLetters_3 : decode cX4_readLetters 3 = .ok (.istore_n 3, 1) := by decide +kernel
theorem dX4_readLetters_4 : decode cX4_readLetters 4 = .ok (.iload_n 3, 1) := by decide +kernel
theorem dX4_readLetters_5 : decode cX4_readLetters 5 = .ok (.iload_n 1, 1) := by decide +kernel
theorem dX4_readLetters_6 : decode cX4_readLetters 6 = .ok (.if_icmp .ge 27, 3) := by decide +kernel
theorem dX4_readLetters_9 : decode cX4_readLetters 9 = .ok (.aload_n 0, 1) := by decide +kernel
theorem dX4_readLetters_10 : decode cX4_readLetters 10 = .ok (.bipush 97, 2) := by decide +kernel
theorem dX4_readLetters_12 : decode cX4_readLetters 12 = .ok (.iload_n 3, 1) := by decide +kernel
theorem dX4_readLetters_13 : decode cX4_readLetters 13 = .ok (.iadd, 1) := by decide +kernel
theorem dX4_readLetters_14 : decode cX4_readLetters 14 = .ok (.i2c, 1) := by decide +kernel
theorem dX4_readLetters_15 : decode cX4_readLetters 15 = .ok (.invokevirtual 26, 3) := by decide +kernel
theorem dX4_readLetters_18 : decode cX4_readLetters 18 = .ok (.ifCond .eq 9, 3) := by decide +kernel
theorem dX4_readLetters_21 : decode cX4_readLetters 21 = .ok (.iload_n 2, 1) := by decide +kernel
theorem dX4_readLetters_22 : decode cX4_readLetters 22 = .ok (.iconst 1, 1) := by decide +kernel
theorem dX4_readLetters_23 : decode cX4_readLetters 23 = .ok (.iload_n 3, 1) := by decide +kernel
theorem dX4_readLetters_24 : decode cX4_readLetters 24 = .ok (.ishl, 1) := by decide +kernel
theorem dX4_readLetters_25 : decode cX4_readLetters 25 = .ok (.ior, 1) := by decide +kernel
theorem dX4_readLetters_26 : decode cX4_readLetters 26 = .ok (.istore_n 2, 1) := by decide +kernel
theorem dX4_readLetters_27 : decode cX4_readLetters 27 = .ok (.iinc 3 1, 3) := by decide +kernel
theorem dX4_readLetters_30 : decode cX4_readLetters 30 = .ok (.goto (-26), 3) := by decide +kernel
theorem dX4_readLetters_33 : decode cX4_readLetters 33 = .ok (.iload_n 2, 1) := by decide +kernel
theorem dX4_readLetters_34 : decode cX4_readLetters 34 = .ok (.ireturn, 1) := by decide +kernel
set_option maxRecDepth 20000 in
theorem ggX4_readNumber_X4_take : GoodIn wsX4_readNumber wsX4_take := goodIn_r _ [8, 2, 9, 10, 11, 7, 12, 13, 14, 18, 19, 20, 21] (by decide +kernel) (by decide +kernel)
set_option maxRecDepth 20000 in
theorem gX4_readNumber_X4_take : GoodIn wsX4_readNumber (wsV RX4 26 RX4 yX4_take wsX4_take) := goodIn_app (goodIn_of _ (by decide +kernel)) ggX4_readNumber_X4_take
set_option maxRecDepth 20000 in
theorem ggX4_readNumber_X4_here : GoodIn wsX4_readNumber wsX4_here := goodIn_r _ [12, 2, 13, 14, 18, 19, 20, 21] (by decide +kernel) (by decide +kernel)
set_option maxRecDepth 20000 in
theorem gX4_readNumber_X4_here : GoodIn wsX4_readNumber (wsV RX4 42 RX4 yX4_here wsX4_here) := goodIn_app (goodIn_of _ (by decide +kernel)) ggX4_readNumber_X4_here
set_option maxRecDepth 20000 in
theorem ggX4_readNumber_X4_isFigure : GoodIn wsX4_readNumber wsX4_isFigure := goodIn_r _ [17] (by decide +kernel) (by decide +kernel)
set_option maxRecDepth 20000 in
theorem gX4_readNumber_X4_isFigure : GoodIn wsX4_readNumber (va_wsS RX4 46 yX4_isFigure wsX4_isFigure) := goodIn_app (goodIn_of _ (by decide +kernel)) ggX4_readNumber_X4_isFigure
theorem dX4_readNumber_0 : decode cX4_readNumber 0 = .ok (.aload_n 0, 1) := by decide +kernel
theorem dX4_readNumber_1 : decode cX4_readNumber 1 = .ok (.bipush 45, 2) := by decide +kernel
theorem dX4_readNumber_3 : decode cX4_readNumber 3 = .ok (.invokevirtual 26, 3) := by decide +kernel
theorem dX4_readNumber_6 : decode cX4_readNumber 6 = .ok (.istore_n 1, 1) := by decide +kernel
theorem dX4_readNumber_7 : decode cX4_readNumber 7 = .ok (.iconst 0, 1) := by decide +kernel
theorem dX4_readNumber_8 : decode cX4_readNumber 8 = .ok (.istore_n 2, 1) := by decide +kernel
theorem dX4_readNumber_9 : decode cX4_readNumber 9 = .ok (.lconst 0, 1) := by decide +kernel
theorem dX4_readNumber_10 : decode cX4_readNumber 10 = .ok (.lstore_n 3, 1) := by decide +kernel
theorem dX4_readNumber_11 : decode cX4_readNumber 11 = .ok (.iconst 0, 1) := by decide +kernel
theorem dX4_readNumber_12 : decode cX4_readNumber 12 = .ok (.istore 5, 2) := by decide +kernel
theorem dX4_readNumber_14 : decode cX4_readNumber 14 = .ok (.iload 5, 2) := by decide +kernel
theorem dX4_readNumber_16 : decode cX4_readNumber 16 = .ok (.bipush 9, 2) := by decide +kernel
theorem dX4_readNumber_18 : decode cX4_readNumber 18 = .ok (.if_icmp .ge 47, 3) := by decide +kernel
theorem dX4_readNumber_21 : decode cX4_readNumber 21 = .ok (.aload_n 0, 1) := by decide +kernel
theorem dX4_readNumber_22 : decode cX4_readNumber 22 = .ok (.invokevirtual 42, 3) := by decide +kernel
theorem dX4_readNumber_25 : decode cX4_readNumber 25 = .ok (.invokestatic 46, 3) := by decide +kernel
theorem dX4_readNumber_28 : decode cX4_readNumber 28 = .ok (.ifCond .eq 37, 3) := by decide +kernel
theorem dX4_readNumber_31 : decode cX4_readNumber 31 = .ok (.lload_n 3, 1) := by decide +kernel
theorem dX4_readNumber_32 : decode cX4_readNumber 32 = .ok (.ldc2_w 50, 3) := by decide +kernel
theorem dX4_readNumber_35 : decode cX4_readNumber 35 = .ok (.lmul, 1) := by decide +kernel
theorem dX4_readNumber_36 : decode cX4_readNumber 36 = .ok (.aload_n 0, 1) := by decide +kernel
theorem dX4_readNumber_37 : decode cX4_readNumber 37 = .ok (.invokevirtual 42, 3) := by decide +kernel
theorem dX4_readNumber_40 : decode cX4_readNumber 40 = .ok (.bipush 48, 2) := by decide +kernel
theorem dX4_readNumber_42 : decode cX4_readNumber 42 = .ok (.isub, 1) := by decide +kernel
theorem dX4_readNumber_43 : decode cX4_readNumber 43 = .ok (.i2l, 1) := by decide +kernel
theorem dX4_readNumber_44 : decode cX4_readNumber 44 = .ok (.ladd, 1) := by decide +kernel
theorem dX4_readNumber_45 : decode cX4_readNumber 45 = .ok (.lstore_n 3, 1) := by decide +kernel
theorem dX4_readNumber_46 : decode cX4_readNumber 46 = .ok (.aload_n 0, 1) := by decide +kernel
theorem dX4_readNumber_47 : decode cX4_readNumber 47 = .ok (.dup, 1) := by decide +kernel
theorem dX4_readNumber_48 : decode cX4_readNumber 48 = .ok (.getfield 19, 3) := by decide +kernel
theorem dX4_readNumber_51 : decode cX4_readNumber 51 = .ok (.iconst 1, 1) := by decide +kernel
theorem dX4_readNumber_52 : decode cX4_readNumber 52 = .ok (.iadd, 1) := by decide +kernel
theorem dX4_readNumber_53 : decode cX4_readNumber 53 = .ok (.putfield 19, 3) := by decide +kernel
theorem dX4_readNumber_56 : decode cX4_readNumber 56 = .ok (.iinc 2 1, 3) := by decide +kernel
theorem dX4_readNumber_59 : decode cX4_readNumber 59 = .ok (.iinc 5 1, 3) := by decide +kernel
theorem dX4_readNumber_62 : decode cX4_readNumber 62 = .ok (.goto (-48), 3) := by decide +kernel
theorem dX4_readNumber_65 : decode cX4_readNumber 65 = .ok (.aload_n 0, 1) := by decide +kernel
theorem dX4_readNumber_66 : decode cX4_readNumber 66 = .ok (.iload_n 1, 1) := by decide +kernel
theorem dX4_readNumber_67 : decode cX4_readNumber 67 = .ok (.ifCond .eq 8, 3) := by decide +kernel
theorem dX4_readNumber_70 : decode cX4_readNumber 70 = .ok (.lload_n 3, 1) := by decide +kernel
theorem dX4_readNumber_71 : decode cX4_readNumber 71 = .ok (.lneg, 1) := by decide +kernel
theorem dX4_readNumber_72 : decode cX4_readNumber 72 = .ok (.goto 4, 3) := by decide +kernel
theorem dX4_readNumber_75 : decode cX4_readNumber 75 = .ok (.lload_n 3, 1) := by decide +kernel
theorem dX4_readNumber_76 : decode cX4_readNumber 76 = .ok (.putfield 38, 3) := by decide +kernel
theorem dX4_readNumber_79 : decode cX4_readNumber 79 = .ok (.iload_n 2, 1) := by decide +kernel
theorem dX4_readNumber_80 : decode cX4_readNumber 80 = .ok (.ifCond .le 7, 3) := by decide +kernel
theorem dX4_readNumber_83 : decode cX4_readNumber 83 = .ok (.iconst 1, 1) := by decide +kernel
theorem dX4_readNumber_84 : decode cX4_readNumber 84 = .ok (.goto 4, 3) := by decide +kernel
theorem dX4_readNumber_87 : decode cX4_readNumber 87 = .ok (.iconst 0, 1) := by decide +kernel
theorem dX4_readNumber_88 : decode cX4_readNumber 88 = .ok (.ireturn, 1) := by decide +kernel
set_option maxRecDepth 20000 in
theorem ggX4_take_X4_here : GoodIn wsX4_take wsX4_here := goodIn_r _ [6, 1, 7, 8, 9, 10, 11, 12] (by decide +kernel) (by decide +kernel)
set_option maxRecDepth 20000 in
theorem gX4_take_X4_here : GoodIn wsX4_take (wsV RX4 42 RX4 yX4_here wsX4_here) := goodIn_app (goodIn_of _ (by decide +kernel)) ggX4_take_X4_here
