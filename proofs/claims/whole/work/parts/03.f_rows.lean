theorem dX1_pick_60 : decode cX1_pick 60 = .ok (.iload_n 3, 1) := by decide +kernel
theorem dX1_pick_61 : decode cX1_pick 61 = .ok (.iadd, 1) := by decide +kernel
theorem dX1_pick_62 : decode cX1_pick 62 = .ok (.invokevirtual 96, 3) := by decide +kernel
theorem dX1_pick_65 : decode cX1_pick 65 = .ok (.invokestatic 85, 3) := by decide +kernel
theorem dX1_pick_68 : decode cX1_pick 68 = .ok (.istore 5, 2) := by decide +kernel
theorem dX1_pick_70 : decode cX1_pick 70 = .ok (.iload 4, 2) := by decide +kernel
theorem dX1_pick_72 : decode cX1_pick 72 = .ok (.aload_n 0, 1) := by decide +kernel
theorem dX1_pick_73 : decode cX1_pick 73 = .ok (.iconst 2, 1) := by decide +kernel
theorem dX1_pick_74 : decode cX1_pick 74 = .ok (.iload_n 2, 1) := by decide +kernel
theorem dX1_pick_75 : decode cX1_pick 75 = .ok (.imul, 1) := by decide +kernel
theorem dX1_pick_76 : decode cX1_pick 76 = .ok (.iload_n 3, 1) := by decide +kernel
theorem dX1_pick_77 : decode cX1_pick 77 = .ok (.iadd, 1) := by decide +kernel
theorem dX1_pick_78 : decode cX1_pick 78 = .ok (.iconst 2, 1) := by decide +kernel
theorem dX1_pick_79 : decode cX1_pick 79 = .ok (.iload_n 1, 1) := by decide +kernel
theorem dX1_pick_80 : decode cX1_pick 80 = .ok (.imul, 1) := by decide +kernel
theorem dX1_pick_81 : decode cX1_pick 81 = .ok (.iload_n 3, 1) := by decide +kernel
theorem dX1_pick_82 : decode cX1_pick 82 = .ok (.iadd, 1) := by decide +kernel
theorem dX1_pick_83 : decode cX1_pick 83 = .ok (.invokevirtual 96, 3) := by decide +kernel
theorem dX1_pick_86 : decode cX1_pick 86 = .ok (.invokestatic 85, 3) := by decide +kernel
theorem dX1_pick_89 : decode cX1_pick 89 = .ok (.istore 6, 2) := by decide +kernel
theorem dX1_pick_91 : decode cX1_pick 91 = .ok (.iload 5, 2) := by decide +kernel
theorem dX1_pick_93 : decode cX1_pick 93 = .ok (.ifCond .eq 7, 3) := by decide +kernel
theorem dX1_pick_96 : decode cX1_pick 96 = .ok (.iload_n 1, 1) := by decide +kernel
theorem dX1_pick_97 : decode cX1_pick 97 = .ok (.goto 13, 3) := by decide +kernel
theorem dX1_pick_100 : decode cX1_pick 100 = .ok (.iload 6, 2) := by decide +kernel
theorem dX1_pick_102 : decode cX1_pick 102 = .ok (.ifCond .eq 7, 3) := by decide +kernel
theorem dX1_pick_105 : decode cX1_pick 105 = .ok (.iload_n 2, 1) := by decide +kernel
theorem dX1_pick_106 : decode cX1_pick 106 = .ok (.goto 4, 3) := by decide +kernel
theorem dX1_pick_109 : decode cX1_pick 109 = .ok (.iconst (-1), 1) := by decide +kernel
theorem dX1_pick_110 : decode cX1_pick 110 = .ok (.ireturn, 1) := by decide +kernel
set_option maxRecDepth 20000 in
theorem ggX1_levelStand_X1_markWay : GoodIn wsX1_levelStand wsX1_markWay := goodIn_r _ [7, 2, 8, 9, 10, 11, 6, 12, 1, 13, 14, 15, 16, 17, 18, 19, 20, 21, 22, 23, 24, 25, 26, 27, 28, 29, 30, 31, 32, 33, 34, 35] (by decide +kernel) (by decide +kernel)
set_option maxRecDepth 20000 in
theorem gX1_levelStand_X1_markWay : GoodIn wsX1_levelStand (wsV RX1 99 RX1 yX1_markWay wsX1_markWay) := goodIn_app (goodIn_of _ (by decide +kernel)) ggX1_levelStand_X1_markWay
set_option maxRecDepth 20000 in
theorem ggX1_levelStand_X1_latestOut : GoodIn wsX1_levelStand wsX1_latestOut := goodIn_r _ [12, 1, 13, 14, 15, 16, 6, 17, 26, 27, 28, 29, 30, 31, 32, 33, 34, 35] (by decide +kernel) (by decide +kernel)
set_option maxRecDepth 20000 in
theorem gX1_levelStand_X1_latestOut : GoodIn wsX1_levelStand (wsV RX1 50 RX1 yX1_latestOut wsX1_latestOut) := goodIn_app (goodIn_of _ (by decide +kernel)) ggX1_levelStand_X1_latestOut
theorem dX1_levelStand_0 : decode cX1_levelStand 0 = .ok (.aload_n 0, 1) := by decide +kernel
theorem dX1_levelStand_1 : decode cX1_levelStand 1 = .ok (.iconst 2, 1) := by decide +kernel
theorem dX1_levelStand_2 : decode cX1_levelStand 2 = .ok (.iload_n 1, 1) := by decide +kernel
theorem dX1_levelStand_3 : decode cX1_levelStand 3 = .ok (.imul, 1) := by decide +kernel
theorem dX1_levelStand_4 : decode cX1_levelStand 4 = .ok (.iconst 3, 1) := by decide +kernel
theorem dX1_levelStand_5 : decode cX1_levelStand 5 = .ok (.iload_n 1, 1) := by decide +kernel
theorem dX1_levelStand_6 : decode cX1_levelStand 6 = .ok (.imul, 1) := by decide +kernel
theorem dX1_levelStand_7 : decode cX1_levelStand 7 = .ok (.invokevirtual 99, 3) := by decide +kernel
theorem dX1_levelStand_10 : decode cX1_levelStand 10 = .ok (.istore_n 2, 1) := by decide +kernel
theorem dX1_levelStand_11 : decode cX1_levelStand 11 = .ok (.aload_n 0, 1) := by decide +kernel
theorem dX1_levelStand_12 : decode cX1_levelStand 12 = .ok (.iconst 2, 1) := by decide +kernel
theorem dX1_levelStand_13 : decode cX1_levelStand 13 = .ok (.iload_n 1, 1) := by decide +kernel
theorem dX1_levelStand_14 : decode cX1_levelStand 14 = .ok (.imul, 1) := by decide +kernel
theorem dX1_levelStand_15 : decode cX1_levelStand 15 = .ok (.iconst 3, 1) := by decide +kernel
theorem dX1_levelStand_16 : decode cX1_levelStand 16 = .ok (.iload_n 1, 1) := by decide +kernel
theorem dX1_levelStand_17 : decode cX1_levelStand 17 = .ok (.imul, 1) := by decide +kernel
theorem dX1_levelStand_18 : decode cX1_levelStand 18 = .ok (.iconst 1, 1) := by decide +kernel
theorem dX1_levelStand_19 : decode cX1_levelStand 19 = .ok (.iadd, 1) := by decide +kernel
theorem dX1_levelStand_20 : decode cX1_levelStand 20 = .ok (.invokevirtual 99, 3) := by decide +kernel
theorem dX1_levelStand_23 : decode cX1_levelStand 23 = .ok (.istore_n 3, 1) := by decide +kernel
theorem dX1_levelStand_24 : decode cX1_levelStand 24 = .ok (.aload_n 0, 1) := by decide +kernel
theorem dX1_levelStand_25 : decode cX1_levelStand 25 = .ok (.getfield 17, 3) := by decide +kernel
theorem dX1_levelStand_28 : decode cX1_levelStand 28 = .ok (.iconst 2, 1) := by decide +kernel
theorem dX1_levelStand_29 : decode cX1_levelStand 29 = .ok (.iload_n 1, 1) := by decide +kernel
theorem dX1_levelStand_30 : decode cX1_levelStand 30 = .ok (.imul, 1) := by decide +kernel
theorem dX1_levelStand_31 : decode cX1_levelStand 31 = .ok (.iaload, 1) := by decide +kernel
theorem dX1_levelStand_32 : decode cX1_levelStand 32 = .ok (.ifCond .ne 5, 3) := by decide +kernel
theorem dX1_levelStand_35 : decode cX1_levelStand 35 = .ok (.iconst 0, 1) := by decide +kernel
theorem dX1_levelStand_36 : decode cX1_levelStand 36 = .ok (.ireturn, 1) := by decide +kernel
theorem dX1_levelStand_37 : decode cX1_levelStand 37 = .ok (.aload_n 0, 1) := by decide +kernel
theorem dX1_levelStand_38 : decode cX1_levelStand 38 = .ok (.iconst 2, 1) := by decide +kernel
theorem dX1_levelStand_39 : decode cX1_levelStand 39 = .ok (.iload_n 1, 1) := by decide +kernel
theorem dX1_levelStand_40 : decode cX1_levelStand 40 = .ok (.imul, 1) := by decide +kernel
theorem dX1_levelStand_41 : decode cX1_levelStand 41 = .ok (.invokevirtual 50, 3) := by decide +kernel
theorem dX1_levelStand_44 : decode cX1_levelStand 44 = .ok (.ifCond .eq 5, 3) := by decide +kernel
theorem dX1_levelStand_47 : decode cX1_levelStand 47 = .ok (.iconst 1, 1) := by decide +kernel
theorem dX1_levelStand_48 : decode cX1_levelStand 48 = .ok (.ireturn, 1) := by decide +kernel
theorem dX1_levelStand_49 : decode cX1_levelStand 49 = .ok (.iload_n 2, 1) := by decide +kernel
theorem dX1_levelStand_50 : decode cX1_levelStand 50 = .ok (.iconst 1, 1) := by decide +kernel
theorem dX1_levelStand_51 : decode cX1_levelStand 51 = .ok (.if_icmp .ne 5, 3) := by decide +kernel
theorem dX1_levelStand_54 : decode cX1_levelStand 54 = .ok (.iconst 2, 1) := by decide +kernel
theorem dX1_levelStand_55 : decode cX1_levelStand 55 = .ok (.ireturn, 1) := by decide +kernel
theorem dX1_levelStand_56 : decode cX1_levelStand 56 = .ok (.iload_n 3, 1) := by decide +kernel
theorem dX1_levelStand_57 : decode cX1_levelStand 57 = .ok (.iconst 4, 1) := by decide +kernel
theorem dX1_levelStand_58 : decode cX1_levelStand 58 = .ok (.if_icmp .ne 5, 3) := by decide +kernel
theorem dX1_levelStand_61 : decode cX1_levelStand 61 = .ok (.iconst 3, 1) := by decide +kernel
theorem dX1_levelStand_62 : decode cX1_levelStand 62 = .ok (.ireturn, 1) := by decide +kernel
theorem dX1_levelStand_63 : decode cX1_levelStand 63 = .ok (.iload_n 2, 1) := by decide +kernel
theorem dX1_levelStand_64 : decode cX1_levelStand 64 = .ok (.iconst 2, 1) := by decide +kernel
theorem dX1_levelStand_65 : decode cX1_levelStand 65 = .ok (.if_icmp .eq 8, 3) := by decide +kernel
theorem dX1_levelStand_68 : decode cX1_levelStand 68 = .ok (.iload_n 3, 1) := by decide +kernel
theorem dX1_levelStand_69 : decode cX1_levelStand 69 = .ok (.iconst 2, 1) := by decide +kernel
theorem dX1_levelStand_70 : decode cX1_levelStand 70 = .ok (.if_icmp .ne 5, 3) := by decide +kernel
theorem dX1_levelStand_73 : decode cX1_levelStand 73 = .ok (.iconst 4, 1) := by decide +kernel
theorem dX1_levelStand_74 : decode cX1_levelStand 74 = .ok (.ireturn, 1) := by decide +kernel
theorem dX1_levelStand_75 : decode cX1_levelStand 75 = .ok (.aload_n 0, 1) := by decide +kernel
theorem dX1_levelStand_76 : decode cX1_levelStand 76 = .ok (.getfield 24, 3) := by decide +kernel
theorem dX1_levelStand_79 : decode cX1_levelStand 79 = .ok (.iconst 3, 1) := by decide +kernel
theorem dX1_levelStand_80 : decode cX1_levelStand 80 = .ok (.iload_n 1, 1) := by decide +kernel
theorem dX1_levelStand_81 : decode cX1_levelStand 81 = .ok (.imul, 1) := by decide +kernel
theorem dX1_levelStand_82 : decode cX1_levelStand 82 = .ok (.baload, 1) := by decide +kernel
theorem dX1_levelStand_83 : decode cX1_levelStand 83 = .ok (.ifCond .ne 20, 3) := by decide +kernel
theorem dX1_levelStand_86 : decode cX1_levelStand 86 = .ok (.aload_n 0, 1) := by decide +kernel
theorem dX1_levelStand_87 : decode cX1_levelStand 87 = .ok (.getfield 24, 3) := by decide +kernel
theorem dX1_levelStand_90 : decode cX1_levelStand 90 = .ok (.iconst 3, 1) := by decide +kernel
theorem dX1_levelStand_91 : decode cX1_levelStand 91 = .ok (.iload_n 1, 1) := by decide +kernel
theorem dX1_levelStand_92 : decode cX1_levelStand 92 = .ok (.imul, 1) := by decide +kernel
theorem dX1_levelStand_93 : decode cX1_levelStand 93 = .ok (.iconst 1, 1) := by decide +kernel
theorem dX1_levelStand_94 : decode cX1_levelStand 94 = .ok (.iadd, 1) := by decide +kernel
theorem dX1_levelStand_95 : decode cX1_levelStand 95 = .ok (.baload, 1) := by decide +kernel
theorem dX1_levelStand_96 : decode cX1_levelStand 96 = .ok (.ifCond .ne 7, 3) := by decide +kernel
theorem dX1_levelStand_99 : decode cX1_levelStand 99 = .ok (.iconst 5, 1) := by decide +kernel
theorem dX1_levelStand_100 : decode cX1_levelStand 100 = .ok (.goto 5, 3) := by decide +kernel
theorem dX1_levelStand_103 : decode cX1_levelStand 103 = .ok (.bipush 6, 2) := by decide +kernel
theorem dX1_levelStand_105 : decode cX1_levelStand 105 = .ok (.ireturn, 1) := by decide +kernel
set_option maxRecDepth 20000 in
theorem ggX1_stand_X1_outside : GoodIn wsX1_stand wsX1_outside := goodIn_r _ [5] (by decide +kernel) (by decide +kernel)
set_option maxRecDepth 20000 in
theorem gX1_stand_X1_outside : GoodIn wsX1_stand (va_wsS RX1 62 yX1_outside wsX1_outside) := goodIn_app (goodIn_of _ (by decide +kernel)) ggX1_stand_X1_outside
set_option maxRecDepth 20000 in
theorem ggX1_stand_X1_throwing : GoodIn wsX1_stand wsX1_throwing := goodIn_r _ [9, 10, 38, 39, 40, 41, 42, 43, 44, 45, 46, 47] (by decide +kernel) (by decide +kernel)
set_option maxRecDepth 20000 in
theorem gX1_stand_X1_throwing : GoodIn wsX1_stand (wsV RX1 70 RX1 yX1_throwing wsX1_throwing) := goodIn_app (goodIn_of _ (by decide +kernel)) ggX1_stand_X1_throwing
set_option maxRecDepth 20000 in
theorem ggX1_stand_X1_markWay : GoodIn wsX1_stand wsX1_markWay := goodIn_r _ [14, 1, 15, 16, 17, 18, 4, 19, 20, 21, 22, 23, 24, 25, 26, 27, 28, 29, 30, 31, 32, 33, 38, 39, 40, 41, 42, 43, 44, 45, 46, 47] (by decide +kernel) (by decide +kernel)
set_option maxRecDepth 20000 in
theorem gX1_stand_X1_markWay : GoodIn wsX1_stand (wsV RX1 99 RX1 yX1_markWay wsX1_markWay) := goodIn_app (goodIn_of _ (by decide +kernel)) ggX1_stand_X1_markWay
set_option maxRecDepth 20000 in
theorem ggX1_stand_X1_levelStand : GoodIn wsX1_stand wsX1_levelStand := goodIn_r _ [37, 20, 1, 11, 12, 13, 4, 14, 15, 16, 17, 18, 19, 21, 22, 23, 24, 25, 26, 27, 28, 29, 30, 31, 32, 33, 38, 39, 40, 41, 42, 43, 44, 45, 46, 47] (by decide +kernel) (by decide +kernel)
set_option maxRecDepth 20000 in
theorem gX1_stand_X1_levelStand : GoodIn wsX1_stand (wsV RX1 102 RX1 yX1_levelStand wsX1_levelStand) := goodIn_app (goodIn_of _ (by decide +kernel)) ggX1_stand_X1_levelStand
theorem dX1_stand_0 : decode cX1_stand 0 = .ok (.aload_n 0, 1) := by decide +kernel
theorem dX1_stand_1 : decode cX1_stand 1 = .ok (.iload_n 1, 1) := by decide +kernel
theorem dX1_stand_2 : decode cX1_stand 2 = .ok (.iconst 5, 1) := by decide +kernel
theorem dX1_stand_3 : decode cX1_stand 3 = .ok (.invokestatic 62, 3) := by decide +kernel
theorem dX1_stand_6 : decode cX1_stand 6 = .ok (.iconst 0, 1) := by decide +kernel
theorem dX1_stand_7 : decode cX1_stand 7 = .ok (.iconst 0, 1) := by decide +kernel
theorem dX1_stand_8 : decode cX1_stand 8 = .ok (.invokevirtual 70, 3) := by decide +kernel
theorem dX1_stand_11 : decode cX1_stand 11 = .ok (.ifCond .eq 5, 3) := by decide +kernel
theorem dX1_stand_14 : decode cX1_stand 14 = .ok (.iconst 0, 1) := by decide +kernel
theorem dX1_stand_15 : decode cX1_stand 15 = .ok (.ireturn, 1) := by decide +kernel
theorem dX1_stand_16 : decode cX1_stand 16 = .ok (.aload_n 0, 1) := by decide +kernel
theorem dX1_stand_17 : decode cX1_stand 17 = .ok (.iconst 2, 1) := by decide +kernel
theorem dX1_stand_18 : decode cX1_stand 18 = .ok (.iload_n 1, 1) := by decide +kernel
theorem dX1_stand_19 : decode cX1_stand 19 = .ok (.imul, 1) := by decide +kernel
theorem dX1_stand_20 : decode cX1_stand 20 = .ok (.iconst 1, 1) := by decide +kernel
theorem dX1_stand_21 : decode cX1_stand 21 = .ok (.iadd, 1) := by decide +kernel
theorem dX1_stand_22 : decode cX1_stand 22 = .ok (.iconst 3, 1) := by decide +kernel
theorem dX1_stand_23 : decode cX1_stand 23 = .ok (.iload_n 1, 1) := by decide +kernel
theorem dX1_stand_24 : decode cX1_stand 24 = .ok (.imul, 1) := by decide +kernel
theorem dX1_stand_25 : decode cX1_stand 25 = .ok (.iconst 2, 1) := by decide +kernel
theorem dX1_stand_26 : decode cX1_stand 26 = .ok (.iadd, 1) := by decide +kernel
theorem dX1_stand_27 : decode cX1_stand 27 = .ok (.invokevirtual 99, 3) := by decide +kernel
theorem dX1_stand_30 : decode cX1_stand 30 = .ok (.istore_n 2, 1) := by decide +kernel
theorem dX1_stand_31 : decode cX1_stand 31 = .ok (.iload_n 2, 1) := by decide +kernel
theorem dX1_stand_32 : decode cX1_stand 32 = .ok (.iconst 1, 1) := by decide +kernel
theorem dX1_stand_33 : decode cX1_stand 33 = .ok (.if_icmp .ne 8, 3) := by decide +kernel
theorem dX1_stand_36 : decode cX1_stand 36 = .ok (.bipush 10, 2) := by decide +kernel
theorem dX1_stand_38 : decode cX1_stand 38 = .ok (.goto 33, 3) := by decide +kernel
theorem dX1_stand_41 : decode cX1_stand 41 = .ok (.iload_n 2, 1) := by decide +kernel
theorem dX1_stand_42 : decode cX1_stand 42 = .ok (.bipush 8, 2) := by decide +kernel
theorem dX1_stand_44 : decode cX1_stand 44 = .ok (.if_icmp .ge 8, 3) := by decide +kernel
theorem dX1_stand_47 : decode cX1_stand 47 = .ok (.bipush 20, 2) := by decide +kernel
theorem dX1_stand_49 : decode cX1_stand 49 = .ok (.goto 22, 3) := by decide +kernel
theorem dX1_stand_52 : decode cX1_stand 52 = .ok (.aload_n 0, 1) := by decide +kernel
theorem dX1_stand_53 : decode cX1_stand 53 = .ok (.getfield 24, 3) := by decide +kernel
theorem dX1_stand_56 : decode cX1_stand 56 = .ok (.iconst 3, 1) := by decide +kernel
theorem dX1_stand_57 : decode cX1_stand 57 = .ok (.iload_n 1, 1) := by decide +kernel
theorem dX1_stand_58 : decode cX1_stand 58 = .ok (.imul, 1) := by decide +kernel
theorem dX1_stand_59 : decode cX1_stand 59 = .ok (.iconst 2, 1) := by decide +kernel
theorem dX1_stand_60 : decode cX1_stand 60 = .ok (.iadd, 1) := by decide +kernel
theorem dX1_stand_61 : decode cX1_stand 61 = .ok (.baload, 1) := by decide +kernel
theorem dX1_stand_62 : decode cX1_stand 62 = .ok (.ifCond .eq 8, 3) := by decide +kernel
theorem dX1_stand_65 : decode cX1_stand 65 = .ok (.bipush 30, 2) := by decide +kernel
theorem dX1_stand_67 : decode cX1_stand 67 = .ok (.goto 4, 3) := by decide +kernel
theorem dX1_stand_70 : decode cX1_stand 70 = .ok (.iconst 0, 1) := by decide +kernel
theorem dX1_stand_71 : decode cX1_stand 71 = .ok (.istore_n 3, 1) := by decide +kernel
theorem dX1_stand_72 : decode cX1_stand 72 = .ok (.aload_n 0, 1) := by decide +kernel
theorem dX1_stand_73 : decode cX1_stand 73 = .ok (.iload_n 1, 1) := by decide +kernel
theorem dX1_stand_74 : decode cX1_stand 74 = .ok (.invokevirtual 102, 3) := by decide +kernel
theorem dX1_stand_77 : decode cX1_stand 77 = .ok (.iload_n 3, 1) := by decide +kernel
theorem dX1_stand_78 : decode cX1_stand 78 = .ok (.iadd, 1) := by decide +kernel
theorem dX1_stand_79 : decode cX1_stand 79 = .ok (.ireturn, 1) := by decide +kernel
set_option maxRecDepth 20000 in
theorem ggX1_isAhead_X1_latestOut : GoodIn wsX1_isAhead wsX1_latestOut := goodIn_r _ [5, 6, 7, 8, 9, 10, 4, 11, 24, 25, 26, 27, 28, 29, 30, 31, 32, 33] (by decide +kernel) (by decide +kernel)
set_option maxRecDepth 20000 in
theorem gX1_isAhead_X1_latestOut : GoodIn wsX1_isAhead (wsV RX1 50 RX1 yX1_latestOut wsX1_latestOut) := goodIn_app (goodIn_of _ (by decide +kernel)) ggX1_isAhead_X1_latestOut
set_option maxRecDepth 20000 in
theorem ggX1_isAhead_X1_latestWay : GoodIn wsX1_isAhead wsX1_latestWay := goodIn_r _ [15, 1, 2, 3, 4, 5, 6, 7, 8, 9, 10, 11, 16, 17, 18, 19, 20, 21, 22, 23, 24, 25, 26, 27, 28, 29, 30, 31, 32, 33] (by decide +kernel) (by decide +kernel)
set_option maxRecDepth 20000 in
theorem gX1_isAhead_X1_latestWay : GoodIn wsX1_isAhead (wsV RX1 96 RX1 yX1_latestWay wsX1_latestWay) := goodIn_app (goodIn_of _ (by decide +kernel)) ggX1_isAhead_X1_latestWay
theorem dX1_isAhead_0 : decode cX1_isAhead 0 = .ok (.aload_n 0, 1) := by decide +kernel
theorem dX1_isAhead_1 : decode cX1_isAhead 1 = .ok (.iconst 2, 1) := by decide +kernel
theorem dX1_isAhead_2 : decode cX1_isAhead 2 = .ok (.iload_n 1, 1) := by decide +kernel
theorem dX1_isAhead_3 : decode cX1_isAhead 3 = .ok (.imul, 1) := by decide +kernel
theorem dX1_isAhead_4 : decode cX1_isAhead 4 = .ok (.invokevirtual 50, 3) := by decide +kernel
theorem dX1_isAhead_7 : decode cX1_isAhead 7 = .ok (.istore_n 3, 1) := by decide +kernel
theorem dX1_isAhead_8 : decode cX1_isAhead 8 = .ok (.aload_n 0, 1) := by decide +kernel
theorem dX1_isAhead_9 : decode cX1_isAhead 9 = .ok (.iconst 2, 1) := by decide +kernel
theorem dX1_isAhead_10 : decode cX1_isAhead 10 = .ok (.iload_n 2, 1) := by decide +kernel
theorem dX1_isAhead_11 : decode cX1_isAhead 11 = .ok (.imul, 1) := by decide +kernel
theorem dX1_isAhead_12 : decode cX1_isAhead 12 = .ok (.invokevirtual 50, 3) := by decide +kernel
theorem dX1_isAhead_15 : decode cX1_isAhead 15 = .ok (.istore 4, 2) := by decide +kernel
theorem dX1_isAhead_17 : decode cX1_isAhead 17 = .ok (.iload_n 3, 1) := by decide +kernel
theorem dX1_isAhead_18 : decode cX1_isAhead 18 = .ok (.iload 4, 2) := by decide +kernel
theorem dX1_isAhead_20 : decode cX1_isAhead 20 = .ok (.if_icmp .eq 6, 3) := by decide +kernel
theorem dX1_isAhead_23 : decode cX1_isAhead 23 = .ok (.iload 4, 2) := by decide +kernel
theorem dX1_isAhead_25 : decode cX1_isAhead 25 = .ok (.ireturn, 1) := by decide +kernel
theorem dX1_isAhead_26 : decode cX1_isAhead 26 = .ok (.aload_n 0, 1) := by decide +kernel
theorem dX1_isAhead_27 : decode cX1_isAhead 27 = .ok (.iconst 2, 1) := by decide +kernel
theorem dX1_isAhead_28 : decode cX1_isAhead 28 = .ok (.iload_n 1, 1) := by decide +kernel
theorem dX1_isAhead_29 : decode cX1_isAhead 29 = .ok (.imul, 1) := by decide +kernel
theorem dX1_isAhead_30 : decode cX1_isAhead 30 = .ok (.iconst 2, 1) := by decide +kernel
theorem dX1_isAhead_31 : decode cX1_isAhead 31 = .ok (.iload_n 2, 1) := by decide +kernel
theorem dX1_isAhead_32 : decode cX1_isAhead 32 = .ok (.imul, 1) := by decide +kernel
theorem dX1_isAhead_33 : decode cX1_isAhead 33 = .ok (.invokevirtual 96, 3) := by decide +kernel
theorem dX1_isAhead_36 : decode cX1_isAhead 36 = .ok (.istore 5, 2) := by decide +kernel
theorem dX1_isAhead_38 : decode cX1_isAhead 38 = .ok (.iload 5, 2) := by decide +kernel
theorem dX1_isAhead_40 : decode cX1_isAhead 40 = .ok (.iconst 4, 1) := by decide +kernel
theorem dX1_isAhead_41 : decode cX1_isAhead 41 = .ok (.if_icmp .eq 14, 3) := by decide +kernel
theorem dX1_isAhead_44 : decode cX1_isAhead 44 = .ok (.iload 5, 2) := by decide +kernel
theorem dX1_isAhead_46 : decode cX1_isAhead 46 = .ok (.iconst 1, 1) := by decide +kernel
theorem dX1_isAhead_47 : decode cX1_isAhead 47 = .ok (.if_icmp .eq 12, 3) := by decide +kernel
theorem dX1_isAhead_50 : decode cX1_isAhead 50 = .ok (.iload_n 1, 1) := by decide +kernel
theorem dX1_isAhead_51 : decode cX1_isAhead 51 = .ok (.iload_n 2, 1) := by decide +kernel
theorem dX1_isAhead_52 : decode cX1_isAhead 52 = .ok (.if_icmp .ge 7, 3) := by decide +kernel
theorem dX1_isAhead_55 : decode cX1_isAhead 55 = .ok (.iconst 1, 1) := by decide +kernel
theorem dX1_isAhead_56 : decode cX1_isAhead 56 = .ok (.goto 4, 3) := by decide +kernel
theorem dX1_isAhead_59 : decode cX1_isAhead 59 = .ok (.iconst 0, 1) := by decide +kernel
theorem dX1_isAhead_60 : decode cX1_isAhead 60 = .ok (.ireturn, 1) := by decide +kernel
set_option maxRecDepth 20000 in
theorem ggX1_order_X1_outside : GoodIn wsX1_order wsX1_outside := goodIn_r _ [4] (by decide +kernel) (by decide +kernel)
set_option maxRecDepth 20000 in
theorem gX1_order_X1_outside : GoodIn wsX1_order (va_wsS RX1 62 yX1_outside wsX1_outside) := goodIn_app (goodIn_of _ (by decide +kernel)) ggX1_order_X1_outside
set_option maxRecDepth 20000 in
theorem ggX1_order_X1_throwing : GoodIn wsX1_order wsX1_throwing := goodIn_r _ [8, 9, 36, 37, 38, 39, 40, 41, 42, 43, 44, 45] (by decide +kernel) (by decide +kernel)
set_option maxRecDepth 20000 in
theorem gX1_order_X1_throwing : GoodIn wsX1_order (wsV RX1 70 RX1 yX1_throwing wsX1_throwing) := goodIn_app (goodIn_of _ (by decide +kernel)) ggX1_order_X1_throwing
set_option maxRecDepth 20000 in
theorem ggX1_order_X1_isAhead : GoodIn wsX1_order wsX1_isAhead := goodIn_r _ [13, 14, 15, 16, 3, 17, 18, 19, 20, 21, 22, 23, 24, 25, 26, 27, 28, 29, 30, 31, 32, 33, 34, 35, 36, 37, 38, 39, 40, 41, 42, 43, 44, 45] (by decide +kernel) (by decide +kernel)
set_option maxRecDepth 20000 in
theorem gX1_order_X1_isAhead : GoodIn wsX1_order (wsV RX1 105 RX1 yX1_isAhead wsX1_isAhead) := goodIn_app (goodIn_of _ (by decide +kernel)) ggX1_order_X1_isAhead
theorem dX1_order_0 : decode cX1_order 0 = .ok (.aload_n 0, 1) := by decide +kernel
theorem dX1_order_1 : decode cX1_order 1 = .ok (.iload_n 1, 1) := by decide +kernel
theorem dX1_order_2 : decode cX1_order 2 = .ok (.iconst 5, 1) := by decide +kernel
theorem dX1_order_3 : decode cX1_order 3 = .ok (.invokestatic 62, 3) := by decide +kernel
theorem dX1_order_6 : decode cX1_order 6 = .ok (.iconst 0, 1) := by decide +kernel
theorem dX1_order_7 : decode cX1_order 7 = .ok (.iconst 0, 1) := by decide +kernel
theorem dX1_order_8 : decode cX1_order 8 = .ok (.invokevirtual 70, 3) := by decide +kernel
theorem dX1_order_11 : decode cX1_order 11 = .ok (.ifCond .eq 5, 3) := by decide +kernel
theorem dX1_order_14 : decode cX1_order 14 = .ok (.iconst 0, 1) := by decide +kernel
theorem dX1_order_15 : decode cX1_order 15 = .ok (.ireturn, 1) := by decide +kernel
theorem dX1_order_16 : decode cX1_order 16 = .ok (.iconst 0, 1) := by decide +kernel
theorem dX1_order_17 : decode cX1_order 17 = .ok (.istore_n 2, 1) := by decide +kernel
theorem dX1_order_18 : decode cX1_order 18 = .ok (.iconst 0, 1) := by decide +kernel
theorem dX1_order_19 : decode cX1_order 19 = .ok (.istore_n 3, 1) := by decide +kernel
theorem dX1_order_20 : decode cX1_order 20 = .ok (.iload_n 3, 1) := by decide +kernel
theorem dX1_order_21 : decode cX1_order 21 = .ok (.bipush 6, 2) := by decide +kernel
theorem dX1_order_23 : decode cX1_order 23 = .ok (.if_icmp .ge 67, 3) := by decide +kernel
theorem dX1_order_26 : decode cX1_order 26 = .ok (.iconst 0, 1) := by decide +kernel
theorem dX1_order_27 : decode cX1_order 27 = .ok (.istore 4, 2) := by decide +kernel
theorem dX1_order_29 : decode cX1_order 29 = .ok (.iconst 0, 1) := by decide +kernel
theorem dX1_order_30 : decode cX1_order 30 = .ok (.istore 5, 2) := by decide +kernel
theorem dX1_order_32 : decode cX1_order 32 = .ok (.iload 5, 2) := by decide +kernel
theorem dX1_order_34 : decode cX1_order 34 = .ok (.bipush 6, 2) := by decide +kernel
theorem dX1_order_36 : decode cX1_order 36 = .ok (.if_icmp .ge 36, 3) := by decide +kernel
theorem dX1_order_39 : decode cX1_order 39 = .ok (.iload 5, 2) := by decide +kernel
theorem dX1_order_41 : decode cX1_order 41 = .ok (.iload_n 3, 1) := by decide +kernel
theorem dX1_order_42 : decode cX1_order 42 = .ok (.if_icmp .eq 20, 3) := by decide +kernel
theorem dX1_order_45 : decode cX1_order 45 = .ok (.aload_n 0, 1) := by decide +kernel
theorem dX1_order_46 : decode cX1_order 46 = .ok (.iload 5, 2) := by decide +kernel
theorem dX1_order_48 : decode cX1_order 48 = .ok (.iload_n 3, 1) := by decide +kernel
theorem dX1_order_49 : decode cX1_order 49 = .ok (.invokevirtual 105, 3) := by decide +kernel
theorem dX1_order_52 : decode cX1_order 52 = .ok (.ifCond .eq 10, 3) := by decide +kernel
theorem dX1_order_55 : decode cX1_order 55 = .ok (.iload 4, 2) := by decide +kernel
theorem dX1_order_57 : decode cX1_order 57 = .ok (.iconst 1, 1) := by decide +kernel
theorem dX1_order_58 : decode cX1_order 58 = .ok (.iadd, 1) := by decide +kernel
theorem dX1_order_59 : decode cX1_order 59 = .ok (.goto 5, 3) := by decide +kernel
theorem dX1_order_62 : decode cX1_order 62 = .ok (.iload 4, 2) := by decide +kernel
theorem dX1_order_64 : decode cX1_order 64 = .ok (.istore 4, 2) := by decide +kernel
theorem dX1_order_66 : decode cX1_order 66 = .ok (.iinc 5 1, 3) := by decide +kernel
theorem dX1_order_69 : decode cX1_order 69 = .ok (.goto (-37), 3) := by decide +kernel
theorem dX1_order_72 : decode cX1_order 72 = .ok (.iload 4, 2) := by decide +kernel
theorem dX1_order_74 : decode cX1_order 74 = .ok (.iload_n 1, 1) := by decide +kernel
theorem dX1_order_75 : decode cX1_order 75 = .ok (.if_icmp .ne 7, 3) := by decide +kernel
theorem dX1_order_78 : decode cX1_order 78 = .ok (.iload_n 3, 1) := by decide +kernel
theorem dX1_order_79 : decode cX1_order 79 = .ok (.goto 4, 3) := by decide +kernel
theorem dX1_order_82 : decode cX1_order 82 = .ok (.iload_n 2, 1) := by decide +kernel
theorem dX1_order_83 : decode cX1_order 83 = .ok (.istore_n 2, 1) := by decide +kernel
theorem dX1_order_84 : decode cX1_order 84 = .ok (.iinc 3 1, 3) := by decide +kernel
theorem dX1_order_87 : decode cX1_order 87 = .ok (.goto (-67), 3) := by decide +kernel
theorem dX1_order_90 : decode cX1_order 90 = .ok (.iload_n 2, 1) := by decide +kernel
theorem dX1_order_91 : decode cX1_order 91 = .ok (.ireturn, 1) := by decide +kernel
set_option maxRecDepth 20000 in
theorem ggX1_best_X1_way : GoodIn wsX1_best wsX1_way := goodIn_r _ [7] (by decide +kernel) (by decide +kernel)
set_option maxRecDepth 20000 in
theorem gX1_best_X1_way : GoodIn wsX1_best (va_wsS RX1 58 yX1_way wsX1_way) := goodIn_app (goodIn_of _ (by decide +kernel)) ggX1_best_X1_way
theorem dX1_best_0 : decode cX1_best 0 = .ok (.iconst (-1), 1) := by decide +kernel
theorem dX1_best_1 : decode cX1_best 1 = .ok (.istore_n 3, 1) := by decide +kernel
theorem dX1_best_2 : decode cX1_best 2 = .ok (.bipush 12, 2) := by decide +kernel
theorem dX1_best_4 : decode cX1_best 4 = .ok (.iload_n 1, 1) := by decide +kernel
theorem dX1_best_5 : decode cX1_best 5 = .ok (.imul, 1) := by decide +kernel
theorem dX1_best_6 : decode cX1_best 6 = .ok (.istore 4, 2) := by decide +kernel
theorem dX1_best_8 : decode cX1_best 8 = .ok (.iload 4, 2) := by decide +kernel
theorem dX1_best_10 : decode cX1_best 10 = .ok (.bipush 12, 2) := by decide +kernel
theorem dX1_best_12 : decode cX1_best 12 = .ok (.iload_n 1, 1) := by decide +kernel
theorem dX1_best_13 : decode cX1_best 13 = .ok (.imul, 1) := by decide +kernel
theorem dX1_best_14 : decode cX1_best 14 = .ok (.aload_n 0, 1) := by decide +kernel
theorem dX1_best_15 : decode cX1_best 15 = .ok (.getfield 17, 3) := by decide +kernel
theorem dX1_best_18 : decode cX1_best 18 = .ok (.iload_n 1, 1) := by decide +kernel
theorem dX1_best_19 : decode cX1_best 19 = .ok (.iaload, 1) := by decide +kernel
theorem dX1_best_20 : decode cX1_best 20 = .ok (.iadd, 1) := by decide +kernel
theorem dX1_best_21 : decode cX1_best 21 = .ok (.if_icmp .ge 63, 3) := by decide +kernel
theorem dX1_best_24 : decode cX1_best 24 = .ok (.aload_n 0, 1) := by decide +kernel
theorem dX1_best_25 : decode cX1_best 25 = .ok (.getfield 13, 3) := by decide +kernel
theorem dX1_best_28 : decode cX1_best 28 = .ok (.iload 4, 2) := by decide +kernel
theorem dX1_best_30 : decode cX1_best 30 = .ok (.baload, 1) := by decide +kernel
theorem dX1_best_31 : decode cX1_best 31 = .ok (.ifCond .ne 32, 3) := by decide +kernel
theorem dX1_best_34 : decode cX1_best 34 = .ok (.iload_n 3, 1) := by decide +kernel
theorem dX1_best_35 : decode cX1_best 35 = .ok (.ifCond .lt 24, 3) := by decide +kernel
theorem dX1_best_38 : decode cX1_best 38 = .ok (.iconst 0, 1) := by decide +kernel
theorem dX1_best_39 : decode cX1_best 39 = .ok (.aload_n 0, 1) := by decide +kernel
theorem dX1_best_40 : decode cX1_best 40 = .ok (.getfield 7, 3) := by decide +kernel
theorem dX1_best_43 : decode cX1_best 43 = .ok (.iload 4, 2) := by decide +kernel
theorem dX1_best_45 : decode cX1_best 45 = .ok (.daload, 1) := by decide +kernel
theorem dX1_best_46 : decode cX1_best 46 = .ok (.aload_n 0, 1) := by decide +kernel
theorem dX1_best_47 : decode cX1_best 47 = .ok (.getfield 7, 3) := by decide +kernel
theorem dX1_best_50 : decode cX1_best 50 = .ok (.iload_n 3, 1) := by decide +kernel
theorem dX1_best_51 : decode cX1_best 51 = .ok (.daload, 1) := by decide +kernel
theorem dX1_best_52 : decode cX1_best 52 = .ok (.invokestatic 58, 3) := by decide +kernel
theorem dX1_best_55 : decode cX1_best 55 = .ok (.iload_n 2, 1) := by decide +kernel
theorem dX1_best_56 : decode cX1_best 56 = .ok (.if_icmp .ne 7, 3) := by decide +kernel
theorem dX1_best_59 : decode cX1_best 59 = .ok (.iconst 1, 1) := by decide +kernel
theorem dX1_best_60 : decode cX1_best 60 = .ok (.goto 4, 3) := by decide +kernel
theorem dX1_best_63 : decode cX1_best 63 = .ok (.iconst 0, 1) := by decide +kernel
theorem dX1_best_64 : decode cX1_best 64 = .ok (.istore 5, 2) := by decide +kernel
theorem dX1_best_66 : decode cX1_best 66 = .ok (.iload 5, 2) := by decide +kernel
theorem dX1_best_68 : decode cX1_best 68 = .ok (.ifCond .eq 8, 3) := by decide +kernel
theorem dX1_best_71 : decode cX1_best 71 = .ok (.iload 4, 2) := by decide +kernel
theorem dX1_best_73 : decode cX1_best 73 = .ok (.goto 4, 3) := by decide +kernel
theorem dX1_best_76 : decode cX1_best 76 = .ok (.iload_n 3, 1) := by decide +kernel
theorem dX1_best_77 : decode cX1_best 77 = .ok (.istore_n 3, 1) := by decide +kernel
theorem dX1_best_78 : decode cX1_best 78 = .ok (.iinc 4 1, 3) := by decide +kernel
theorem dX1_best_81 : decode cX1_best 81 = .ok (.goto (-73), 3) := by decide +kernel
theorem dX1_best_84 : decode cX1_best 84 = .ok (.iload_n 3, 1) := by decide +kernel
theorem dX1_best_85 : decode cX1_best 85 = .ok (.ireturn, 1) := by decide +kernel
set_option maxRecDepth 20000 in
theorem ggX1_highest_X1_outside : GoodIn wsX1_highest wsX1_outside := goodIn_r _ [5] (by decide +kernel) (by decide +kernel)
set_option maxRecDepth 20000 in
theorem gX1_highest_X1_outside : GoodIn wsX1_highest (va_wsS RX1 62 yX1_outside wsX1_outside) := goodIn_app (goodIn_of _ (by decide +kernel)) ggX1_highest_X1_outside
set_option maxRecDepth 20000 in
theorem ggX1_highest_X1_best : GoodIn wsX1_highest wsX1_best := goodIn_r _ [9, 10, 11, 1, 12, 13, 4, 14, 20, 21, 22, 23, 24, 25, 26, 27, 28, 29] (by decide +kernel) (by decide +kernel)
set_option maxRecDepth 20000 in
theorem gX1_highest_X1_best : GoodIn wsX1_highest (wsV RX1 108 RX1 yX1_best wsX1_best) := goodIn_app (goodIn_of _ (by decide +kernel)) ggX1_highest_X1_best
set_option maxRecDepth 20000 in
theorem ggX1_highest_X1_throwing : GoodIn wsX1_highest wsX1_throwing := goodIn_r _ [18, 19, 20, 21, 22, 23, 24, 25, 26, 27, 28, 29] (by decide +kernel) (by decide +kernel)
set_option maxRecDepth 20000 in
theorem gX1_highest_X1_throwing : GoodIn wsX1_highest (wsV RX1 70 RX1 yX1_throwing wsX1_throwing) := goodIn_app (goodIn_of _ (by decide +kernel)) ggX1_highest_X1_throwing
theorem dX1_highest_0 : decode cX1_highest 0 = .ok (.iload_n 1, 1) := by decide +kernel
theorem dX1_highest_1 : decode cX1_highest 1 = .ok (.iconst 5, 1) := by decide +kernel
theorem dX1_highest_2 : decode cX1_highest 2 = .ok (.invokestatic 62, 3) := by decide +kernel
theorem dX1_highest_5 : decode cX1_highest 5 = .ok (.istore_n 2, 1) := by decide +kernel
theorem dX1_highest_6 : decode cX1_highest 6 = .ok (.iload_n 2, 1) := by decide +kernel
theorem dX1_highest_7 : decode cX1_highest 7 = .ok (.ifCond .eq 7, 3) := by decide +kernel
theorem dX1_highest_10 : decode cX1_highest 10 = .ok (.iconst (-1), 1) := by decide +kernel
theorem dX1_highest_11 : decode cX1_highest 11 = .ok (.goto 11, 3) := by decide +kernel
theorem dX1_highest_14 : decode cX1_highest 14 = .ok (.aload_n 0, 1) := by decide +kernel
theorem dX1_highest_15 : decode cX1_highest 15 = .ok (.iconst 2, 1) := by decide +kernel
theorem dX1_highest_16 : decode cX1_highest 16 = .ok (.iload_n 1, 1) := by decide +kernel
theorem dX1_highest_17 : decode cX1_highest 17 = .ok (.imul, 1) := by decide +kernel
theorem dX1_highest_18 : decode cX1_highest 18 = .ok (.iconst 4, 1) := by decide +kernel
theorem dX1_highest_19 : decode cX1_highest 19 = .ok (.invokevirtual 108, 3) := by decide +kernel
theorem dX1_highest_22 : decode cX1_highest 22 = .ok (.istore_n 3, 1) := by decide +kernel
theorem dX1_highest_23 : decode cX1_highest 23 = .ok (.aload_n 0, 1) := by decide +kernel
theorem dX1_highest_24 : decode cX1_highest 24 = .ok (.iload_n 2, 1) := by decide +kernel
theorem dX1_highest_25 : decode cX1_highest 25 = .ok (.iload_n 3, 1) := by decide +kernel
theorem dX1_highest_26 : decode cX1_highest 26 = .ok (.ifCond .ge 7, 3) := by decide +kernel
theorem dX1_highest_29 : decode cX1_highest 29 = .ok (.iconst 1, 1) := by decide +kernel
theorem dX1_highest_30 : decode cX1_highest 30 = .ok (.goto 4, 3) := by decide +kernel
theorem dX1_highest_33 : decode cX1_highest 33 = .ok (.iconst 0, 1) := by decide +kernel
theorem dX1_highest_34 : decode cX1_highest 34 = .ok (.iconst 0, 1) := by decide +kernel
theorem dX1_highest_35 : decode cX1_highest 35 = .ok (.invokevirtual 70, 3) := by decide +kernel
theorem dX1_highest_38 : decode cX1_highest 38 = .ok (.ifCond .eq 5, 3) := by decide +kernel
theorem dX1_highest_41 : decode cX1_highest 41 = .ok (.dconst 0, 1) := by decide +kernel
theorem dX1_highest_42 : decode cX1_highest 42 = .ok (.dreturn, 1) := by decide +kernel
theorem dX1_highest_43 : decode cX1_highest 43 = .ok (.aload_n 0, 1) := by decide +kernel
theorem dX1_highest_44 : decode cX1_highest 44 = .ok (.getfield 7, 3) := by decide +kernel
theorem dX1_highest_47 : decode cX1_highest 47 = .ok (.iload_n 3, 1) := by decide +kernel
theorem dX1_highest_48 : decode cX1_highest 48 = .ok (.daload, 1) := by decide +kernel
theorem dX1_highest_49 : decode cX1_highest 49 = .ok (.dreturn, 1) := by decide +kernel
set_option maxRecDepth 20000 in
theorem ggX1_calmest_X1_outside : GoodIn wsX1_calmest wsX1_outside := goodIn_r _ [5] (by decide +kernel) (by decide +kernel)
set_option maxRecDepth 20000 in
theorem gX1_calmest_X1_outside : GoodIn wsX1_calmest (va_wsS RX1 62 yX1_outside wsX1_outside) := goodIn_app (goodIn_of _ (by decide +kernel)) ggX1_calmest_X1_outside
set_option maxRecDepth 20000 in
theorem ggX1_calmest_X1_best : GoodIn wsX1_calmest wsX1_best := goodIn_r _ [9, 10, 11, 1, 12, 13, 4, 14, 20, 21, 22, 23, 24, 25, 26, 27, 28, 29] (by decide +kernel) (by decide +kernel)
set_option maxRecDepth 20000 in
theorem gX1_calmest_X1_best : GoodIn wsX1_calmest (wsV RX1 108 RX1 yX1_best wsX1_best) := goodIn_app (goodIn_of _ (by decide +kernel)) ggX1_calmest_X1_best
set_option maxRecDepth 20000 in
theorem ggX1_calmest_X1_throwing : GoodIn wsX1_calmest wsX1_throwing := goodIn_r _ [18, 19, 20, 21, 22, 23, 24, 25, 26, 27, 28, 29] (by decide +kernel) (by decide +kernel)
set_option maxRecDepth 20000 in
theorem gX1_calmest_X1_throwing : GoodIn wsX1_calmest (wsV RX1 70 RX1 yX1_throwing wsX1_throwing) := goodIn_app (goodIn_of _ (by decide +kernel)) ggX1_calmest_X1_throwing
theorem dX1_calmest_0 : decode cX1_calmest 0 = .ok (.iload_n 1, 1) := by decide +kernel
theorem dX1_calmest_1 : decode cX1_calmest 1 = .ok (.iconst 5, 1) := by decide +kernel
theorem dX1_calmest_2 : decode cX1_calmest 2 = .ok (.invokestatic 62, 3) := by decide +kernel
theorem dX1_calmest_5 : decode cX1_calmest 5 = .ok (.istore_n 2, 1) := by decide +kernel
theorem dX1_calmest_6 : decode cX1_calmest 6 = .ok (.iload_n 2, 1) := by decide +kernel
theorem dX1_calmest_7 : decode cX1_calmest 7 = .ok (.ifCond .eq 7, 3) := by decide +kernel
theorem dX1_calmest_10 : decode cX1_calmest 10 = .ok (.iconst (-1), 1) := by decide +kernel
theorem dX1_calmest_11 : decode cX1_calmest 11 = .ok (.goto 13, 3) := by decide +kernel
theorem dX1_calmest_14 : decode cX1_calmest 14 = .ok (.aload_n 0, 1) := by decide +kernel
theorem dX1_calmest_15 : decode cX1_calmest 15 = .ok (.iconst 2, 1) := by decide +kernel
theorem dX1_calmest_16 : decode cX1_calmest 16 = .ok (.iload_n 1, 1) := by decide +kernel
theorem dX1_calmest_17 : decode cX1_calmest 17 = .ok (.imul, 1) := by decide +kernel
theorem dX1_calmest_18 : decode cX1_calmest 18 = .ok (.iconst 1, 1) := by decide +kernel
theorem dX1_calmest_19 : decode cX1_calmest 19 = .ok (.iadd, 1) := by decide +kernel
theorem dX1_calmest_20 : decode cX1_calmest 20 = .ok (.iconst 1, 1) := by decide +kernel
theorem dX1_calmest_21 : decode cX1_calmest 21 = .ok (.invokevirtual 108, 3) := by decide +kernel
theorem dX1_calmest_24 : decode cX1_calmest 24 = .ok (.istore_n 3, 1) := by decide +kernel
theorem dX1_calmest_25 : decode cX1_calmest 25 = .ok (.aload_n 0, 1) := by decide +kernel
theorem dX1_calmest_26 : decode cX1_calmest 26 = .ok (.iload_n 2, 1) := by decide +kernel
theorem dX1_calmest_27 : decode cX1_calmest 27 = .ok (.iload_n 3, 1) := by decide +kernel
theorem dX1_calmest_28 : decode cX1_calmest 28 = .ok (.ifCond .ge 7, 3) := by decide +kernel
theorem dX1_calmest_31 : decode cX1_calmest 31 = .ok (.iconst 1, 1) := by decide +kernel
theorem dX1_calmest_32 : decode cX1_calmest 32 = .ok (.goto 4, 3) := by decide +kernel
theorem dX1_calmest_35 : decode cX1_calmest 35 = .ok (.iconst 0, 1) := by decide +kernel
theorem dX1_calmest_36 : decode cX1_calmest 36 = .ok (.iconst 0, 1) := by decide +kernel
theorem dX1_calmest_37 : decode cX1_calmest 37 = .ok (.invokevirtual 70, 3) := by decide +kernel
theorem dX1_calmest_40 : decode cX1_calmest 40 = .ok (.ifCond .eq 5, 3) := by decide +kernel
theorem dX1_calmest_43 : decode cX1_calmest 43 = .ok (.fconst 0, 1) := by decide +kernel
theorem dX1_calmest_44 : decode cX1_calmest 44 = .ok (.freturn, 1) := by decide +kernel
theorem dX1_calmest_45 : decode cX1_calmest 45 = .ok (.aload_n 0, 1) := by decide +kernel
theorem dX1_calmest_46 : decode cX1_calmest 46 = .ok (.getfield 7, 3) := by decide +kernel
theorem dX1_calmest_49 : decode cX1_calmest 49 = .ok (.iload_n 3, 1) := by decide +kernel
theorem dX1_calmest_50 : decode cX1_calmest 50 = .ok (.daload, 1) := by decide +kernel
theorem dX1_calmest_51 : decode cX1_calmest 51 = .ok (.d2f, 1) := by decide +kernel
theorem dX1_calmest_52 : decode cX1_calmest 52 = .ok (.freturn, 1) := by decide +kernel
set_option maxRecDepth 20000 in
theorem ggX1_same_X1_outside : GoodIn wsX1_same wsX1_outside := goodIn_r _ [7] (by decide +kernel) (by decide +kernel)
set_option maxRecDepth 20000 in
theorem gX1_same_X1_outside : GoodIn wsX1_same (va_wsS RX1 62 yX1_outside wsX1_outside) := goodIn_app (goodIn_of _ (by decide +kernel)) ggX1_same_X1_outside
set_option maxRecDepth 20000 in
theorem ggX1_same_X1_throwing : GoodIn wsX1_same wsX1_throwing := goodIn_r _ [11, 12, 16, 17, 18, 19, 20, 21, 22, 23, 24, 25] (by decide +kernel) (by decide +kernel)
set_option maxRecDepth 20000 in
theorem gX1_same_X1_throwing : GoodIn wsX1_same (wsV RX1 70 RX1 yX1_throwing wsX1_throwing) := goodIn_app (goodIn_of _ (by decide +kernel)) ggX1_same_X1_throwing
set_option maxRecDepth 20000 in
theorem ggX1_same_X1_way : GoodIn wsX1_same wsX1_way := goodIn_r _ [15] (by decide +kernel) (by decide +kernel)
set_option maxRecDepth 20000 in
theorem gX1_same_X1_way : GoodIn wsX1_same (va_wsS RX1 58 yX1_way wsX1_way) := goodIn_app (goodIn_of _ (by decide +kernel)) ggX1_same_X1_way
theorem dX1_same_0 : decode cX1_same 0 = .ok (.aload_n 0, 1) := by decide +kernel
theorem dX1_same_1 : decode cX1_same 1 = .ok (.iload_n 1, 1) := by decide +kernel
theorem dX1_same_2 : decode cX1_same 2 = .ok (.iconst 5, 1) := by decide +kernel
theorem dX1_same_3 : decode cX1_same 3 = .ok (.invokestatic 62, 3) := by decide +kernel
theorem dX1_same_6 : decode cX1_same 6 = .ok (.ifCond .ne 11, 3) := by decide +kernel
theorem dX1_same_9 : decode cX1_same 9 = .ok (.iload_n 2, 1) := by decide +kernel
theorem dX1_same_10 : decode cX1_same 10 = .ok (.iconst 5, 1) := by decide +kernel
theorem dX1_same_11 : decode cX1_same 11 = .ok (.invokestatic 62, 3) := by decide +kernel
theorem dX1_same_14 : decode cX1_same 14 = .ok (.ifCond .eq 7, 3) := by decide +kernel
theorem dX1_same_17 : decode cX1_same 17 = .ok (.iconst 1, 1) := by decide +kernel
theorem dX1_same_18 : decode cX1_same 18 = .ok (.goto 4, 3) := by decide +kernel
theorem dX1_same_21 : decode cX1_same 21 = .ok (.iconst 0, 1) := by decide +kernel
theorem dX1_same_22 : decode cX1_same 22 = .ok (.iconst 0, 1) := by decide +kernel
theorem dX1_same_23 : decode cX1_same 23 = .ok (.iconst 0, 1) := by decide +kernel
theorem dX1_same_24 : decode cX1_same 24 = .ok (.invokevirtual 70, 3) := by decide +kernel
theorem dX1_same_27 : decode cX1_same 27 = .ok (.ifCond .eq 5, 3) := by decide +kernel
theorem dX1_same_30 : decode cX1_same 30 = .ok (.iconst 0, 1) := by decide +kernel
theorem dX1_same_31 : decode cX1_same 31 = .ok (.ireturn, 1) := by decide +kernel
theorem dX1_same_32 : decode cX1_same 32 = .ok (.bipush 24, 2) := by decide +kernel
theorem dX1_same_34 : decode cX1_same 34 = .ok (.iload_n 1, 1) := by decide +kernel
theorem dX1_same_35 : decode cX1_same 35 = .ok (.imul, 1) := by decide +kernel
theorem dX1_same_36 : decode cX1_same 36 = .ok (.istore_n 3, 1) := by decide +kernel
theorem dX1_same_37 : decode cX1_same 37 = .ok (.bipush 24, 2) := by decide +kernel
theorem dX1_same_39 : decode cX1_same 39 = .ok (.iload_n 2, 1) := by decide +kernel
theorem dX1_same_40 : decode cX1_same 40 = .ok (.imul, 1) := by decide +kernel
theorem dX1_same_41 : decode cX1_same 41 = .ok (.istore 4, 2) := by decide +kernel
theorem dX1_same_43 : decode cX1_same 43 = .ok (.aload_n 0, 1) := by decide +kernel
theorem dX1_same_44 : decode cX1_same 44 = .ok (.getfield 17, 3) := by decide +kernel
theorem dX1_same_47 : decode cX1_same 47 = .ok (.iconst 2, 1) := by decide +kernel
theorem dX1_same_48 : decode cX1_same 48 = .ok (.iload_n 1, 1) := by decide +kernel
theorem dX1_same_49 : decode cX1_same 49 = .ok (.imul, 1) := by decide +kernel
theorem dX1_same_50 : decode cX1_same 50 = .ok (.iaload, 1) := by decide +kernel
theorem dX1_same_51 : decode cX1_same 51 = .ok (.aload_n 0, 1) := by decide +kernel
theorem dX1_same_52 : decode cX1_same 52 = .ok (.getfield 17, 3) := by decide +kernel
theorem dX1_same_55 : decode cX1_same 55 = .ok (.iconst 2, 1) := by decide +kernel
theorem dX1_same_56 : decode cX1_same 56 = .ok (.iload_n 2, 1) := by decide +kernel
theorem dX1_same_57 : decode cX1_same 57 = .ok (.imul, 1) := by decide +kernel
theorem dX1_same_58 : decode cX1_same 58 = .ok (.iaload, 1) := by decide +kernel
theorem dX1_same_59 : decode cX1_same 59 = .ok (.if_icmp .ne 7, 3) := by decide +kernel
theorem dX1_same_62 : decode cX1_same 62 = .ok (.iconst 2, 1) := by decide +kernel
theorem dX1_same_63 : decode cX1_same 63 = .ok (.goto 4, 3) := by decide +kernel
theorem dX1_same_66 : decode cX1_same 66 = .ok (.iconst 0, 1) := by decide +kernel
theorem dX1_same_67 : decode cX1_same 67 = .ok (.istore 5, 2) := by decide +kernel
theorem dX1_same_69 : decode cX1_same 69 = .ok (.iconst 0, 1) := by decide +kernel
theorem dX1_same_70 : decode cX1_same 70 = .ok (.istore 6, 2) := by decide +kernel
theorem dX1_same_72 : decode cX1_same 72 = .ok (.iload 6, 2) := by decide +kernel
theorem dX1_same_74 : decode cX1_same 74 = .ok (.aload_n 0, 1) := by decide +kernel
theorem dX1_same_75 : decode cX1_same 75 = .ok (.getfield 17, 3) := by decide +kernel
theorem dX1_same_78 : decode cX1_same 78 = .ok (.iconst 2, 1) := by decide +kernel
theorem dX1_same_79 : decode cX1_same 79 = .ok (.iload_n 1, 1) := by decide +kernel
theorem dX1_same_80 : decode cX1_same 80 = .ok (.imul, 1) := by decide +kernel
theorem dX1_same_81 : decode cX1_same 81 = .ok (.iaload, 1) := by decide +kernel
theorem dX1_same_82 : decode cX1_same 82 = .ok (.if_icmp .ge 123, 3) := by decide +kernel
theorem dX1_same_85 : decode cX1_same 85 = .ok (.iload 5, 2) := by decide +kernel
theorem dX1_same_87 : decode cX1_same 87 = .ok (.ifCond .le 118, 3) := by decide +kernel
theorem dX1_same_90 : decode cX1_same 90 = .ok (.aload_n 0, 1) := by decide +kernel
theorem dX1_same_91 : decode cX1_same 91 = .ok (.getfield 13, 3) := by decide +kernel
theorem dX1_same_94 : decode cX1_same 94 = .ok (.iload_n 3, 1) := by decide +kernel
theorem dX1_same_95 : decode cX1_same 95 = .ok (.iload 6, 2) := by decide +kernel
theorem dX1_same_97 : decode cX1_same 97 = .ok (.iadd, 1) := by decide +kernel
theorem dX1_same_98 : decode cX1_same 98 = .ok (.baload, 1) := by decide +kernel
theorem dX1_same_99 : decode cX1_same 99 = .ok (.ifCond .eq 20, 3) := by decide +kernel
theorem dX1_same_102 : decode cX1_same 102 = .ok (.aload_n 0, 1) := by decide +kernel
theorem dX1_same_103 : decode cX1_same 103 = .ok (.getfield 13, 3) := by decide +kernel
theorem dX1_same_106 : decode cX1_same 106 = .ok (.iload 4, 2) := by decide +kernel
theorem dX1_same_108 : decode cX1_same 108 = .ok (.iload 6, 2) := by decide +kernel
theorem dX1_same_110 : decode cX1_same 110 = .ok (.iadd, 1) := by decide +kernel
theorem dX1_same_111 : decode cX1_same 111 = .ok (.baload, 1) := by decide +kernel
theorem dX1_same_112 : decode cX1_same 112 = .ok (.ifCond .eq 7, 3) := by decide +kernel
theorem dX1_same_115 : decode cX1_same 115 = .ok (.iconst 1, 1) := by decide +kernel
theorem dX1_same_116 : decode cX1_same 116 = .ok (.goto 4, 3) := by decide +kernel
theorem dX1_same_119 : decode cX1_same 119 = .ok (.iconst 0, 1) := by decide +kernel
theorem dX1_same_120 : decode cX1_same 120 = .ok (.istore 7, 2) := by decide +kernel
theorem dX1_same_122 : decode cX1_same 122 = .ok (.aload_n 0, 1) := by decide +kernel
theorem dX1_same_123 : decode cX1_same 123 = .ok (.getfield 13, 3) := by decide +kernel
theorem dX1_same_126 : decode cX1_same 126 = .ok (.iload_n 3, 1) := by decide +kernel
theorem dX1_same_127 : decode cX1_same 127 = .ok (.iload 6, 2) := by decide +kernel
theorem dX1_same_129 : decode cX1_same 129 = .ok (.iadd, 1) := by decide +kernel
theorem dX1_same_130 : decode cX1_same 130 = .ok (.baload, 1) := by decide +kernel
theorem dX1_same_131 : decode cX1_same 131 = .ok (.ifCond .ne 16, 3) := by decide +kernel
theorem dX1_same_134 : decode cX1_same 134 = .ok (.aload_n 0, 1) := by decide +kernel
theorem dX1_same_135 : decode cX1_same 135 = .ok (.getfield 13, 3) := by decide +kernel
theorem dX1_same_138 : decode cX1_same 138 = .ok (.iload 4, 2) := by decide +kernel
theorem dX1_same_140 : decode cX1_same 140 = .ok (.iload 6, 2) := by decide +kernel
theorem dX1_same_142 : decode cX1_same 142 = .ok (.iadd, 1) := by decide +kernel
theorem dX1_same_143 : decode cX1_same 143 = .ok (.baload, 1) := by decide +kernel
theorem dX1_same_144 : decode cX1_same 144 = .ok (.ifCond .eq 7, 3) := by decide +kernel
theorem dX1_same_147 : decode cX1_same 147 = .ok (.iconst 1, 1) := by decide +kernel
theorem dX1_same_148 : decode cX1_same 148 = .ok (.goto 4, 3) := by decide +kernel
theorem dX1_same_151 : decode cX1_same 151 = .ok (.iconst 0, 1) := by decide +kernel
theorem dX1_same_152 : decode cX1_same 152 = .ok (.aload_n 0, 1) := by decide +kernel
theorem dX1_same_153 : decode cX1_same 153 = .ok (.getfield 7, 3) := by decide +kernel
theorem dX1_same_156 : decode cX1_same 156 = .ok (.iload_n 3, 1) := by decide +kernel
theorem dX1_same_157 : decode cX1_same 157 = .ok (.iload 6, 2) := by decide +kernel
theorem dX1_same_159 : decode cX1_same 159 = .ok (.iadd, 1) := by decide +kernel
theorem dX1_same_160 : decode cX1_same 160 = .ok (.daload, 1) := by decide +kernel
theorem dX1_same_161 : decode cX1_same 161 = .ok (.aload_n 0, 1) := by decide +kernel
theorem dX1_same_162 : decode cX1_same 162 = .ok (.getfield 7, 3) := by decide +kernel
theorem dX1_same_165 : decode cX1_same 165 = .ok (.iload 4, 2) := by decide +kernel
theorem dX1_same_167 : decode cX1_same 167 = .ok (.iload 6, 2) := by decide +kernel
theorem dX1_same_169 : decode cX1_same 169 = .ok (.iadd, 1) := by decide +kernel
theorem dX1_same_170 : decode cX1_same 170 = .ok (.daload, 1) := by decide +kernel
theorem dX1_same_171 : decode cX1_same 171 = .ok (.invokestatic 58, 3) := by decide +kernel
theorem dX1_same_174 : decode cX1_same 174 = .ok (.istore 8, 2) := by decide +kernel
theorem dX1_same_176 : decode cX1_same 176 = .ok (.iload 8, 2) := by decide +kernel
theorem dX1_same_178 : decode cX1_same 178 = .ok (.iconst 2, 1) := by decide +kernel
theorem dX1_same_179 : decode cX1_same 179 = .ok (.if_icmp .ne 8, 3) := by decide +kernel
theorem dX1_same_182 : decode cX1_same 182 = .ok (.iload 5, 2) := by decide +kernel
theorem dX1_same_184 : decode cX1_same 184 = .ok (.goto 13, 3) := by decide +kernel
theorem dX1_same_187 : decode cX1_same 187 = .ok (.iload 7, 2) := by decide +kernel
theorem dX1_same_189 : decode cX1_same 189 = .ok (.ifCond .eq 7, 3) := by decide +kernel
theorem dX1_same_192 : decode cX1_same 192 = .ok (.iconst 1, 1) := by decide +kernel
theorem dX1_same_193 : decode cX1_same 193 = .ok (.goto 4, 3) := by decide +kernel
theorem dX1_same_196 : decode cX1_same 196 = .ok (.iconst 0, 1) := by decide +kernel
theorem dX1_same_197 : decode cX1_same 197 = .ok (.istore 5, 2) := by decide +kernel
theorem dX1_same_199 : decode cX1_same 199 = .ok (.iinc 6 1, 3) := by decide +kernel
theorem dX1_same_202 : decode cX1_same 202 = .ok (.goto (-130), 3) := by decide +kernel
theorem dX1_same_205 : decode cX1_same 205 = .ok (.iload 5, 2) := by decide +kernel
theorem dX1_same_207 : decode cX1_same 207 = .ok (.ireturn, 1) := by decide +kernel
set_option maxRecDepth 20000 in
theorem ggX1_move_X1_latestWay : GoodIn wsX1_move wsX1_latestWay := goodIn_r _ [9, 10, 11, 12, 8, 13, 14, 15, 16, 17, 18, 19, 20, 21, 22, 23, 24, 25, 26, 27, 37, 38, 39, 40, 41, 42, 43, 44, 45, 46] (by decide +kernel) (by decide +kernel)
set_option maxRecDepth 20000 in
theorem gX1_move_X1_latestWay : GoodIn wsX1_move (wsV RX1 96 RX1 yX1_latestWay wsX1_latestWay) := goodIn_app (goodIn_of _ (by decide +kernel)) ggX1_move_X1_latestWay
set_option maxRecDepth 20000 in
theorem ggX1_move_X1_markWay : GoodIn wsX1_move wsX1_markWay := goodIn_r _ [31, 2, 3, 10, 11, 12, 8, 13, 14, 15, 16, 17, 18, 19, 20, 21, 22, 23, 24, 25, 26, 27, 37, 38, 39, 40, 41, 42, 43, 44, 45, 46] (by decide +kernel) (by decide +kernel)
set_option maxRecDepth 20000 in
theorem gX1_move_X1_markWay : GoodIn wsX1_move (wsV RX1 99 RX1 yX1_markWay wsX1_markWay) := goodIn_app (goodIn_of _ (by decide +kernel)) ggX1_move_X1_markWay
set_option maxRecDepth 20000 in
theorem ggX1_move_X1_latestOut : GoodIn wsX1_move wsX1_latestOut := goodIn_r _ [13, 14, 15, 16, 17, 18, 8, 19, 37, 38, 39, 40, 41, 42, 43, 44, 45, 46] (by decide +kernel) (by decide +kernel)
set_option maxRecDepth 20000 in
theorem gX1_move_X1_latestOut : GoodIn wsX1_move (wsV RX1 50 RX1 yX1_latestOut wsX1_latestOut) := goodIn_app (goodIn_of _ (by decide +kernel)) ggX1_move_X1_latestOut
set_option maxRecDepth 20000 in
theorem ggX1_move_X1_latestValue : GoodIn wsX1_move wsX1_latestValue := goodIn_r _ [23, 14, 24, 16, 17, 18, 8, 19, 37, 38, 39, 40, 41, 42, 43, 44, 45, 46] (by decide +kernel) (by decide +kernel)
set_option maxRecDepth 20000 in
theorem gX1_move_X1_latestValue : GoodIn wsX1_move (wsV RX1 54 RX1 yX1_latestValue wsX1_latestValue) := goodIn_app (goodIn_of _ (by decide +kernel)) ggX1_move_X1_latestValue
set_option maxRecDepth 20000 in
theorem ggX1_move_X1_way : GoodIn wsX1_move wsX1_way := goodIn_r _ [27] (by decide +kernel) (by decide +kernel)
set_option maxRecDepth 20000 in
theorem gX1_move_X1_way : GoodIn wsX1_move (va_wsS RX1 58 yX1_way wsX1_way) := goodIn_app (goodIn_of _ (by decide +kernel)) ggX1_move_X1_way
set_option maxRecDepth 20000 in
theorem ggX1_move_X1_throwing : GoodIn wsX1_move wsX1_throwing := goodIn_r _ [35, 36, 37, 38, 39, 40, 41, 42, 43, 44, 45, 46] (by decide +kernel) (by decide +kernel)
set_option maxRecDepth 20000 in
theorem gX1_move_X1_throwing : GoodIn wsX1_move (wsV RX1 70 RX1 yX1_throwing wsX1_throwing) := goodIn_app (goodIn_of _ (by decide +kernel)) ggX1_move_X1_throwing
theorem dX1_move_0 : decode cX1_move 0 = .ok (.aload_n 0, 1) := by decide +kernel
theorem dX1_move_1 : decode cX1_move 1 = .ok (.getfield 111, 3) := by decide +kernel
theorem dX1_move_4 : decode cX1_move 4 = .ok (.iload_n 1, 1) := by decide +kernel
theorem dX1_move_5 : decode cX1_move 5 = .ok (.if_icmp .ne 7, 3) := by decide +kernel
theorem dX1_move_8 : decode cX1_move 8 = .ok (.iconst 1, 1) := by decide +kernel
theorem dX1_move_9 : decode cX1_move 9 = .ok (.goto 4, 3) := by decide +kernel
theorem dX1_move_12 : decode cX1_move 12 = .ok (.iconst 0, 1) := by decide +kernel
theorem dX1_move_13 : decode cX1_move 13 = .ok (.istore_n 2, 1) := by decide +kernel
theorem dX1_move_14 : decode cX1_move 14 = .ok (.aload_n 0, 1) := by decide +kernel
theorem dX1_move_15 : decode cX1_move 15 = .ok (.iconst 0, 1) := by decide +kernel
theorem dX1_move_16 : decode cX1_move 16 = .ok (.iconst 2, 1) := by decide +kernel
theorem dX1_move_17 : decode cX1_move 17 = .ok (.invokevirtual 96, 3) := by decide +kernel
theorem dX1_move_20 : decode cX1_move 20 = .ok (.istore_n 3, 1) := by decide +kernel
theorem dX1_move_21 : decode cX1_move 21 = .ok (.aload_n 0, 1) := by decide +kernel
theorem dX1_move_22 : decode cX1_move 22 = .ok (.iconst 3, 1) := by decide +kernel
theorem dX1_move_23 : decode cX1_move 23 = .ok (.iconst 5, 1) := by decide +kernel
theorem dX1_move_24 : decode cX1_move 24 = .ok (.invokevirtual 99, 3) := by decide +kernel
theorem dX1_move_27 : decode cX1_move 27 = .ok (.istore 4, 2) := by decide +kernel
theorem dX1_move_29 : decode cX1_move 29 = .ok (.aload_n 0, 1) := by decide +kernel
theorem dX1_move_30 : decode cX1_move 30 = .ok (.iconst 0, 1) := by decide +kernel
theorem dX1_move_31 : decode cX1_move 31 = .ok (.iconst 0, 1) := by decide +kernel
theorem dX1_move_32 : decode cX1_move 32 = .ok (.invokevirtual 99, 3) := by decide +kernel
theorem dX1_move_35 : decode cX1_move 35 = .ok (.istore 5, 2) := by decide +kernel
theorem dX1_move_37 : decode cX1_move 37 = .ok (.aload_n 0, 1) := by decide +kernel
theorem dX1_move_38 : decode cX1_move 38 = .ok (.iconst 2, 1) := by decide +kernel
theorem dX1_move_39 : decode cX1_move 39 = .ok (.invokevirtual 50, 3) := by decide +kernel
theorem dX1_move_42 : decode cX1_move 42 = .ok (.ifCond .ne 12, 3) := by decide +kernel
theorem dX1_move_45 : decode cX1_move 45 = .ok (.aload_n 0, 1) := by decide +kernel
theorem dX1_move_46 : decode cX1_move 46 = .ok (.getfield 24, 3) := by decide +kernel
theorem dX1_move_49 : decode cX1_move 49 = .ok (.iconst 1, 1) := by decide +kernel
theorem dX1_move_50 : decode cX1_move 50 = .ok (.baload, 1) := by decide +kernel
theorem dX1_move_51 : decode cX1_move 51 = .ok (.ifCond .ne 7, 3) := by decide +kernel
theorem dX1_move_54 : decode cX1_move 54 = .ok (.iconst 1, 1) := by decide +kernel
theorem dX1_move_55 : decode cX1_move 55 = .ok (.goto 4, 3) := by decide +kernel
theorem dX1_move_58 : decode cX1_move 58 = .ok (.iconst 0, 1) := by decide +kernel
theorem dX1_move_59 : decode cX1_move 59 = .ok (.aload_n 0, 1) := by decide +kernel
theorem dX1_move_60 : decode cX1_move 60 = .ok (.iconst 2, 1) := by decide +kernel
theorem dX1_move_61 : decode cX1_move 61 = .ok (.invokevirtual 54, 3) := by decide +kernel
theorem dX1_move_64 : decode cX1_move 64 = .ok (.aload_n 0, 1) := by decide +kernel
theorem dX1_move_65 : decode cX1_move 65 = .ok (.getfield 21, 3) := by decide +kernel
theorem dX1_move_68 : decode cX1_move 68 = .ok (.iconst 1, 1) := by decide +kernel
theorem dX1_move_69 : decode cX1_move 69 = .ok (.daload, 1) := by decide +kernel
theorem dX1_move_70 : decode cX1_move 70 = .ok (.invokestatic 58, 3) := by decide +kernel
theorem dX1_move_73 : decode cX1_move 73 = .ok (.istore 6, 2) := by decide +kernel
theorem dX1_move_75 : decode cX1_move 75 = .ok (.iload_n 1, 1) := by decide +kernel
theorem dX1_move_76 : decode cX1_move 76 = .ok (.ifCond .eq 16, 3) := by decide +kernel
theorem dX1_move_79 : decode cX1_move 79 = .ok (.iload_n 3, 1) := by decide +kernel
theorem dX1_move_80 : decode cX1_move 80 = .ok (.iconst 4, 1) := by decide +kernel
theorem dX1_move_81 : decode cX1_move 81 = .ok (.if_icmp .eq 7, 3) := by decide +kernel
theorem dX1_move_84 : decode cX1_move 84 = .ok (.iconst 1, 1) := by decide +kernel
theorem dX1_move_85 : decode cX1_move 85 = .ok (.goto 18, 3) := by decide +kernel
theorem dX1_move_88 : decode cX1_move 88 = .ok (.iconst 0, 1) := by decide +kernel
theorem dX1_move_89 : decode cX1_move 89 = .ok (.goto 14, 3) := by decide +kernel
theorem dX1_move_92 : decode cX1_move 92 = .ok (.iload 5, 2) := by decide +kernel
theorem dX1_move_94 : decode cX1_move 94 = .ok (.iconst 4, 1) := by decide +kernel
theorem dX1_move_95 : decode cX1_move 95 = .ok (.if_icmp .ne 7, 3) := by decide +kernel
theorem dX1_move_98 : decode cX1_move 98 = .ok (.iconst 1, 1) := by decide +kernel
theorem dX1_move_99 : decode cX1_move 99 = .ok (.goto 4, 3) := by decide +kernel
theorem dX1_move_102 : decode cX1_move 102 = .ok (.iconst 0, 1) := by decide +kernel
theorem dX1_move_103 : decode cX1_move 103 = .ok (.istore 7, 2) := by decide +kernel
theorem dX1_move_105 : decode cX1_move 105 = .ok (.iload_n 1, 1) := by decide +kernel
theorem dX1_move_106 : decode cX1_move 106 = .ok (.ifCond .eq 26, 3) := by decide +kernel
theorem dX1_move_109 : decode cX1_move 109 = .ok (.aload_n 0, 1) := by decide +kernel
theorem dX1_move_110 : decode cX1_move 110 = .ok (.getfield 24, 3) := by decide +kernel
theorem dX1_move_113 : decode cX1_move 113 = .ok (.iconst 5, 1) := by decide +kernel
theorem dX1_move_114 : decode cX1_move 114 = .ok (.baload, 1) := by decide +kernel
theorem dX1_move_115 : decode cX1_move 115 = .ok (.ifCond .eq 13, 3) := by decide +kernel
theorem dX1_move_118 : decode cX1_move 118 = .ok (.iload 4, 2) := by decide +kernel
theorem dX1_move_120 : decode cX1_move 120 = .ok (.iconst 1, 1) := by decide +kernel
theorem dX1_move_121 : decode cX1_move 121 = .ok (.if_icmp .eq 7, 3) := by decide +kernel
theorem dX1_move_124 : decode cX1_move 124 = .ok (.iconst 1, 1) := by decide +kernel
theorem dX1_move_125 : decode cX1_move 125 = .ok (.goto 18, 3) := by decide +kernel
theorem dX1_move_128 : decode cX1_move 128 = .ok (.iconst 0, 1) := by decide +kernel
theorem dX1_move_129 : decode cX1_move 129 = .ok (.goto 14, 3) := by decide +kernel
theorem dX1_move_132 : decode cX1_move 132 = .ok (.iload 6, 2) := by decide +kernel
theorem dX1_move_134 : decode cX1_move 134 = .ok (.iconst 4, 1) := by decide +kernel
theorem dX1_move_135 : decode cX1_move 135 = .ok (.if_icmp .ge 7, 3) := by decide +kernel
theorem dX1_move_138 : decode cX1_move 138 = .ok (.iconst 1, 1) := by decide +kernel
theorem dX1_move_139 : decode cX1_move 139 = .ok (.goto 4, 3) := by decide +kernel
theorem dX1_move_142 : decode cX1_move 142 = .ok (.iconst 0, 1) := by decide +kernel
theorem dX1_move_143 : decode cX1_move 143 = .ok (.istore 8, 2) := by decide +kernel
theorem dX1_move_145 : decode cX1_move 145 = .ok (.aload_n 0, 1) := by decide +kernel
theorem dX1_move_146 : decode cX1_move 146 = .ok (.iload_n 2, 1) := by decide +kernel
theorem dX1_move_147 : decode cX1_move 147 = .ok (.iload 7, 2) := by decide +kernel
theorem dX1_move_149 : decode cX1_move 149 = .ok (.iload 8, 2) := by decide +kernel
theorem dX1_move_151 : decode cX1_move 151 = .ok (.invokevirtual 70, 3) := by decide +kernel
theorem dX1_move_154 : decode cX1_move 154 = .ok (.ifCond .eq 5, 3) := by decide +kernel
theorem dX1_move_157 : decode cX1_move 157 = .ok (.iconst 0, 1) := by decide +kernel
theorem dX1_move_158 : decode cX1_move 158 = .ok (.ireturn, 1) := by decide +kernel
theorem dX1_move_159 : decode cX1_move 159 = .ok (.aload_n 0, 1) := by decide +kernel
theorem dX1_move_160 : decode cX1_move 160 = .ok (.iload_n 1, 1) := by decide +kernel
theorem dX1_move_161 : decode cX1_move 161 = .ok (.putfield 111, 3) := by decide +kernel
theorem dX1_move_164 : decode cX1_move 164 = .ok (.aload_n 0, 1) := by decide +kernel
theorem dX1_move_165 : decode cX1_move 165 = .ok (.dup, 1) := by decide +kernel
theorem dX1_move_166 : decode cX1_move 166 = .ok (.getfield 115, 3) := by decide +kernel
theorem dX1_move_169 : decode cX1_move 169 = .ok (.iconst 1, 1) := by decide +kernel
theorem dX1_move_170 : decode cX1_move 170 = .ok (.iadd, 1) := by decide +kernel
theorem dX1_move_171 : decode cX1_move 171 = .ok (.putfield 115, 3) := by decide +kernel
theorem dX1_move_174 : decode cX1_move 174 = .ok (.aload_n 0, 1) := by decide +kernel
theorem dX1_move_175 : decode cX1_move 175 = .ok (.getfield 115, 3) := by decide +kernel
theorem dX1_move_178 : decode cX1_move 178 = .ok (.ireturn, 1) := by decide +kernel
set_option maxRecDepth 20000 in
theorem ggX1_size_X1_outside : GoodIn wsX1_size wsX1_outside := goodIn_r _ [5] (by decide +kernel) (by decide +kernel)
set_option maxRecDepth 20000 in
theorem gX1_size_X1_outside : GoodIn wsX1_size (va_wsS RX1 62 yX1_outside wsX1_outside) := goodIn_app (goodIn_of _ (by decide +kernel)) ggX1_size_X1_outside
set_option maxRecDepth 20000 in
theorem ggX1_size_X1_throwing : GoodIn wsX1_size wsX1_throwing := goodIn_r _ [9, 10, 11, 12, 13, 14, 15, 16, 17, 18, 19, 20] (by decide +kernel) (by decide +kernel)
set_option maxRecDepth 20000 in
theorem gX1_size_X1_throwing : GoodIn wsX1_size (wsV RX1 70 RX1 yX1_throwing wsX1_throwing) := goodIn_app (goodIn_of _ (by decide +kernel)) ggX1_size_X1_throwing
theorem dX1_size_0 : decode cX1_size 0 = .ok (.aload_n 0, 1) := by decide +kernel
theorem dX1_size_1 : decode cX1_size 1 = .ok (.iload_n 1, 1) := by decide +kernel
theorem dX1_size_2 : decode cX1_size 2 = .ok (.iconst 5, 1) := by decide +kernel
theorem dX1_size_3 : decode cX1_size 3 = .ok (.invokestatic 62, 3) := by decide +kernel
theorem dX1_size_6 : decode cX1_size 6 = .ok (.ifCond .ne 11, 3) := by decide +kernel
theorem dX1_size_9 : decode cX1_size 9 = .ok (.iload_n 2, 1) := by decide +kernel
theorem dX1_size_10 : decode cX1_size 10 = .ok (.iconst 1, 1) := by decide +kernel
theorem dX1_size_11 : decode cX1_size 11 = .ok (.invokestatic 62, 3) := by decide +kernel
theorem dX1_size_14 : decode cX1_size 14 = .ok (.ifCond .eq 7, 3) := by decide +kernel
theorem dX1_size_17 : decode cX1_size 17 = .ok (.iconst 1, 1) := by decide +kernel
theorem dX1_size_18 : decode cX1_size 18 = .ok (.goto 4, 3) := by decide +kernel
theorem dX1_size_21 : decode cX1_size 21 = .ok (.iconst 0, 1) := by decide +kernel
theorem dX1_size_22 : decode cX1_size 22 = .ok (.iconst 0, 1) := by decide +kernel
theorem dX1_size_23 : decode cX1_size 23 = .ok (.iconst 0, 1) := by decide +kernel
theorem dX1_size_24 : decode cX1_size 24 = .ok (.invokevirtual 70, 3) := by decide +kernel
theorem dX1_size_27 : decode cX1_size 27 = .ok (.ifCond .eq 5, 3) := by decide +kernel
theorem dX1_size_30 : decode cX1_size 30 = .ok (.iconst 0, 1) := by decide +kernel
theorem dX1_size_31 : decode cX1_size 31 = .ok (.ireturn, 1) := by decide +kernel
theorem dX1_size_32 : decode cX1_size 32 = .ok (.aload_n 0, 1) := by decide +kernel
theorem dX1_size_33 : decode cX1_size 33 = .ok (.getfield 17, 3) := by decide +kernel
theorem dX1_size_36 : decode cX1_size 36 = .ok (.iconst 2, 1) := by decide +kernel
theorem dX1_size_37 : decode cX1_size 37 = .ok (.iload_n 1, 1) := by decide +kernel
theorem dX1_size_38 : decode cX1_size 38 = .ok (.imul, 1) := by decide +kernel
theorem dX1_size_39 : decode cX1_size 39 = .ok (.iload_n 2, 1) := by decide +kernel
theorem dX1_size_40 : decode cX1_size 40 = .ok (.iadd, 1) := by decide +kernel
theorem dX1_size_41 : decode cX1_size 41 = .ok (.iaload, 1) := by decide +kernel
theorem dX1_size_42 : decode cX1_size 42 = .ok (.ireturn, 1) := by decide +kernel
theorem dJ9_min_7cf53_0 : decode cJ9_min_7cf53 0 = .ok (.iload_n 0, 1) := by decide +kernel
theorem dJ9_min_7cf53_1 : decode cJ9_min_7cf53 1 = .ok (.iload_n 1, 1) := by decide +kernel
theorem dJ9_min_7cf53_2 : decode cJ9_min_7cf53 2 = .ok (.if_icmp .gt 7, 3) := by decide +kernel
theorem dJ9_min_7cf53_5 : decode cJ9_min_7cf53 5 = .ok (.iload_n 0, 1) := by decide +kernel
theorem dJ9_min_7cf53_6 : decode cJ9_min_7cf53 6 = .ok (.goto 4, 3) := by decide +kernel
theorem dJ9_min_7cf53_9 : decode cJ9_min_7cf53 9 = .ok (.iload_n 1, 1) := by decide +kernel
theorem dJ9_min_7cf53_10 : decode cJ9_min_7cf53 10 = .ok (.ireturn, 1) := by decide +kernel
set_option maxRecDepth 20000 in
theorem ggL_level_X0_level : GoodIn wsL_level wsX0_level := goodIn_ca (goodIn_ca (goodIn_r _ [7, 8, 9, 6, 10, 11, 12, 13, 14, 15, 16, 17, 18, 19, 20, 21, 22, 23, 24, 25, 26, 27, 28, 29, 30, 31, 32, 33, 34, 35, 36, 37, 38, 39, 40, 41, 42, 43, 44, 45] (by decide +kernel) (by decide +kernel)) (goodIn_sub (fun _ h => List.mem_cons_of_mem _ (List.mem_append_left _ (List.mem_append_right _ h))) (by decide +kernel))) (goodIn_sub (fun _ h => List.mem_cons_of_mem _ (List.mem_append_right _ h)) (by decide +kernel))
set_option maxRecDepth 20000 in
theorem gL_level_X0_level : GoodIn wsL_level (wsV RL 7 RX0 yX0_level wsX0_level) := goodIn_app (goodIn_of _ (by decide +kernel)) ggL_level_X0_level
theorem dL_level_0 : decode cL_level 0 = .ok (.aload 4, 2) := by decide +kernel
theorem dL_level_2 : decode cL_level 2 = .ok (.iconst 0, 1) := by decide +kernel
theorem dL_level_3 : decode cL_level 3 = .ok (.aload_n 0, 1) := by decide +kernel
theorem dL_level_4 : decode cL_level 4 = .ok (.iload_n 1, 1) := by decide +kernel
theorem dL_level_5 : decode cL_level 5 = .ok (.dload_n 2, 1) := by decide +kernel
theorem dL_level_6 : decode cL_level 6 = .ok (.invokevirtual 7, 3) := by decide +kernel
theorem dL_level_9 : decode cL_level 9 = .ok (.i2l, 1) := by decide +kernel
theorem dL_level_10 : decode cL_level 10 = .ok (.lastore, 1) := by decide +kernel
theorem dL_level_11 : decode cL_level 11 = .ok (.goto 11, 3) := by decide +kernel
theorem dL_level_14 : decode cL_level 14 = .ok (.astore 5, 2) := by decide +kernel
theorem dL_level_16 : decode cL_level 16 = .ok (.iconst 1, 1) := by decide +kernel
theorem dL_level_17 : decode cL_level 17 = .ok (.ireturn, 1) := by decide +kernel
theorem dL_level_18 : decode cL_level 18 = .ok (.astore 5, 2) := by decide +kernel
theorem dL_level_20 : decode cL_level 20 = .ok (.iconst 2, 1) := by decide +kernel
theorem dL_level_21 : decode cL_level 21 = .ok (.ireturn, 1) := by decide +kernel
theorem dL_level_22 : decode cL_level 22 = .ok (.iconst 0, 1) := by decide +kernel
theorem dL_level_23 : decode cL_level 23 = .ok (.ireturn, 1) := by decide +kernel
set_option maxRecDepth 20000 in
theorem ggL_wind_X0_wind : GoodIn wsL_wind wsX0_wind := goodIn_ca (goodIn_ca (goodIn_r _ [7, 8, 9, 6, 10, 11, 12, 13, 14, 15, 16, 17, 18, 19, 20, 21, 22, 23, 24, 25, 26, 27, 28, 29, 30, 31, 32, 33, 34, 35, 36, 37, 38, 39, 40, 41, 42, 43, 44] (by decide +kernel) (by decide +kernel)) (goodIn_sub (fun _ h => List.mem_cons_of_mem _ (List.mem_append_left _ (List.mem_append_right _ h))) (by decide +kernel))) (goodIn_sub (fun _ h => List.mem_cons_of_mem _ (List.mem_append_right _ h)) (by decide +kernel))
set_option maxRecDepth 20000 in
theorem gL_wind_X0_wind : GoodIn wsL_wind (wsV RL 17 RX0 yX0_wind wsX0_wind) := goodIn_app (goodIn_of _ (by decide +kernel)) ggL_wind_X0_wind
theorem dL_wind_0 : decode cL_wind 0 = .ok (.aload_n 3, 1) := by decide +kernel
theorem dL_wind_1 : decode cL_wind 1 = .ok (.iconst 0, 1) := by decide +kernel
theorem dL_wind_2 : decode cL_wind 2 = .ok (.aload_n 0, 1) := by decide +kernel
theorem dL_wind_3 : decode cL_wind 3 = .ok (.iload_n 1, 1) := by decide +kernel
theorem dL_wind_4 : decode cL_wind 4 = .ok (.fload_n 2, 1) := by decide +kernel
theorem dL_wind_5 : decode cL_wind 5 = .ok (.invokevirtual 17, 3) := by decide +kernel
theorem dL_wind_8 : decode cL_wind 8 = .ok (.i2l, 1) := by decide +kernel
theorem dL_wind_9 : decode cL_wind 9 = .ok (.lastore, 1) := by decide +kernel
theorem dL_wind_10 : decode cL_wind 10 = .ok (.goto 11, 3) := by decide +kernel
theorem dL_wind_13 : decode cL_wind 13 = .ok (.astore 4, 2) := by decide +kernel
theorem dL_wind_15 : decode cL_wind 15 = .ok (.iconst 1, 1) := by decide +kernel
theorem dL_wind_16 : decode cL_wind 16 = .ok (.ireturn, 1) := by decide +kernel
theorem dL_wind_17 : decode cL_wind 17 = .ok (.astore 4, 2) := by decide +kernel
theorem dL_wind_19 : decode cL_wind 19 = .ok (.iconst 2, 1) := by decide +kernel
theorem dL_wind_20 : decode cL_wind 20 = .ok (.ireturn, 1) := by decide +kernel
theorem dL_wind_21 : decode cL_wind 21 = .ok (.iconst 0, 1) := by decide +kernel
theorem dL_wind_22 : decode cL_wind 22 = .ok (.ireturn, 1) := by decide +kernel
set_option maxRecDepth 20000 in
theorem ggL_out_X0_out : GoodIn wsL_out wsX0_out := goodIn_ca (goodIn_ca (goodIn_r _ [7, 8, 9, 6, 10, 11, 12, 13, 14, 15, 16, 17, 18, 19, 20, 21, 22, 23, 24, 25, 26, 27, 28, 29, 30, 31, 32, 33, 34, 35, 36, 37, 38, 39, 40, 41, 42] (by decide +kernel) (by decide +kernel)) (goodIn_sub (fun _ h => List.mem_cons_of_mem _ (List.mem_append_left _ (List.mem_append_right _ h))) (by decide +kernel))) (goodIn_sub (fun _ h => List.mem_cons_of_mem _ (List.mem_append_right _ h)) (by decide +kernel))
set_option maxRecDepth 20000 in
theorem gL_out_X0_out : GoodIn wsL_out (wsV RL 21 RX0 yX0_out wsX0_out) := goodIn_app (goodIn_of _ (by decide +kernel)) ggL_out_X0_out
theorem dL_out_0 : decode cL_out 0 = .ok (.aload_n 3, 1) := by decide +kernel
theorem dL_out_1 : decode cL_out 1 = .ok (.iconst 0, 1) := by decide +kernel
theorem dL_out_2 : decode cL_out 2 = .ok (.aload_n 0, 1) := by decide +kernel
theorem dL_out_3 : decode cL_out 3 = .ok (.iload_n 1, 1) := by decide +kernel
theorem dL_out_4 : decode cL_out 4 = .ok (.iload_n 2, 1) := by decide +kernel
theorem dL_out_5 : decode cL_out 5 = .ok (.invokevirtual 21, 3) := by decide +kernel
theorem dL_out_8 : decode cL_out 8 = .ok (.i2l, 1) := by decide +kernel
theorem dL_out_9 : decode cL_out 9 = .ok (.lastore, 1) := by decide +kernel
theorem dL_out_10 : decode cL_out 10 = .ok (.goto 11, 3) := by decide +kernel
theorem dL_out_13 : decode cL_out 13 = .ok (.astore 4, 2) := by decide +kernel
theorem dL_out_15 : decode cL_out 15 = .ok (.iconst 1, 1) := by decide +kernel
theorem dL_out_16 : decode cL_out 16 = .ok (.ireturn, 1) := by decide +kernel
theorem dL_out_17 : decode cL_out 17 = .ok (.astore 4, 2) := by decide +kernel
theorem dL_out_19 : decode cL_out 19 = .ok (.iconst 2, 1) := by decide +kernel
theorem dL_out_20 : decode cL_out 20 = .ok (.ireturn, 1) := by decide +kernel
theorem dL_out_21 : decode cL_out 21 = .ok (.iconst 0, 1) := by decide +kernel
theorem dL_out_22 : decode cL_out 22 = .ok (.ireturn, 1) := by decide +kernel
set_option maxRecDepth 20000 in
theorem ggL_clear_X0_clear : GoodIn wsL_clear wsX0_clear := goodIn_ca (goodIn_r _ [6, 7, 8, 5, 9, 10, 11, 12, 13, 14, 15, 16, 17, 18, 19, 20, 21, 22, 23, 24] (by decide +kernel) (by decide +kernel)) (goodIn_sub (fun _ h => List.mem_cons_of_mem _ (List.mem_append_right _ h)) (by decide +kernel))
set_option maxRecDepth 20000 in
theorem gL_clear_X0_clear : GoodIn wsL_clear (wsV RL 25 RX0 yX0_clear wsX0_clear) := goodIn_app (goodIn_of _ (by decide +kernel)) ggL_clear_X0_clear
theorem dL_clear_0 : decode cL_clear 0 = .ok (.aload_n 2, 1) := by decide +kernel
theorem dL_clear_1 : decode cL_clear 1 = .ok (.iconst 0, 1) := by decide +kernel
theorem dL_clear_2 : decode cL_clear 2 = .ok (.aload_n 0, 1) := by decide +kernel
theorem dL_clear_3 : decode cL_clear 3 = .ok (.iload_n 1, 1) := by decide +kernel
theorem dL_clear_4 : decode cL_clear 4 = .ok (.invokevirtual 25, 3) := by decide +kernel
theorem dL_clear_7 : decode cL_clear 7 = .ok (.i2l, 1) := by decide +kernel
theorem dL_clear_8 : decode cL_clear 8 = .ok (.lastore, 1) := by decide +kernel
theorem dL_clear_9 : decode cL_clear 9 = .ok (.goto 6, 3) := by decide +kernel
theorem dL_clear_12 : decode cL_clear 12 = .ok (.astore_n 3, 1) := by decide +kernel
theorem dL_clear_13 : decode cL_clear 13 = .ok (.iconst 1, 1) := by decide +kernel
theorem dL_clear_14 : decode cL_clear 14 = .ok (.ireturn, 1) := by decide +kernel
theorem dL_clear_15 : decode cL_clear 15 = .ok (.iconst 0, 1) := by decide +kernel
theorem dL_clear_16 : decode cL_clear 16 = .ok (.ireturn, 1) := by decide +kernel
set_option maxRecDepth 20000 in
theorem ggL_mark_X0_mark : GoodIn wsL_mark wsX0_mark := goodIn_ca (goodIn_r _ [6, 7, 8, 9, 10, 5, 11, 12, 13, 14, 15, 16, 17, 18, 19, 20, 21, 22, 23, 24, 25, 26, 27, 28, 29, 30] (by decide +kernel) (by decide +kernel)) (goodIn_sub (fun _ h => List.mem_cons_of_mem _ (List.mem_append_right _ h)) (by decide +kernel))
set_option maxRecDepth 20000 in
theorem gL_mark_X0_mark : GoodIn wsL_mark (wsV RL 29 RX0 yX0_mark wsX0_mark) := goodIn_app (goodIn_of _ (by decide +kernel)) ggL_mark_X0_mark
theorem dL_mark_0 : decode cL_mark 0 = .ok (.aload 5, 2) := by decide +kernel
theorem dL_mark_2 : decode cL_mark 2 = .ok (.iconst 0, 1) := by decide +kernel
theorem dL_mark_3 : decode cL_mark 3 = .ok (.aload_n 0, 1) := by decide +kernel
theorem dL_mark_4 : decode cL_mark 4 = .ok (.iload_n 1, 1) := by decide +kernel
theorem dL_mark_5 : decode cL_mark 5 = .ok (.iload_n 2, 1) := by decide +kernel
theorem dL_mark_6 : decode cL_mark 6 = .ok (.dload_n 3, 1) := by decide +kernel
theorem dL_mark_7 : decode cL_mark 7 = .ok (.invokevirtual 29, 3) := by decide +kernel
theorem dL_mark_10 : decode cL_mark 10 = .ok (.ifCond .eq 7, 3) := by decide +kernel
theorem dL_mark_13 : decode cL_mark 13 = .ok (.lconst 1, 1) := by decide +kernel
theorem dL_mark_14 : decode cL_mark 14 = .ok (.goto 4, 3) := by decide +kernel
theorem dL_mark_17 : decode cL_mark 17 = .ok (.lconst 0, 1) := by decide +kernel
theorem dL_mark_18 : decode cL_mark 18 = .ok (.lastore, 1) := by decide +kernel
theorem dL_mark_19 : decode cL_mark 19 = .ok (.goto 7, 3) := by decide +kernel
theorem dL_mark_22 : decode cL_mark 22 = .ok (.astore 6, 2) := by decide +kernel
theorem dL_mark_24 : decode cL_mark 24 = .ok (.iconst 1, 1) := by decide +kernel
theorem dL_mark_25 : decode cL_mark 25 = .ok (.ireturn, 1) := by decide +kernel
theorem dL_mark_26 : decode cL_mark 26 = .ok (.iconst 0, 1) := by decide +kernel
theorem dL_mark_27 : decode cL_mark 27 = .ok (.ireturn, 1) := by decide +kernel
set_option maxRecDepth 20000 in
theorem ggL_gale_X0_gale : GoodIn wsL_gale wsX0_gale := goodIn_ca (goodIn_r _ [6, 7, 8, 5, 9, 10, 11, 12, 13, 14, 15, 16, 17, 18, 19, 20, 21, 22, 23, 24, 25, 26, 27, 28, 29] (by decide +kernel) (by decide +kernel)) (goodIn_sub (fun _ h => List.mem_cons_of_mem _ (List.mem_append_right _ h)) (by decide +kernel))
set_option maxRecDepth 20000 in
theorem gL_gale_X0_gale : GoodIn wsL_gale (wsV RL 33 RX0 yX0_gale wsX0_gale) := goodIn_app (goodIn_of _ (by decide +kernel)) ggL_gale_X0_gale
theorem dL_gale_0 : decode cL_gale 0 = .ok (.aload_n 3, 1) := by decide +kernel
theorem dL_gale_1 : decode cL_gale 1 = .ok (.iconst 0, 1) := by decide +kernel
theorem dL_gale_2 : decode cL_gale 2 = .ok (.aload_n 0, 1) := by decide +kernel
theorem dL_gale_3 : decode cL_gale 3 = .ok (.iload_n 1, 1) := by decide +kernel
theorem dL_gale_4 : decode cL_gale 4 = .ok (.fload_n 2, 1) := by decide +kernel
theorem dL_gale_5 : decode cL_gale 5 = .ok (.invokevirtual 33, 3) := by decide +kernel
theorem dL_gale_8 : decode cL_gale 8 = .ok (.ifCond .eq 7, 3) := by decide +kernel
theorem dL_gale_11 : decode cL_gale 11 = .ok (.lconst 1, 1) := by decide +kernel
theorem dL_gale_12 : decode cL_gale 12 = .ok (.goto 4, 3) := by decide +kernel
theorem dL_gale_15 : decode cL_gale 15 = .ok (.lconst 0, 1) := by decide +kernel
theorem dL_gale_16 : decode cL_gale 16 = .ok (.lastore, 1) := by decide +kernel
theorem dL_gale_17 : decode cL_gale 17 = .ok (.goto 7, 3) := by decide +kernel
theorem dL_gale_20 : decode cL_gale 20 = .ok (.astore 4, 2) := by decide +kernel
theorem dL_gale_22 : decode cL_gale 22 = .ok (.iconst 1, 1) := by decide +kernel
theorem dL_gale_23 : decode cL_gale 23 = .ok (.ireturn, 1) := by decide +kernel
theorem dL_gale_24 : decode cL_gale 24 = .ok (.iconst 0, 1) := by decide +kernel
theorem dL_gale_25 : decode cL_gale 25 = .ok (.ireturn, 1) := by decide +kernel
set_option maxRecDepth 20000 in
theorem ggL_lift_X0_lift : GoodIn wsL_lift wsX0_lift := goodIn_ca (goodIn_r _ [6, 7, 8, 9, 10, 5, 11, 12, 13, 14, 15, 16, 17, 18, 19, 20, 21, 22, 23, 24] (by decide +kernel) (by decide +kernel)) (goodIn_sub (fun _ h => List.mem_cons_of_mem _ (List.mem_append_right _ h)) (by decide +kernel))
set_option maxRecDepth 20000 in
theorem gL_lift_X0_lift : GoodIn wsL_lift (wsV RL 37 RX0 yX0_lift wsX0_lift) := goodIn_app (goodIn_of _ (by decide +kernel)) ggL_lift_X0_lift
theorem dL_lift_0 : decode cL_lift 0 = .ok (.aload_n 3, 1) := by decide +kernel
theorem dL_lift_1 : decode cL_lift 1 = .ok (.iconst 0, 1) := by decide +kernel
theorem dL_lift_2 : decode cL_lift 2 = .ok (.aload_n 0, 1) := by decide +kernel
theorem dL_lift_3 : decode cL_lift 3 = .ok (.iload_n 1, 1) := by decide +kernel
theorem dL_lift_4 : decode cL_lift 4 = .ok (.iload_n 2, 1) := by decide +kernel
theorem dL_lift_5 : decode cL_lift 5 = .ok (.invokevirtual 37, 3) := by decide +kernel
theorem dL_lift_8 : decode cL_lift 8 = .ok (.ifCond .eq 7, 3) := by decide +kernel
theorem dL_lift_11 : decode cL_lift 11 = .ok (.lconst 1, 1) := by decide +kernel
theorem dL_lift_12 : decode cL_lift 12 = .ok (.goto 4, 3) := by decide +kernel
theorem dL_lift_15 : decode cL_lift 15 = .ok (.lconst 0, 1) := by decide +kernel
theorem dL_lift_16 : decode cL_lift 16 = .ok (.lastore, 1) := by decide +kernel
theorem dL_lift_17 : decode cL_lift 17 = .ok (.goto 7, 3) := by decide +kernel
theorem dL_lift_20 : decode cL_lift 20 = .ok (.astore 4, 2) := by decide +kernel
theorem dL_lift_22 : decode cL_lift 22 = .ok (.iconst 1, 1) := by decide +kernel
theorem dL_lift_23 : decode cL_lift 23 = .ok (.ireturn, 1) := by decide +kernel
theorem dL_lift_24 : decode cL_lift 24 = .ok (.iconst 0, 1) := by decide +kernel
theorem dL_lift_25 : decode cL_lift 25 = .ok (.ireturn, 1) := by decide +kernel
set_option maxRecDepth 20000 in
theorem ggL_probe_X0_probe : GoodIn wsL_probe wsX0_probe := goodIn_ca (goodIn_r _ [6, 7, 8, 5, 9, 10, 11, 12, 13, 14, 15, 16, 17, 18, 19, 20, 21, 22, 23, 24, 25, 26, 27, 28, 29, 30, 31, 32, 33, 34, 35, 36, 37, 38, 39, 40, 41, 42, 43, 44, 45, 46] (by decide +kernel) (by decide +kernel)) (goodIn_sub (fun _ h => List.mem_cons_of_mem _ (List.mem_append_right _ h)) (by decide +kernel))
set_option maxRecDepth 20000 in
theorem gL_probe_X0_probe : GoodIn wsL_probe (wsV RL 41 RX0 yX0_probe wsX0_probe) := goodIn_app (goodIn_of _ (by decide +kernel)) ggL_probe_X0_probe
theorem dL_probe_0 : decode cL_probe 0 = .ok (.aload_n 3, 1) := by decide +kernel
theorem dL_probe_1 : decode cL_probe 1 = .ok (.iconst 0, 1) := by decide +kernel
theorem dL_probe_2 : decode cL_probe 2 = .ok (.aload_n 0, 1) := by decide +kernel
theorem dL_probe_3 : decode cL_probe 3 = .ok (.dload_n 1, 1) := by decide +kernel
theorem dL_probe_4 : decode cL_probe 4 = .ok (.invokevirtual 41, 3) := by decide +kernel
theorem dL_probe_7 : decode cL_probe 7 = .ok (.i2l, 1) := by decide +kernel
theorem dL_probe_8 : decode cL_probe 8 = .ok (.lastore, 1) := by decide +kernel
theorem dL_probe_9 : decode cL_probe 9 = .ok (.goto 7, 3) := by decide +kernel
theorem dL_probe_12 : decode cL_probe 12 = .ok (.astore 4, 2) := by decide +kernel
theorem dL_probe_14 : decode cL_probe 14 = .ok (.iconst 1, 1) := by decide +kernel
theorem dL_probe_15 : decode cL_probe 15 = .ok (.ireturn, 1) := by decide +kernel
theorem dL_probe_16 : decode cL_probe 16 = .ok (.iconst 0, 1) := by decide +kernel
theorem dL_probe_17 : decode cL_probe 17 = .ok (.ireturn, 1) := by decide +kernel
set_option maxRecDepth 20000 in
theorem ggL_probeWind_X0_probeWind : GoodIn wsL_probeWind wsX0_probeWind := goodIn_ca (goodIn_r _ [6, 7, 8, 5, 9, 10, 11, 12, 13, 14, 15, 16, 17, 18, 19, 20, 21, 22, 23, 24, 25, 26, 27, 28, 29, 30, 31, 32, 33, 34, 35, 36, 37, 38, 39, 40, 41, 42, 43, 44, 45] (by decide +kernel) (by decide +kernel)) (goodIn_sub (fun _ h => List.mem_cons_of_mem _ (List.mem_append_right _ h)) (by decide +kernel))
set_option maxRecDepth 20000 in
theorem gL_probeWind_X0_probeWind : GoodIn wsL_probeWind (wsV RL 45 RX0 yX0_probeWind wsX0_probeWind) := goodIn_app (goodIn_of _ (by decide +kernel)) ggL_probeWind_X0_probeWind
theorem dL_probeWind_0 : decode cL_probeWind 0 = .ok (.aload_n 2, 1) := by decide +kernel
theorem dL_probeWind_1 : decode cL_probeWind 1 = .ok (.iconst 0, 1) := by decide +kernel
