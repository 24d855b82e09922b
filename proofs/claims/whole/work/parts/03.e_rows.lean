theorem dX1_probeWay_24 : decode cX1_probeWay 24 = .ok (.getfield 7, 3) := by decide +kernel
theorem dX1_probeWay_27 : decode cX1_probeWay 27 = .ok (.iload_n 1, 1) := by decide +kernel
theorem dX1_probeWay_28 : decode cX1_probeWay 28 = .ok (.daload, 1) := by decide +kernel
theorem dX1_probeWay_29 : decode cX1_probeWay 29 = .ok (.aload_n 0, 1) := by decide +kernel
theorem dX1_probeWay_30 : decode cX1_probeWay 30 = .ok (.getfield 27, 3) := by decide +kernel
theorem dX1_probeWay_33 : decode cX1_probeWay 33 = .ok (.iload_n 2, 1) := by decide +kernel
theorem dX1_probeWay_34 : decode cX1_probeWay 34 = .ok (.daload, 1) := by decide +kernel
theorem dX1_probeWay_35 : decode cX1_probeWay 35 = .ok (.invokestatic 58, 3) := by decide +kernel
theorem dX1_probeWay_38 : decode cX1_probeWay 38 = .ok (.ireturn, 1) := by decide +kernel
set_option maxRecDepth 20000 in
theorem ggX1_markWay_X1_latestOut : GoodIn wsX1_markWay wsX1_latestOut := goodIn_r _ [7, 8, 9, 10, 11, 12, 6, 13, 22, 23, 24, 25, 26, 27, 28, 29, 30, 31] (by decide +kernel) (by decide +kernel)
set_option maxRecDepth 20000 in
theorem gX1_markWay_X1_latestOut : GoodIn wsX1_markWay (wsV RX1 50 RX1 yX1_latestOut wsX1_latestOut) := goodIn_app (goodIn_of _ (by decide +kernel)) ggX1_markWay_X1_latestOut
set_option maxRecDepth 20000 in
theorem ggX1_markWay_X1_latestValue : GoodIn wsX1_markWay wsX1_latestValue := goodIn_r _ [17, 8, 18, 10, 11, 12, 6, 13, 22, 23, 24, 25, 26, 27, 28, 29, 30, 31] (by decide +kernel) (by decide +kernel)
set_option maxRecDepth 20000 in
theorem gX1_markWay_X1_latestValue : GoodIn wsX1_markWay (wsV RX1 54 RX1 yX1_latestValue wsX1_latestValue) := goodIn_app (goodIn_of _ (by decide +kernel)) ggX1_markWay_X1_latestValue
set_option maxRecDepth 20000 in
theorem ggX1_markWay_X1_way : GoodIn wsX1_markWay wsX1_way := goodIn_r _ [21] (by decide +kernel) (by decide +kernel)
set_option maxRecDepth 20000 in
theorem gX1_markWay_X1_way : GoodIn wsX1_markWay (va_wsS RX1 58 yX1_way wsX1_way) := goodIn_app (goodIn_of _ (by decide +kernel)) ggX1_markWay_X1_way
theorem dX1_markWay_0 : decode cX1_markWay 0 = .ok (.aload_n 0, 1) := by decide +kernel
theorem dX1_markWay_1 : decode cX1_markWay 1 = .ok (.iload_n 1, 1) := by decide +kernel
theorem dX1_markWay_2 : decode cX1_markWay 2 = .ok (.invokevirtual 50, 3) := by decide +kernel
theorem dX1_markWay_5 : decode cX1_markWay 5 = .ok (.ifCond .ne 12, 3) := by decide +kernel
theorem dX1_markWay_8 : decode cX1_markWay 8 = .ok (.aload_n 0, 1) := by decide +kernel
theorem dX1_markWay_9 : decode cX1_markWay 9 = .ok (.getfield 24, 3) := by decide +kernel
theorem dX1_markWay_12 : decode cX1_markWay 12 = .ok (.iload_n 2, 1) := by decide +kernel
theorem dX1_markWay_13 : decode cX1_markWay 13 = .ok (.baload, 1) := by decide +kernel
theorem dX1_markWay_14 : decode cX1_markWay 14 = .ok (.ifCond .ne 7, 3) := by decide +kernel
theorem dX1_markWay_17 : decode cX1_markWay 17 = .ok (.iconst 1, 1) := by decide +kernel
theorem dX1_markWay_18 : decode cX1_markWay 18 = .ok (.goto 4, 3) := by decide +kernel
theorem dX1_markWay_21 : decode cX1_markWay 21 = .ok (.iconst 0, 1) := by decide +kernel
theorem dX1_markWay_22 : decode cX1_markWay 22 = .ok (.aload_n 0, 1) := by decide +kernel
theorem dX1_markWay_23 : decode cX1_markWay 23 = .ok (.iload_n 1, 1) := by decide +kernel
theorem dX1_markWay_24 : decode cX1_markWay 24 = .ok (.invokevirtual 54, 3) := by decide +kernel
theorem dX1_markWay_27 : decode cX1_markWay 27 = .ok (.aload_n 0, 1) := by decide +kernel
theorem dX1_markWay_28 : decode cX1_markWay 28 = .ok (.getfield 21, 3) := by decide +kernel
theorem dX1_markWay_31 : decode cX1_markWay 31 = .ok (.iload_n 2, 1) := by decide +kernel
theorem dX1_markWay_32 : decode cX1_markWay 32 = .ok (.daload, 1) := by decide +kernel
theorem dX1_markWay_33 : decode cX1_markWay 33 = .ok (.invokestatic 58, 3) := by decide +kernel
theorem dX1_markWay_36 : decode cX1_markWay 36 = .ok (.ireturn, 1) := by decide +kernel
theorem dX1_comes_0 : decode cX1_comes 0 = .ok (.bipush 12, 2) := by decide +kernel
theorem dX1_comes_2 : decode cX1_comes 2 = .ok (.iload_n 1, 1) := by decide +kernel
theorem dX1_comes_3 : decode cX1_comes 3 = .ok (.imul, 1) := by decide +kernel
theorem dX1_comes_4 : decode cX1_comes 4 = .ok (.aload_n 0, 1) := by decide +kernel
theorem dX1_comes_5 : decode cX1_comes 5 = .ok (.getfield 17, 3) := by decide +kernel
theorem dX1_comes_8 : decode cX1_comes 8 = .ok (.iload_n 1, 1) := by decide +kernel
theorem dX1_comes_9 : decode cX1_comes 9 = .ok (.iaload, 1) := by decide +kernel
theorem dX1_comes_10 : decode cX1_comes 10 = .ok (.iadd, 1) := by decide +kernel
theorem dX1_comes_11 : decode cX1_comes 11 = .ok (.istore 5, 2) := by decide +kernel
theorem dX1_comes_13 : decode cX1_comes 13 = .ok (.aload_n 0, 1) := by decide +kernel
theorem dX1_comes_14 : decode cX1_comes 14 = .ok (.getfield 7, 3) := by decide +kernel
theorem dX1_comes_17 : decode cX1_comes 17 = .ok (.iload 5, 2) := by decide +kernel
theorem dX1_comes_19 : decode cX1_comes 19 = .ok (.dload_n 3, 1) := by decide +kernel
theorem dX1_comes_20 : decode cX1_comes 20 = .ok (.dastore, 1) := by decide +kernel
theorem dX1_comes_21 : decode cX1_comes 21 = .ok (.aload_n 0, 1) := by decide +kernel
theorem dX1_comes_22 : decode cX1_comes 22 = .ok (.getfield 13, 3) := by decide +kernel
theorem dX1_comes_25 : decode cX1_comes 25 = .ok (.iload 5, 2) := by decide +kernel
theorem dX1_comes_27 : decode cX1_comes 27 = .ok (.iload_n 2, 1) := by decide +kernel
theorem dX1_comes_28 : decode cX1_comes 28 = .ok (.bastore, 1) := by decide +kernel
theorem dX1_comes_29 : decode cX1_comes 29 = .ok (.aload_n 0, 1) := by decide +kernel
theorem dX1_comes_30 : decode cX1_comes 30 = .ok (.getfield 17, 3) := by decide +kernel
theorem dX1_comes_33 : decode cX1_comes 33 = .ok (.iload_n 1, 1) := by decide +kernel
theorem dX1_comes_34 : decode cX1_comes 34 = .ok (.dup2, 1) := by decide +kernel
theorem dX1_comes_35 : decode cX1_comes 35 = .ok (.iaload, 1) := by decide +kernel
theorem dX1_comes_36 : decode cX1_comes 36 = .ok (.iconst 1, 1) := by decide +kernel
theorem dX1_comes_37 : decode cX1_comes 37 = .ok (.iadd, 1) := by decide +kernel
theorem dX1_comes_38 : decode cX1_comes 38 = .ok (.iastore, 1) := by decide +kernel
theorem dX1_comes_39 : decode cX1_comes 39 = .ok (.aload_n 0, 1) := by decide +kernel
theorem dX1_comes_40 : decode cX1_comes 40 = .ok (.getfield 17, 3) := by decide +kernel
theorem dX1_comes_43 : decode cX1_comes 43 = .ok (.iload_n 1, 1) := by decide +kernel
theorem dX1_comes_44 : decode cX1_comes 44 = .ok (.iaload, 1) := by decide +kernel
theorem dX1_comes_45 : decode cX1_comes 45 = .ok (.ireturn, 1) := by decide +kernel
set_option maxRecDepth 20000 in
theorem ggX1_level_X1_outside : GoodIn wsX1_level wsX1_outside := goodIn_r _ [5] (by decide +kernel) (by decide +kernel)
set_option maxRecDepth 20000 in
theorem gX1_level_X1_outside : GoodIn wsX1_level (va_wsS RX1 62 yX1_outside wsX1_outside) := goodIn_app (goodIn_of _ (by decide +kernel)) ggX1_level_X1_outside
set_option maxRecDepth 20000 in
theorem ggX1_level_X1_isLevel : GoodIn wsX1_level wsX1_isLevel := goodIn_r _ [8, 9, 10] (by decide +kernel) (by decide +kernel)
set_option maxRecDepth 20000 in
theorem gX1_level_X1_isLevel : GoodIn wsX1_level (va_wsS RX1 66 yX1_isLevel wsX1_isLevel) := goodIn_app (goodIn_of _ (by decide +kernel)) ggX1_level_X1_isLevel
set_option maxRecDepth 20000 in
theorem ggX1_level_X1_throwing : GoodIn wsX1_level wsX1_throwing := goodIn_r _ [14, 15, 22, 23, 24, 25, 26, 27, 28, 29, 30, 31] (by decide +kernel) (by decide +kernel)
set_option maxRecDepth 20000 in
theorem gX1_level_X1_throwing : GoodIn wsX1_level (wsV RX1 70 RX1 yX1_throwing wsX1_throwing) := goodIn_app (goodIn_of _ (by decide +kernel)) ggX1_level_X1_throwing
set_option maxRecDepth 20000 in
theorem ggX1_level_X1_comes : GoodIn wsX1_level wsX1_comes := goodIn_r _ [19, 1, 20, 21, 22, 23, 24, 25, 26, 27, 28, 29, 30, 31] (by decide +kernel) (by decide +kernel)
set_option maxRecDepth 20000 in
theorem gX1_level_X1_comes : GoodIn wsX1_level (wsV RX1 74 RX1 yX1_comes wsX1_comes) := goodIn_app (goodIn_of _ (by decide +kernel)) ggX1_level_X1_comes
theorem dX1_level_0 : decode cX1_level 0 = .ok (.iload_n 1, 1) := by decide +kernel
theorem dX1_level_1 : decode cX1_level 1 = .ok (.iconst 5, 1) := by decide +kernel
theorem dX1_level_2 : decode cX1_level 2 = .ok (.invokestatic 62, 3) := by decide +kernel
theorem dX1_level_5 : decode cX1_level 5 = .ok (.ifCond .ne 10, 3) := by decide +kernel
theorem dX1_level_8 : decode cX1_level 8 = .ok (.dload_n 2, 1) := by decide +kernel
theorem dX1_level_9 : decode cX1_level 9 = .ok (.invokestatic 66, 3) := by decide +kernel
theorem dX1_level_12 : decode cX1_level 12 = .ok (.ifCond .ne 7, 3) := by decide +kernel
theorem dX1_level_15 : decode cX1_level 15 = .ok (.iconst 1, 1) := by decide +kernel
theorem dX1_level_16 : decode cX1_level 16 = .ok (.goto 4, 3) := by decide +kernel
theorem dX1_level_19 : decode cX1_level 19 = .ok (.iconst 0, 1) := by decide +kernel
theorem dX1_level_20 : decode cX1_level 20 = .ok (.istore 4, 2) := by decide +kernel
theorem dX1_level_22 : decode cX1_level 22 = .ok (.aload_n 0, 1) := by decide +kernel
theorem dX1_level_23 : decode cX1_level 23 = .ok (.iload 4, 2) := by decide +kernel
theorem dX1_level_25 : decode cX1_level 25 = .ok (.iload 4, 2) := by decide +kernel
theorem dX1_level_27 : decode cX1_level 27 = .ok (.ifCond .ne 20, 3) := by decide +kernel
theorem dX1_level_30 : decode cX1_level 30 = .ok (.aload_n 0, 1) := by decide +kernel
theorem dX1_level_31 : decode cX1_level 31 = .ok (.getfield 17, 3) := by decide +kernel
theorem dX1_level_34 : decode cX1_level 34 = .ok (.iconst 2, 1) := by decide +kernel
theorem dX1_level_35 : decode cX1_level 35 = .ok (.iload_n 1, 1) := by decide +kernel
theorem dX1_level_36 : decode cX1_level 36 = .ok (.imul, 1) := by decide +kernel
theorem dX1_level_37 : decode cX1_level 37 = .ok (.iaload, 1) := by decide +kernel
theorem dX1_level_38 : decode cX1_level 38 = .ok (.bipush 12, 2) := by decide +kernel
theorem dX1_level_40 : decode cX1_level 40 = .ok (.if_icmp .ne 7, 3) := by decide +kernel
theorem dX1_level_43 : decode cX1_level 43 = .ok (.iconst 1, 1) := by decide +kernel
theorem dX1_level_44 : decode cX1_level 44 = .ok (.goto 4, 3) := by decide +kernel
theorem dX1_level_47 : decode cX1_level 47 = .ok (.iconst 0, 1) := by decide +kernel
theorem dX1_level_48 : decode cX1_level 48 = .ok (.iconst 0, 1) := by decide +kernel
theorem dX1_level_49 : decode cX1_level 49 = .ok (.invokevirtual 70, 3) := by decide +kernel
theorem dX1_level_52 : decode cX1_level 52 = .ok (.ifCond .eq 5, 3) := by decide +kernel
theorem dX1_level_55 : decode cX1_level 55 = .ok (.iconst 0, 1) := by decide +kernel
theorem dX1_level_56 : decode cX1_level 56 = .ok (.ireturn, 1) := by decide +kernel
theorem dX1_level_57 : decode cX1_level 57 = .ok (.aload_n 0, 1) := by decide +kernel
theorem dX1_level_58 : decode cX1_level 58 = .ok (.iconst 2, 1) := by decide +kernel
theorem dX1_level_59 : decode cX1_level 59 = .ok (.iload_n 1, 1) := by decide +kernel
theorem dX1_level_60 : decode cX1_level 60 = .ok (.imul, 1) := by decide +kernel
theorem dX1_level_61 : decode cX1_level 61 = .ok (.iconst 0, 1) := by decide +kernel
theorem dX1_level_62 : decode cX1_level 62 = .ok (.dload_n 2, 1) := by decide +kernel
theorem dX1_level_63 : decode cX1_level 63 = .ok (.invokevirtual 74, 3) := by decide +kernel
theorem dX1_level_66 : decode cX1_level 66 = .ok (.ireturn, 1) := by decide +kernel
set_option maxRecDepth 20000 in
theorem ggX1_wind_X1_outside : GoodIn wsX1_wind wsX1_outside := goodIn_r _ [5] (by decide +kernel) (by decide +kernel)
set_option maxRecDepth 20000 in
theorem gX1_wind_X1_outside : GoodIn wsX1_wind (va_wsS RX1 62 yX1_outside wsX1_outside) := goodIn_app (goodIn_of _ (by decide +kernel)) ggX1_wind_X1_outside
set_option maxRecDepth 20000 in
theorem ggX1_wind_X1_isWind : GoodIn wsX1_wind wsX1_isWind := goodIn_r _ [8, 9] (by decide +kernel) (by decide +kernel)
set_option maxRecDepth 20000 in
theorem gX1_wind_X1_isWind : GoodIn wsX1_wind (va_wsS RX1 78 yX1_isWind wsX1_isWind) := goodIn_app (goodIn_of _ (by decide +kernel)) ggX1_wind_X1_isWind
set_option maxRecDepth 20000 in
theorem ggX1_wind_X1_throwing : GoodIn wsX1_wind wsX1_throwing := goodIn_r _ [13, 14, 21, 22, 23, 24, 25, 26, 27, 28, 29, 30] (by decide +kernel) (by decide +kernel)
set_option maxRecDepth 20000 in
theorem gX1_wind_X1_throwing : GoodIn wsX1_wind (wsV RX1 70 RX1 yX1_throwing wsX1_throwing) := goodIn_app (goodIn_of _ (by decide +kernel)) ggX1_wind_X1_throwing
set_option maxRecDepth 20000 in
theorem ggX1_wind_X1_comes : GoodIn wsX1_wind wsX1_comes := goodIn_r _ [18, 1, 19, 20, 21, 22, 23, 24, 25, 26, 27, 28, 29, 30] (by decide +kernel) (by decide +kernel)
set_option maxRecDepth 20000 in
theorem gX1_wind_X1_comes : GoodIn wsX1_wind (wsV RX1 74 RX1 yX1_comes wsX1_comes) := goodIn_app (goodIn_of _ (by decide +kernel)) ggX1_wind_X1_comes
theorem dX1_wind_0 : decode cX1_wind 0 = .ok (.iload_n 1, 1) := by decide +kernel
theorem dX1_wind_1 : decode cX1_wind 1 = .ok (.iconst 5, 1) := by decide +kernel
theorem dX1_wind_2 : decode cX1_wind 2 = .ok (.invokestatic 62, 3) := by decide +kernel
theorem dX1_wind_5 : decode cX1_wind 5 = .ok (.ifCond .ne 11, 3) := by decide +kernel
theorem dX1_wind_8 : decode cX1_wind 8 = .ok (.fload_n 2, 1) := by decide +kernel
theorem dX1_wind_9 : decode cX1_wind 9 = .ok (.f2d, 1) := by decide +kernel
theorem dX1_wind_10 : decode cX1_wind 10 = .ok (.invokestatic 78, 3) := by decide +kernel
theorem dX1_wind_13 : decode cX1_wind 13 = .ok (.ifCond .ne 7, 3) := by decide +kernel
theorem dX1_wind_16 : decode cX1_wind 16 = .ok (.iconst 1, 1) := by decide +kernel
theorem dX1_wind_17 : decode cX1_wind 17 = .ok (.goto 4, 3) := by decide +kernel
theorem dX1_wind_20 : decode cX1_wind 20 = .ok (.iconst 0, 1) := by decide +kernel
theorem dX1_wind_21 : decode cX1_wind 21 = .ok (.istore_n 3, 1) := by decide +kernel
theorem dX1_wind_22 : decode cX1_wind 22 = .ok (.aload_n 0, 1) := by decide +kernel
theorem dX1_wind_23 : decode cX1_wind 23 = .ok (.iload_n 3, 1) := by decide +kernel
theorem dX1_wind_24 : decode cX1_wind 24 = .ok (.iload_n 3, 1) := by decide +kernel
theorem dX1_wind_25 : decode cX1_wind 25 = .ok (.ifCond .ne 22, 3) := by decide +kernel
theorem dX1_wind_28 : decode cX1_wind 28 = .ok (.aload_n 0, 1) := by decide +kernel
theorem dX1_wind_29 : decode cX1_wind 29 = .ok (.getfield 17, 3) := by decide +kernel
theorem dX1_wind_32 : decode cX1_wind 32 = .ok (.iconst 2, 1) := by decide +kernel
theorem dX1_wind_33 : decode cX1_wind 33 = .ok (.iload_n 1, 1) := by decide +kernel
theorem dX1_wind_34 : decode cX1_wind 34 = .ok (.imul, 1) := by decide +kernel
theorem dX1_wind_35 : decode cX1_wind 35 = .ok (.iconst 1, 1) := by decide +kernel
theorem dX1_wind_36 : decode cX1_wind 36 = .ok (.iadd, 1) := by decide +kernel
theorem dX1_wind_37 : decode cX1_wind 37 = .ok (.iaload, 1) := by decide +kernel
theorem dX1_wind_38 : decode cX1_wind 38 = .ok (.bipush 12, 2) := by decide +kernel
theorem dX1_wind_40 : decode cX1_wind 40 = .ok (.if_icmp .ne 7, 3) := by decide +kernel
theorem dX1_wind_43 : decode cX1_wind 43 = .ok (.iconst 1, 1) := by decide +kernel
theorem dX1_wind_44 : decode cX1_wind 44 = .ok (.goto 4, 3) := by decide +kernel
theorem dX1_wind_47 : decode cX1_wind 47 = .ok (.iconst 0, 1) := by decide +kernel
theorem dX1_wind_48 : decode cX1_wind 48 = .ok (.iconst 0, 1) := by decide +kernel
theorem dX1_wind_49 : decode cX1_wind 49 = .ok (.invokevirtual 70, 3) := by decide +kernel
theorem dX1_wind_52 : decode cX1_wind 52 = .ok (.ifCond .eq 5, 3) := by decide +kernel
theorem dX1_wind_55 : decode cX1_wind 55 = .ok (.iconst 0, 1) := by decide +kernel
theorem dX1_wind_56 : decode cX1_wind 56 = .ok (.ireturn, 1) := by decide +kernel
theorem dX1_wind_57 : decode cX1_wind 57 = .ok (.aload_n 0, 1) := by decide +kernel
theorem dX1_wind_58 : decode cX1_wind 58 = .ok (.iconst 2, 1) := by decide +kernel
theorem dX1_wind_59 : decode cX1_wind 59 = .ok (.iload_n 1, 1) := by decide +kernel
theorem dX1_wind_60 : decode cX1_wind 60 = .ok (.imul, 1) := by decide +kernel
theorem dX1_wind_61 : decode cX1_wind 61 = .ok (.iconst 1, 1) := by decide +kernel
theorem dX1_wind_62 : decode cX1_wind 62 = .ok (.iadd, 1) := by decide +kernel
theorem dX1_wind_63 : decode cX1_wind 63 = .ok (.iconst 0, 1) := by decide +kernel
theorem dX1_wind_64 : decode cX1_wind 64 = .ok (.fload_n 2, 1) := by decide +kernel
theorem dX1_wind_65 : decode cX1_wind 65 = .ok (.f2d, 1) := by decide +kernel
theorem dX1_wind_66 : decode cX1_wind 66 = .ok (.invokevirtual 74, 3) := by decide +kernel
theorem dX1_wind_69 : decode cX1_wind 69 = .ok (.ireturn, 1) := by decide +kernel
set_option maxRecDepth 20000 in
theorem ggX1_out_X1_outside : GoodIn wsX1_out wsX1_outside := goodIn_r _ [5] (by decide +kernel) (by decide +kernel)
set_option maxRecDepth 20000 in
theorem gX1_out_X1_outside : GoodIn wsX1_out (va_wsS RX1 62 yX1_outside wsX1_outside) := goodIn_app (goodIn_of _ (by decide +kernel)) ggX1_out_X1_outside
set_option maxRecDepth 20000 in
theorem ggX1_out_X1_throwing : GoodIn wsX1_out wsX1_throwing := goodIn_r _ [9, 10, 17, 18, 19, 20, 21, 22, 23, 24, 25, 26] (by decide +kernel) (by decide +kernel)
set_option maxRecDepth 20000 in
theorem gX1_out_X1_throwing : GoodIn wsX1_out (wsV RX1 70 RX1 yX1_throwing wsX1_throwing) := goodIn_app (goodIn_of _ (by decide +kernel)) ggX1_out_X1_throwing
set_option maxRecDepth 20000 in
theorem ggX1_out_X1_comes : GoodIn wsX1_out wsX1_comes := goodIn_r _ [14, 1, 15, 16, 17, 18, 19, 20, 21, 22, 23, 24, 25, 26] (by decide +kernel) (by decide +kernel)
set_option maxRecDepth 20000 in
theorem gX1_out_X1_comes : GoodIn wsX1_out (wsV RX1 74 RX1 yX1_comes wsX1_comes) := goodIn_app (goodIn_of _ (by decide +kernel)) ggX1_out_X1_comes
theorem dX1_out_0 : decode cX1_out 0 = .ok (.iload_n 1, 1) := by decide +kernel
theorem dX1_out_1 : decode cX1_out 1 = .ok (.iconst 5, 1) := by decide +kernel
theorem dX1_out_2 : decode cX1_out 2 = .ok (.invokestatic 62, 3) := by decide +kernel
theorem dX1_out_5 : decode cX1_out 5 = .ok (.ifCond .ne 11, 3) := by decide +kernel
theorem dX1_out_8 : decode cX1_out 8 = .ok (.iload_n 2, 1) := by decide +kernel
theorem dX1_out_9 : decode cX1_out 9 = .ok (.iconst 1, 1) := by decide +kernel
theorem dX1_out_10 : decode cX1_out 10 = .ok (.invokestatic 62, 3) := by decide +kernel
theorem dX1_out_13 : decode cX1_out 13 = .ok (.ifCond .eq 7, 3) := by decide +kernel
theorem dX1_out_16 : decode cX1_out 16 = .ok (.iconst 1, 1) := by decide +kernel
theorem dX1_out_17 : decode cX1_out 17 = .ok (.goto 4, 3) := by decide +kernel
theorem dX1_out_20 : decode cX1_out 20 = .ok (.iconst 0, 1) := by decide +kernel
theorem dX1_out_21 : decode cX1_out 21 = .ok (.istore_n 3, 1) := by decide +kernel
theorem dX1_out_22 : decode cX1_out 22 = .ok (.aload_n 0, 1) := by decide +kernel
theorem dX1_out_23 : decode cX1_out 23 = .ok (.iload_n 3, 1) := by decide +kernel
theorem dX1_out_24 : decode cX1_out 24 = .ok (.iload_n 3, 1) := by decide +kernel
theorem dX1_out_25 : decode cX1_out 25 = .ok (.ifCond .ne 22, 3) := by decide +kernel
theorem dX1_out_28 : decode cX1_out 28 = .ok (.aload_n 0, 1) := by decide +kernel
theorem dX1_out_29 : decode cX1_out 29 = .ok (.getfield 17, 3) := by decide +kernel
theorem dX1_out_32 : decode cX1_out 32 = .ok (.iconst 2, 1) := by decide +kernel
theorem dX1_out_33 : decode cX1_out 33 = .ok (.iload_n 1, 1) := by decide +kernel
theorem dX1_out_34 : decode cX1_out 34 = .ok (.imul, 1) := by decide +kernel
theorem dX1_out_35 : decode cX1_out 35 = .ok (.iload_n 2, 1) := by decide +kernel
theorem dX1_out_36 : decode cX1_out 36 = .ok (.iadd, 1) := by decide +kernel
theorem dX1_out_37 : decode cX1_out 37 = .ok (.iaload, 1) := by decide +kernel
theorem dX1_out_38 : decode cX1_out 38 = .ok (.bipush 12, 2) := by decide +kernel
theorem dX1_out_40 : decode cX1_out 40 = .ok (.if_icmp .ne 7, 3) := by decide +kernel
theorem dX1_out_43 : decode cX1_out 43 = .ok (.iconst 1, 1) := by decide +kernel
theorem dX1_out_44 : decode cX1_out 44 = .ok (.goto 4, 3) := by decide +kernel
theorem dX1_out_47 : decode cX1_out 47 = .ok (.iconst 0, 1) := by decide +kernel
theorem dX1_out_48 : decode cX1_out 48 = .ok (.iconst 0, 1) := by decide +kernel
theorem dX1_out_49 : decode cX1_out 49 = .ok (.invokevirtual 70, 3) := by decide +kernel
theorem dX1_out_52 : decode cX1_out 52 = .ok (.ifCond .eq 5, 3) := by decide +kernel
theorem dX1_out_55 : decode cX1_out 55 = .ok (.iconst 0, 1) := by decide +kernel
theorem dX1_out_56 : decode cX1_out 56 = .ok (.ireturn, 1) := by decide +kernel
theorem dX1_out_57 : decode cX1_out 57 = .ok (.aload_n 0, 1) := by decide +kernel
theorem dX1_out_58 : decode cX1_out 58 = .ok (.iconst 2, 1) := by decide +kernel
theorem dX1_out_59 : decode cX1_out 59 = .ok (.iload_n 1, 1) := by decide +kernel
theorem dX1_out_60 : decode cX1_out 60 = .ok (.imul, 1) := by decide +kernel
theorem dX1_out_61 : decode cX1_out 61 = .ok (.iload_n 2, 1) := by decide +kernel
theorem dX1_out_62 : decode cX1_out 62 = .ok (.iadd, 1) := by decide +kernel
theorem dX1_out_63 : decode cX1_out 63 = .ok (.iconst 1, 1) := by decide +kernel
theorem dX1_out_64 : decode cX1_out 64 = .ok (.dconst 0, 1) := by decide +kernel
theorem dX1_out_65 : decode cX1_out 65 = .ok (.invokevirtual 74, 3) := by decide +kernel
theorem dX1_out_68 : decode cX1_out 68 = .ok (.ireturn, 1) := by decide +kernel
set_option maxRecDepth 20000 in
theorem ggX1_clear_X1_outside : GoodIn wsX1_clear wsX1_outside := goodIn_r _ [5] (by decide +kernel) (by decide +kernel)
set_option maxRecDepth 20000 in
theorem gX1_clear_X1_outside : GoodIn wsX1_clear (va_wsS RX1 62 yX1_outside wsX1_outside) := goodIn_app (goodIn_of _ (by decide +kernel)) ggX1_clear_X1_outside
set_option maxRecDepth 20000 in
theorem ggX1_clear_X1_throwing : GoodIn wsX1_clear wsX1_throwing := goodIn_r _ [9, 10, 11, 12, 13, 14, 15, 16, 17, 18, 19, 20] (by decide +kernel) (by decide +kernel)
set_option maxRecDepth 20000 in
theorem gX1_clear_X1_throwing : GoodIn wsX1_clear (wsV RX1 70 RX1 yX1_throwing wsX1_throwing) := goodIn_app (goodIn_of _ (by decide +kernel)) ggX1_clear_X1_throwing
theorem dX1_clear_0 : decode cX1_clear 0 = .ok (.aload_n 0, 1) := by decide +kernel
theorem dX1_clear_1 : decode cX1_clear 1 = .ok (.iload_n 1, 1) := by decide +kernel
theorem dX1_clear_2 : decode cX1_clear 2 = .ok (.iconst 5, 1) := by decide +kernel
theorem dX1_clear_3 : decode cX1_clear 3 = .ok (.invokestatic 62, 3) := by decide +kernel
theorem dX1_clear_6 : decode cX1_clear 6 = .ok (.iconst 0, 1) := by decide +kernel
theorem dX1_clear_7 : decode cX1_clear 7 = .ok (.iconst 0, 1) := by decide +kernel
theorem dX1_clear_8 : decode cX1_clear 8 = .ok (.invokevirtual 70, 3) := by decide +kernel
theorem dX1_clear_11 : decode cX1_clear 11 = .ok (.ifCond .eq 5, 3) := by decide +kernel
theorem dX1_clear_14 : decode cX1_clear 14 = .ok (.iconst 0, 1) := by decide +kernel
theorem dX1_clear_15 : decode cX1_clear 15 = .ok (.ireturn, 1) := by decide +kernel
theorem dX1_clear_16 : decode cX1_clear 16 = .ok (.aload_n 0, 1) := by decide +kernel
theorem dX1_clear_17 : decode cX1_clear 17 = .ok (.getfield 17, 3) := by decide +kernel
theorem dX1_clear_20 : decode cX1_clear 20 = .ok (.iconst 2, 1) := by decide +kernel
theorem dX1_clear_21 : decode cX1_clear 21 = .ok (.iload_n 1, 1) := by decide +kernel
theorem dX1_clear_22 : decode cX1_clear 22 = .ok (.imul, 1) := by decide +kernel
theorem dX1_clear_23 : decode cX1_clear 23 = .ok (.iaload, 1) := by decide +kernel
theorem dX1_clear_24 : decode cX1_clear 24 = .ok (.aload_n 0, 1) := by decide +kernel
theorem dX1_clear_25 : decode cX1_clear 25 = .ok (.getfield 17, 3) := by decide +kernel
theorem dX1_clear_28 : decode cX1_clear 28 = .ok (.iconst 2, 1) := by decide +kernel
theorem dX1_clear_29 : decode cX1_clear 29 = .ok (.iload_n 1, 1) := by decide +kernel
theorem dX1_clear_30 : decode cX1_clear 30 = .ok (.imul, 1) := by decide +kernel
theorem dX1_clear_31 : decode cX1_clear 31 = .ok (.iconst 1, 1) := by decide +kernel
theorem dX1_clear_32 : decode cX1_clear 32 = .ok (.iadd, 1) := by decide +kernel
theorem dX1_clear_33 : decode cX1_clear 33 = .ok (.iaload, 1) := by decide +kernel
theorem dX1_clear_34 : decode cX1_clear 34 = .ok (.iadd, 1) := by decide +kernel
theorem dX1_clear_35 : decode cX1_clear 35 = .ok (.istore_n 2, 1) := by decide +kernel
theorem dX1_clear_36 : decode cX1_clear 36 = .ok (.aload_n 0, 1) := by decide +kernel
theorem dX1_clear_37 : decode cX1_clear 37 = .ok (.getfield 17, 3) := by decide +kernel
theorem dX1_clear_40 : decode cX1_clear 40 = .ok (.iconst 2, 1) := by decide +kernel
theorem dX1_clear_41 : decode cX1_clear 41 = .ok (.iload_n 1, 1) := by decide +kernel
theorem dX1_clear_42 : decode cX1_clear 42 = .ok (.imul, 1) := by decide +kernel
theorem dX1_clear_43 : decode cX1_clear 43 = .ok (.iconst 0, 1) := by decide +kernel
theorem dX1_clear_44 : decode cX1_clear 44 = .ok (.iastore, 1) := by decide +kernel
theorem dX1_clear_45 : decode cX1_clear 45 = .ok (.aload_n 0, 1) := by decide +kernel
theorem dX1_clear_46 : decode cX1_clear 46 = .ok (.getfield 17, 3) := by decide +kernel
theorem dX1_clear_49 : decode cX1_clear 49 = .ok (.iconst 2, 1) := by decide +kernel
theorem dX1_clear_50 : decode cX1_clear 50 = .ok (.iload_n 1, 1) := by decide +kernel
theorem dX1_clear_51 : decode cX1_clear 51 = .ok (.imul, 1) := by decide +kernel
theorem dX1_clear_52 : decode cX1_clear 52 = .ok (.iconst 1, 1) := by decide +kernel
theorem dX1_clear_53 : decode cX1_clear 53 = .ok (.iadd, 1) := by decide +kernel
theorem dX1_clear_54 : decode cX1_clear 54 = .ok (.iconst 0, 1) := by decide +kernel
theorem dX1_clear_55 : decode cX1_clear 55 = .ok (.iastore, 1) := by decide +kernel
theorem dX1_clear_56 : decode cX1_clear 56 = .ok (.iload_n 2, 1) := by decide +kernel
theorem dX1_clear_57 : decode cX1_clear 57 = .ok (.ireturn, 1) := by decide +kernel
theorem dX1_marks_0 : decode cX1_marks 0 = .ok (.aload_n 0, 1) := by decide +kernel
theorem dX1_marks_1 : decode cX1_marks 1 = .ok (.getfield 24, 3) := by decide +kernel
theorem dX1_marks_4 : decode cX1_marks 4 = .ok (.iload_n 1, 1) := by decide +kernel
theorem dX1_marks_5 : decode cX1_marks 5 = .ok (.baload, 1) := by decide +kernel
theorem dX1_marks_6 : decode cX1_marks 6 = .ok (.istore 5, 2) := by decide +kernel
theorem dX1_marks_8 : decode cX1_marks 8 = .ok (.aload_n 0, 1) := by decide +kernel
theorem dX1_marks_9 : decode cX1_marks 9 = .ok (.getfield 24, 3) := by decide +kernel
theorem dX1_marks_12 : decode cX1_marks 12 = .ok (.iload_n 1, 1) := by decide +kernel
theorem dX1_marks_13 : decode cX1_marks 13 = .ok (.iload_n 2, 1) := by decide +kernel
theorem dX1_marks_14 : decode cX1_marks 14 = .ok (.bastore, 1) := by decide +kernel
theorem dX1_marks_15 : decode cX1_marks 15 = .ok (.aload_n 0, 1) := by decide +kernel
theorem dX1_marks_16 : decode cX1_marks 16 = .ok (.getfield 21, 3) := by decide +kernel
theorem dX1_marks_19 : decode cX1_marks 19 = .ok (.iload_n 1, 1) := by decide +kernel
theorem dX1_marks_20 : decode cX1_marks 20 = .ok (.dload_n 3, 1) := by decide +kernel
theorem dX1_marks_21 : decode cX1_marks 21 = .ok (.dastore, 1) := by decide +kernel
theorem dX1_marks_22 : decode cX1_marks 22 = .ok (.iload 5, 2) := by decide +kernel
theorem dX1_marks_24 : decode cX1_marks 24 = .ok (.ireturn, 1) := by decide +kernel
set_option maxRecDepth 20000 in
theorem ggX1_mark_X1_outside : GoodIn wsX1_mark wsX1_outside := goodIn_r _ [4] (by decide +kernel) (by decide +kernel)
set_option maxRecDepth 20000 in
theorem gX1_mark_X1_outside : GoodIn wsX1_mark (va_wsS RX1 62 yX1_outside wsX1_outside) := goodIn_app (goodIn_of _ (by decide +kernel)) ggX1_mark_X1_outside
set_option maxRecDepth 20000 in
theorem ggX1_mark_X1_isLevel : GoodIn wsX1_mark wsX1_isLevel := goodIn_r _ [7, 8, 9] (by decide +kernel) (by decide +kernel)
set_option maxRecDepth 20000 in
theorem gX1_mark_X1_isLevel : GoodIn wsX1_mark (va_wsS RX1 66 yX1_isLevel wsX1_isLevel) := goodIn_app (goodIn_of _ (by decide +kernel)) ggX1_mark_X1_isLevel
set_option maxRecDepth 20000 in
theorem ggX1_mark_X1_throwing : GoodIn wsX1_mark wsX1_throwing := goodIn_r _ [13, 14, 21, 22, 23, 24, 25, 26, 27, 28, 29, 30] (by decide +kernel) (by decide +kernel)
set_option maxRecDepth 20000 in
theorem gX1_mark_X1_throwing : GoodIn wsX1_mark (wsV RX1 70 RX1 yX1_throwing wsX1_throwing) := goodIn_app (goodIn_of _ (by decide +kernel)) ggX1_mark_X1_throwing
set_option maxRecDepth 20000 in
theorem ggX1_mark_X1_marks : GoodIn wsX1_mark wsX1_marks := goodIn_r _ [18, 19, 20, 21, 22, 23, 24, 25, 26, 27, 28, 29, 30] (by decide +kernel) (by decide +kernel)
set_option maxRecDepth 20000 in
theorem gX1_mark_X1_marks : GoodIn wsX1_mark (wsV RX1 81 RX1 yX1_marks wsX1_marks) := goodIn_app (goodIn_of _ (by decide +kernel)) ggX1_mark_X1_marks
theorem dX1_mark_0 : decode cX1_mark 0 = .ok (.aload_n 0, 1) := by decide +kernel
theorem dX1_mark_1 : decode cX1_mark 1 = .ok (.iload_n 1, 1) := by decide +kernel
theorem dX1_mark_2 : decode cX1_mark 2 = .ok (.iconst 5, 1) := by decide +kernel
theorem dX1_mark_3 : decode cX1_mark 3 = .ok (.invokestatic 62, 3) := by decide +kernel
theorem dX1_mark_6 : decode cX1_mark 6 = .ok (.ifCond .ne 18, 3) := by decide +kernel
theorem dX1_mark_9 : decode cX1_mark 9 = .ok (.iload_n 2, 1) := by decide +kernel
theorem dX1_mark_10 : decode cX1_mark 10 = .ok (.iconst 1, 1) := by decide +kernel
theorem dX1_mark_11 : decode cX1_mark 11 = .ok (.invokestatic 62, 3) := by decide +kernel
theorem dX1_mark_14 : decode cX1_mark 14 = .ok (.ifCond .ne 10, 3) := by decide +kernel
theorem dX1_mark_17 : decode cX1_mark 17 = .ok (.dload_n 3, 1) := by decide +kernel
theorem dX1_mark_18 : decode cX1_mark 18 = .ok (.invokestatic 66, 3) := by decide +kernel
theorem dX1_mark_21 : decode cX1_mark 21 = .ok (.ifCond .ne 7, 3) := by decide +kernel
theorem dX1_mark_24 : decode cX1_mark 24 = .ok (.iconst 1, 1) := by decide +kernel
theorem dX1_mark_25 : decode cX1_mark 25 = .ok (.goto 4, 3) := by decide +kernel
theorem dX1_mark_28 : decode cX1_mark 28 = .ok (.iconst 0, 1) := by decide +kernel
theorem dX1_mark_29 : decode cX1_mark 29 = .ok (.iconst 0, 1) := by decide +kernel
theorem dX1_mark_30 : decode cX1_mark 30 = .ok (.iconst 0, 1) := by decide +kernel
theorem dX1_mark_31 : decode cX1_mark 31 = .ok (.invokevirtual 70, 3) := by decide +kernel
theorem dX1_mark_34 : decode cX1_mark 34 = .ok (.ifCond .eq 5, 3) := by decide +kernel
theorem dX1_mark_37 : decode cX1_mark 37 = .ok (.iconst 0, 1) := by decide +kernel
theorem dX1_mark_38 : decode cX1_mark 38 = .ok (.ireturn, 1) := by decide +kernel
theorem dX1_mark_39 : decode cX1_mark 39 = .ok (.aload_n 0, 1) := by decide +kernel
theorem dX1_mark_40 : decode cX1_mark 40 = .ok (.iconst 3, 1) := by decide +kernel
theorem dX1_mark_41 : decode cX1_mark 41 = .ok (.iload_n 1, 1) := by decide +kernel
theorem dX1_mark_42 : decode cX1_mark 42 = .ok (.imul, 1) := by decide +kernel
theorem dX1_mark_43 : decode cX1_mark 43 = .ok (.iload_n 2, 1) := by decide +kernel
theorem dX1_mark_44 : decode cX1_mark 44 = .ok (.iadd, 1) := by decide +kernel
theorem dX1_mark_45 : decode cX1_mark 45 = .ok (.iconst 1, 1) := by decide +kernel
theorem dX1_mark_46 : decode cX1_mark 46 = .ok (.dload_n 3, 1) := by decide +kernel
theorem dX1_mark_47 : decode cX1_mark 47 = .ok (.invokevirtual 81, 3) := by decide +kernel
theorem dX1_mark_50 : decode cX1_mark 50 = .ok (.ireturn, 1) := by decide +kernel
set_option maxRecDepth 20000 in
theorem ggX1_gale_X1_outside : GoodIn wsX1_gale wsX1_outside := goodIn_r _ [4] (by decide +kernel) (by decide +kernel)
set_option maxRecDepth 20000 in
theorem gX1_gale_X1_outside : GoodIn wsX1_gale (va_wsS RX1 62 yX1_outside wsX1_outside) := goodIn_app (goodIn_of _ (by decide +kernel)) ggX1_gale_X1_outside
set_option maxRecDepth 20000 in
theorem ggX1_gale_X1_isWind : GoodIn wsX1_gale wsX1_isWind := goodIn_r _ [7, 8] (by decide +kernel) (by decide +kernel)
set_option maxRecDepth 20000 in
theorem gX1_gale_X1_isWind : GoodIn wsX1_gale (va_wsS RX1 78 yX1_isWind wsX1_isWind) := goodIn_app (goodIn_of _ (by decide +kernel)) ggX1_gale_X1_isWind
set_option maxRecDepth 20000 in
theorem ggX1_gale_X1_throwing : GoodIn wsX1_gale wsX1_throwing := goodIn_r _ [12, 13, 20, 21, 22, 23, 24, 25, 26, 27, 28, 29] (by decide +kernel) (by decide +kernel)
set_option maxRecDepth 20000 in
theorem gX1_gale_X1_throwing : GoodIn wsX1_gale (wsV RX1 70 RX1 yX1_throwing wsX1_throwing) := goodIn_app (goodIn_of _ (by decide +kernel)) ggX1_gale_X1_throwing
set_option maxRecDepth 20000 in
theorem ggX1_gale_X1_marks : GoodIn wsX1_gale wsX1_marks := goodIn_r _ [17, 18, 19, 20, 21, 22, 23, 24, 25, 26, 27, 28, 29] (by decide +kernel) (by decide +kernel)
set_option maxRecDepth 20000 in
theorem gX1_gale_X1_marks : GoodIn wsX1_gale (wsV RX1 81 RX1 yX1_marks wsX1_marks) := goodIn_app (goodIn_of _ (by decide +kernel)) ggX1_gale_X1_marks
theorem dX1_gale_0 : decode cX1_gale 0 = .ok (.aload_n 0, 1) := by decide +kernel
theorem dX1_gale_1 : decode cX1_gale 1 = .ok (.iload_n 1, 1) := by decide +kernel
theorem dX1_gale_2 : decode cX1_gale 2 = .ok (.iconst 5, 1) := by decide +kernel
theorem dX1_gale_3 : decode cX1_gale 3 = .ok (.invokestatic 62, 3) := by decide +kernel
theorem dX1_gale_6 : decode cX1_gale 6 = .ok (.ifCond .ne 11, 3) := by decide +kernel
theorem dX1_gale_9 : decode cX1_gale 9 = .ok (.fload_n 2, 1) := by decide +kernel
theorem dX1_gale_10 : decode cX1_gale 10 = .ok (.f2d, 1) := by decide +kernel
theorem dX1_gale_11 : decode cX1_gale 11 = .ok (.invokestatic 78, 3) := by decide +kernel
theorem dX1_gale_14 : decode cX1_gale 14 = .ok (.ifCond .ne 7, 3) := by decide +kernel
theorem dX1_gale_17 : decode cX1_gale 17 = .ok (.iconst 1, 1) := by decide +kernel
theorem dX1_gale_18 : decode cX1_gale 18 = .ok (.goto 4, 3) := by decide +kernel
theorem dX1_gale_21 : decode cX1_gale 21 = .ok (.iconst 0, 1) := by decide +kernel
theorem dX1_gale_22 : decode cX1_gale 22 = .ok (.iconst 0, 1) := by decide +kernel
theorem dX1_gale_23 : decode cX1_gale 23 = .ok (.iconst 0, 1) := by decide +kernel
theorem dX1_gale_24 : decode cX1_gale 24 = .ok (.invokevirtual 70, 3) := by decide +kernel
theorem dX1_gale_27 : decode cX1_gale 27 = .ok (.ifCond .eq 5, 3) := by decide +kernel
theorem dX1_gale_30 : decode cX1_gale 30 = .ok (.iconst 0, 1) := by decide +kernel
theorem dX1_gale_31 : decode cX1_gale 31 = .ok (.ireturn, 1) := by decide +kernel
theorem dX1_gale_32 : decode cX1_gale 32 = .ok (.aload_n 0, 1) := by decide +kernel
theorem dX1_gale_33 : decode cX1_gale 33 = .ok (.iconst 3, 1) := by decide +kernel
theorem dX1_gale_34 : decode cX1_gale 34 = .ok (.iload_n 1, 1) := by decide +kernel
theorem dX1_gale_35 : decode cX1_gale 35 = .ok (.imul, 1) := by decide +kernel
theorem dX1_gale_36 : decode cX1_gale 36 = .ok (.iconst 2, 1) := by decide +kernel
theorem dX1_gale_37 : decode cX1_gale 37 = .ok (.iadd, 1) := by decide +kernel
theorem dX1_gale_38 : decode cX1_gale 38 = .ok (.iconst 1, 1) := by decide +kernel
theorem dX1_gale_39 : decode cX1_gale 39 = .ok (.fload_n 2, 1) := by decide +kernel
theorem dX1_gale_40 : decode cX1_gale 40 = .ok (.f2d, 1) := by decide +kernel
theorem dX1_gale_41 : decode cX1_gale 41 = .ok (.invokevirtual 81, 3) := by decide +kernel
theorem dX1_gale_44 : decode cX1_gale 44 = .ok (.ireturn, 1) := by decide +kernel
set_option maxRecDepth 20000 in
theorem ggX1_lift_X1_outside : GoodIn wsX1_lift wsX1_outside := goodIn_r _ [4] (by decide +kernel) (by decide +kernel)
set_option maxRecDepth 20000 in
theorem gX1_lift_X1_outside : GoodIn wsX1_lift (va_wsS RX1 62 yX1_outside wsX1_outside) := goodIn_app (goodIn_of _ (by decide +kernel)) ggX1_lift_X1_outside
set_option maxRecDepth 20000 in
theorem ggX1_lift_X1_throwing : GoodIn wsX1_lift wsX1_throwing := goodIn_r _ [8, 9, 16, 17, 18, 19, 20, 21, 22, 23, 24, 25] (by decide +kernel) (by decide +kernel)
set_option maxRecDepth 20000 in
theorem gX1_lift_X1_throwing : GoodIn wsX1_lift (wsV RX1 70 RX1 yX1_throwing wsX1_throwing) := goodIn_app (goodIn_of _ (by decide +kernel)) ggX1_lift_X1_throwing
set_option maxRecDepth 20000 in
theorem ggX1_lift_X1_marks : GoodIn wsX1_lift wsX1_marks := goodIn_r _ [13, 14, 15, 16, 17, 18, 19, 20, 21, 22, 23, 24, 25] (by decide +kernel) (by decide +kernel)
set_option maxRecDepth 20000 in
theorem gX1_lift_X1_marks : GoodIn wsX1_lift (wsV RX1 81 RX1 yX1_marks wsX1_marks) := goodIn_app (goodIn_of _ (by decide +kernel)) ggX1_lift_X1_marks
theorem dX1_lift_0 : decode cX1_lift 0 = .ok (.aload_n 0, 1) := by decide +kernel
theorem dX1_lift_1 : decode cX1_lift 1 = .ok (.iload_n 1, 1) := by decide +kernel
theorem dX1_lift_2 : decode cX1_lift 2 = .ok (.iconst 5, 1) := by decide +kernel
theorem dX1_lift_3 : decode cX1_lift 3 = .ok (.invokestatic 62, 3) := by decide +kernel
theorem dX1_lift_6 : decode cX1_lift 6 = .ok (.ifCond .ne 11, 3) := by decide +kernel
theorem dX1_lift_9 : decode cX1_lift 9 = .ok (.iload_n 2, 1) := by decide +kernel
theorem dX1_lift_10 : decode cX1_lift 10 = .ok (.iconst 2, 1) := by decide +kernel
theorem dX1_lift_11 : decode cX1_lift 11 = .ok (.invokestatic 62, 3) := by decide +kernel
theorem dX1_lift_14 : decode cX1_lift 14 = .ok (.ifCond .eq 7, 3) := by decide +kernel
theorem dX1_lift_17 : decode cX1_lift 17 = .ok (.iconst 1, 1) := by decide +kernel
theorem dX1_lift_18 : decode cX1_lift 18 = .ok (.goto 4, 3) := by decide +kernel
theorem dX1_lift_21 : decode cX1_lift 21 = .ok (.iconst 0, 1) := by decide +kernel
theorem dX1_lift_22 : decode cX1_lift 22 = .ok (.iconst 0, 1) := by decide +kernel
theorem dX1_lift_23 : decode cX1_lift 23 = .ok (.iconst 0, 1) := by decide +kernel
theorem dX1_lift_24 : decode cX1_lift 24 = .ok (.invokevirtual 70, 3) := by decide +kernel
theorem dX1_lift_27 : decode cX1_lift 27 = .ok (.ifCond .eq 5, 3) := by decide +kernel
theorem dX1_lift_30 : decode cX1_lift 30 = .ok (.iconst 0, 1) := by decide +kernel
theorem dX1_lift_31 : decode cX1_lift 31 = .ok (.ireturn, 1) := by decide +kernel
theorem dX1_lift_32 : decode cX1_lift 32 = .ok (.aload_n 0, 1) := by decide +kernel
theorem dX1_lift_33 : decode cX1_lift 33 = .ok (.iconst 3, 1) := by decide +kernel
theorem dX1_lift_34 : decode cX1_lift 34 = .ok (.iload_n 1, 1) := by decide +kernel
theorem dX1_lift_35 : decode cX1_lift 35 = .ok (.imul, 1) := by decide +kernel
theorem dX1_lift_36 : decode cX1_lift 36 = .ok (.iload_n 2, 1) := by decide +kernel
theorem dX1_lift_37 : decode cX1_lift 37 = .ok (.iadd, 1) := by decide +kernel
theorem dX1_lift_38 : decode cX1_lift 38 = .ok (.iconst 0, 1) := by decide +kernel
theorem dX1_lift_39 : decode cX1_lift 39 = .ok (.dconst 0, 1) := by decide +kernel
theorem dX1_lift_40 : decode cX1_lift 40 = .ok (.invokevirtual 81, 3) := by decide +kernel
theorem dX1_lift_43 : decode cX1_lift 43 = .ok (.ireturn, 1) := by decide +kernel
set_option maxRecDepth 20000 in
theorem ggX1_probes_X1_latestOut : GoodIn wsX1_probes wsX1_latestOut := goodIn_r _ [7, 8, 9, 10, 11, 12, 6, 13, 28, 29, 30, 31, 32, 33, 34, 35, 36, 37] (by decide +kernel) (by decide +kernel)
set_option maxRecDepth 20000 in
theorem gX1_probes_X1_latestOut : GoodIn wsX1_probes (wsV RX1 50 RX1 yX1_latestOut wsX1_latestOut) := goodIn_app (goodIn_of _ (by decide +kernel)) ggX1_probes_X1_latestOut
set_option maxRecDepth 20000 in
theorem ggX1_probes_X1_latestValue : GoodIn wsX1_probes wsX1_latestValue := goodIn_r _ [17, 8, 18, 10, 11, 12, 6, 13, 28, 29, 30, 31, 32, 33, 34, 35, 36, 37] (by decide +kernel) (by decide +kernel)
set_option maxRecDepth 20000 in
theorem gX1_probes_X1_latestValue : GoodIn wsX1_probes (wsV RX1 54 RX1 yX1_latestValue wsX1_latestValue) := goodIn_app (goodIn_of _ (by decide +kernel)) ggX1_probes_X1_latestValue
set_option maxRecDepth 20000 in
theorem ggX1_probes_X1_way : GoodIn wsX1_probes wsX1_way := goodIn_r _ [21] (by decide +kernel) (by decide +kernel)
set_option maxRecDepth 20000 in
theorem gX1_probes_X1_way : GoodIn wsX1_probes (va_wsS RX1 58 yX1_way wsX1_way) := goodIn_app (goodIn_of _ (by decide +kernel)) ggX1_probes_X1_way
set_option maxRecDepth 20000 in
theorem ggX1_probes_X1_is : GoodIn wsX1_probes wsX1_is := goodIn_r _ [24, 25, 26, 6, 27] (by decide +kernel) (by decide +kernel)
set_option maxRecDepth 20000 in
theorem gX1_probes_X1_is : GoodIn wsX1_probes (va_wsS RX1 85 yX1_is wsX1_is) := goodIn_app (goodIn_of _ (by decide +kernel)) ggX1_probes_X1_is
theorem dX1_probes_0 : decode cX1_probes 0 = .ok (.aload_n 0, 1) := by decide +kernel
theorem dX1_probes_1 : decode cX1_probes 1 = .ok (.getfield 30, 3) := by decide +kernel
theorem dX1_probes_4 : decode cX1_probes 4 = .ok (.iload_n 1, 1) := by decide +kernel
theorem dX1_probes_5 : decode cX1_probes 5 = .ok (.iload_n 2, 1) := by decide +kernel
theorem dX1_probes_6 : decode cX1_probes 6 = .ok (.bastore, 1) := by decide +kernel
theorem dX1_probes_7 : decode cX1_probes 7 = .ok (.aload_n 0, 1) := by decide +kernel
theorem dX1_probes_8 : decode cX1_probes 8 = .ok (.getfield 27, 3) := by decide +kernel
theorem dX1_probes_11 : decode cX1_probes 11 = .ok (.iload_n 1, 1) := by decide +kernel
theorem dX1_probes_12 : decode cX1_probes 12 = .ok (.dload_n 3, 1) := by decide +kernel
theorem dX1_probes_13 : decode cX1_probes 13 = .ok (.dastore, 1) := by decide +kernel
theorem dX1_probes_14 : decode cX1_probes 14 = .ok (.iconst 0, 1) := by decide +kernel
theorem dX1_probes_15 : decode cX1_probes 15 = .ok (.istore 6, 2) := by decide +kernel
theorem dX1_probes_17 : decode cX1_probes 17 = .ok (.iconst 0, 1) := by decide +kernel
theorem dX1_probes_18 : decode cX1_probes 18 = .ok (.istore 7, 2) := by decide +kernel
theorem dX1_probes_20 : decode cX1_probes 20 = .ok (.iload 7, 2) := by decide +kernel
theorem dX1_probes_22 : decode cX1_probes 22 = .ok (.bipush 6, 2) := by decide +kernel
theorem dX1_probes_24 : decode cX1_probes 24 = .ok (.if_icmp .ge 64, 3) := by decide +kernel
theorem dX1_probes_27 : decode cX1_probes 27 = .ok (.iconst 2, 1) := by decide +kernel
theorem dX1_probes_28 : decode cX1_probes 28 = .ok (.iload 7, 2) := by decide +kernel
theorem dX1_probes_30 : decode cX1_probes 30 = .ok (.imul, 1) := by decide +kernel
theorem dX1_probes_31 : decode cX1_probes 31 = .ok (.iload_n 1, 1) := by decide +kernel
theorem dX1_probes_32 : decode cX1_probes 32 = .ok (.iadd, 1) := by decide +kernel
theorem dX1_probes_33 : decode cX1_probes 33 = .ok (.istore 8, 2) := by decide +kernel
theorem dX1_probes_35 : decode cX1_probes 35 = .ok (.iload 5, 2) := by decide +kernel
theorem dX1_probes_37 : decode cX1_probes 37 = .ok (.aload_n 0, 1) := by decide +kernel
theorem dX1_probes_38 : decode cX1_probes 38 = .ok (.iload 8, 2) := by decide +kernel
theorem dX1_probes_40 : decode cX1_probes 40 = .ok (.invokevirtual 50, 3) := by decide +kernel
theorem dX1_probes_43 : decode cX1_probes 43 = .ok (.ifCond .ne 7, 3) := by decide +kernel
theorem dX1_probes_46 : decode cX1_probes 46 = .ok (.iload_n 2, 1) := by decide +kernel
theorem dX1_probes_47 : decode cX1_probes 47 = .ok (.ifCond .ne 7, 3) := by decide +kernel
theorem dX1_probes_50 : decode cX1_probes 50 = .ok (.iconst 1, 1) := by decide +kernel
theorem dX1_probes_51 : decode cX1_probes 51 = .ok (.goto 4, 3) := by decide +kernel
theorem dX1_probes_54 : decode cX1_probes 54 = .ok (.iconst 0, 1) := by decide +kernel
theorem dX1_probes_55 : decode cX1_probes 55 = .ok (.aload_n 0, 1) := by decide +kernel
theorem dX1_probes_56 : decode cX1_probes 56 = .ok (.iload 8, 2) := by decide +kernel
theorem dX1_probes_58 : decode cX1_probes 58 = .ok (.invokevirtual 54, 3) := by decide +kernel
theorem dX1_probes_61 : decode cX1_probes 61 = .ok (.dload_n 3, 1) := by decide +kernel
theorem dX1_probes_62 : decode cX1_probes 62 = .ok (.invokestatic 58, 3) := by decide +kernel
theorem dX1_probes_65 : decode cX1_probes 65 = .ok (.invokestatic 85, 3) := by decide +kernel
theorem dX1_probes_68 : decode cX1_probes 68 = .ok (.ifCond .eq 10, 3) := by decide +kernel
theorem dX1_probes_71 : decode cX1_probes 71 = .ok (.iload 6, 2) := by decide +kernel
theorem dX1_probes_73 : decode cX1_probes 73 = .ok (.iconst 1, 1) := by decide +kernel
theorem dX1_probes_74 : decode cX1_probes 74 = .ok (.iadd, 1) := by decide +kernel
theorem dX1_probes_75 : decode cX1_probes 75 = .ok (.goto 5, 3) := by decide +kernel
theorem dX1_probes_78 : decode cX1_probes 78 = .ok (.iload 6, 2) := by decide +kernel
theorem dX1_probes_80 : decode cX1_probes 80 = .ok (.istore 6, 2) := by decide +kernel
theorem dX1_probes_82 : decode cX1_probes 82 = .ok (.iinc 7 1, 3) := by decide +kernel
theorem dX1_probes_85 : decode cX1_probes 85 = .ok (.goto (-65), 3) := by decide +kernel
theorem dX1_probes_88 : decode cX1_probes 88 = .ok (.iload 6, 2) := by decide +kernel
theorem dX1_probes_90 : decode cX1_probes 90 = .ok (.ireturn, 1) := by decide +kernel
set_option maxRecDepth 20000 in
theorem ggX1_probe_X1_isLevel : GoodIn wsX1_probe wsX1_isLevel := goodIn_r _ [4, 5, 6] (by decide +kernel) (by decide +kernel)
set_option maxRecDepth 20000 in
theorem gX1_probe_X1_isLevel : GoodIn wsX1_probe (va_wsS RX1 66 yX1_isLevel wsX1_isLevel) := goodIn_app (goodIn_of _ (by decide +kernel)) ggX1_probe_X1_isLevel
set_option maxRecDepth 20000 in
theorem ggX1_probe_X1_throwing : GoodIn wsX1_probe wsX1_throwing := goodIn_r _ [10, 11, 42, 43, 44, 45, 46, 47, 48, 49, 50, 51] (by decide +kernel) (by decide +kernel)
set_option maxRecDepth 20000 in
theorem gX1_probe_X1_throwing : GoodIn wsX1_probe (wsV RX1 70 RX1 yX1_throwing wsX1_throwing) := goodIn_app (goodIn_of _ (by decide +kernel)) ggX1_probe_X1_throwing
set_option maxRecDepth 20000 in
theorem ggX1_probe_X1_probes : GoodIn wsX1_probe wsX1_probes := goodIn_r _ [15, 16, 17, 18, 19, 20, 3, 21, 22, 23, 24, 25, 26, 27, 28, 29, 30, 31, 32, 33, 34, 35, 36, 37, 38, 39, 40, 41, 42, 43, 44, 45, 46, 47, 48, 49, 50, 51] (by decide +kernel) (by decide +kernel)
set_option maxRecDepth 20000 in
theorem gX1_probe_X1_probes : GoodIn wsX1_probe (wsV RX1 88 RX1 yX1_probes wsX1_probes) := goodIn_app (goodIn_of _ (by decide +kernel)) ggX1_probe_X1_probes
theorem dX1_probe_0 : decode cX1_probe 0 = .ok (.aload_n 0, 1) := by decide +kernel
theorem dX1_probe_1 : decode cX1_probe 1 = .ok (.dload_n 1, 1) := by decide +kernel
theorem dX1_probe_2 : decode cX1_probe 2 = .ok (.invokestatic 66, 3) := by decide +kernel
theorem dX1_probe_5 : decode cX1_probe 5 = .ok (.ifCond .ne 7, 3) := by decide +kernel
theorem dX1_probe_8 : decode cX1_probe 8 = .ok (.iconst 1, 1) := by decide +kernel
theorem dX1_probe_9 : decode cX1_probe 9 = .ok (.goto 4, 3) := by decide +kernel
theorem dX1_probe_12 : decode cX1_probe 12 = .ok (.iconst 0, 1) := by decide +kernel
theorem dX1_probe_13 : decode cX1_probe 13 = .ok (.iconst 0, 1) := by decide +kernel
theorem dX1_probe_14 : decode cX1_probe 14 = .ok (.iconst 0, 1) := by decide +kernel
theorem dX1_probe_15 : decode cX1_probe 15 = .ok (.invokevirtual 70, 3) := by decide +kernel
theorem dX1_probe_18 : decode cX1_probe 18 = .ok (.ifCond .eq 5, 3) := by decide +kernel
theorem dX1_probe_21 : decode cX1_probe 21 = .ok (.iconst 0, 1) := by decide +kernel
theorem dX1_probe_22 : decode cX1_probe 22 = .ok (.ireturn, 1) := by decide +kernel
theorem dX1_probe_23 : decode cX1_probe 23 = .ok (.aload_n 0, 1) := by decide +kernel
theorem dX1_probe_24 : decode cX1_probe 24 = .ok (.iconst 0, 1) := by decide +kernel
theorem dX1_probe_25 : decode cX1_probe 25 = .ok (.iconst 1, 1) := by decide +kernel
theorem dX1_probe_26 : decode cX1_probe 26 = .ok (.dload_n 1, 1) := by decide +kernel
theorem dX1_probe_27 : decode cX1_probe 27 = .ok (.iconst 4, 1) := by decide +kernel
theorem dX1_probe_28 : decode cX1_probe 28 = .ok (.invokevirtual 88, 3) := by decide +kernel
theorem dX1_probe_31 : decode cX1_probe 31 = .ok (.ireturn, 1) := by decide +kernel
set_option maxRecDepth 20000 in
theorem ggX1_probeWind_X1_isWind : GoodIn wsX1_probeWind wsX1_isWind := goodIn_r _ [4, 5] (by decide +kernel) (by decide +kernel)
set_option maxRecDepth 20000 in
theorem gX1_probeWind_X1_isWind : GoodIn wsX1_probeWind (va_wsS RX1 78 yX1_isWind wsX1_isWind) := goodIn_app (goodIn_of _ (by decide +kernel)) ggX1_probeWind_X1_isWind
set_option maxRecDepth 20000 in
theorem ggX1_probeWind_X1_throwing : GoodIn wsX1_probeWind wsX1_throwing := goodIn_r _ [9, 10, 41, 42, 43, 44, 45, 46, 47, 48, 49, 50] (by decide +kernel) (by decide +kernel)
set_option maxRecDepth 20000 in
theorem gX1_probeWind_X1_throwing : GoodIn wsX1_probeWind (wsV RX1 70 RX1 yX1_throwing wsX1_throwing) := goodIn_app (goodIn_of _ (by decide +kernel)) ggX1_probeWind_X1_throwing
set_option maxRecDepth 20000 in
theorem ggX1_probeWind_X1_probes : GoodIn wsX1_probeWind wsX1_probes := goodIn_r _ [14, 15, 16, 17, 18, 19, 3, 20, 21, 22, 23, 24, 25, 26, 27, 28, 29, 30, 31, 32, 33, 34, 35, 36, 37, 38, 39, 40, 41, 42, 43, 44, 45, 46, 47, 48, 49, 50] (by decide +kernel) (by decide +kernel)
set_option maxRecDepth 20000 in
theorem gX1_probeWind_X1_probes : GoodIn wsX1_probeWind (wsV RX1 88 RX1 yX1_probes wsX1_probes) := goodIn_app (goodIn_of _ (by decide +kernel)) ggX1_probeWind_X1_probes
theorem dX1_probeWind_0 : decode cX1_probeWind 0 = .ok (.aload_n 0, 1) := by decide +kernel
theorem dX1_probeWind_1 : decode cX1_probeWind 1 = .ok (.fload_n 1, 1) := by decide +kernel
theorem dX1_probeWind_2 : decode cX1_probeWind 2 = .ok (.f2d, 1) := by decide +kernel
theorem dX1_probeWind_3 : decode cX1_probeWind 3 = .ok (.invokestatic 78, 3) := by decide +kernel
theorem dX1_probeWind_6 : decode cX1_probeWind 6 = .ok (.ifCond .ne 7, 3) := by decide +kernel
theorem dX1_probeWind_9 : decode cX1_probeWind 9 = .ok (.iconst 1, 1) := by decide +kernel
theorem dX1_probeWind_10 : decode cX1_probeWind 10 = .ok (.goto 4, 3) := by decide +kernel
theorem dX1_probeWind_13 : decode cX1_probeWind 13 = .ok (.iconst 0, 1) := by decide +kernel
theorem dX1_probeWind_14 : decode cX1_probeWind 14 = .ok (.iconst 0, 1) := by decide +kernel
theorem dX1_probeWind_15 : decode cX1_probeWind 15 = .ok (.iconst 0, 1) := by decide +kernel
theorem dX1_probeWind_16 : decode cX1_probeWind 16 = .ok (.invokevirtual 70, 3) := by decide +kernel
theorem dX1_probeWind_19 : decode cX1_probeWind 19 = .ok (.ifCond .eq 5, 3) := by decide +kernel
theorem dX1_probeWind_22 : decode cX1_probeWind 22 = .ok (.iconst 0, 1) := by decide +kernel
theorem dX1_probeWind_23 : decode cX1_probeWind 23 = .ok (.ireturn, 1) := by decide +kernel
theorem dX1_probeWind_24 : decode cX1_probeWind 24 = .ok (.aload_n 0, 1) := by decide +kernel
theorem dX1_probeWind_25 : decode cX1_probeWind 25 = .ok (.iconst 1, 1) := by decide +kernel
theorem dX1_probeWind_26 : decode cX1_probeWind 26 = .ok (.iconst 1, 1) := by decide +kernel
theorem dX1_probeWind_27 : decode cX1_probeWind 27 = .ok (.fload_n 1, 1) := by decide +kernel
theorem dX1_probeWind_28 : decode cX1_probeWind 28 = .ok (.f2d, 1) := by decide +kernel
theorem dX1_probeWind_29 : decode cX1_probeWind 29 = .ok (.iconst 4, 1) := by decide +kernel
theorem dX1_probeWind_30 : decode cX1_probeWind 30 = .ok (.invokevirtual 88, 3) := by decide +kernel
theorem dX1_probeWind_33 : decode cX1_probeWind 33 = .ok (.ireturn, 1) := by decide +kernel
set_option maxRecDepth 20000 in
theorem ggX1_probeOut_X1_outside : GoodIn wsX1_probeOut wsX1_outside := goodIn_r _ [4] (by decide +kernel) (by decide +kernel)
set_option maxRecDepth 20000 in
theorem gX1_probeOut_X1_outside : GoodIn wsX1_probeOut (va_wsS RX1 62 yX1_outside wsX1_outside) := goodIn_app (goodIn_of _ (by decide +kernel)) ggX1_probeOut_X1_outside
set_option maxRecDepth 20000 in
theorem ggX1_probeOut_X1_throwing : GoodIn wsX1_probeOut wsX1_throwing := goodIn_r _ [8, 9, 40, 41, 42, 43, 44, 45, 46, 47, 48, 49] (by decide +kernel) (by decide +kernel)
set_option maxRecDepth 20000 in
theorem gX1_probeOut_X1_throwing : GoodIn wsX1_probeOut (wsV RX1 70 RX1 yX1_throwing wsX1_throwing) := goodIn_app (goodIn_of _ (by decide +kernel)) ggX1_probeOut_X1_throwing
set_option maxRecDepth 20000 in
theorem ggX1_probeOut_X1_probes : GoodIn wsX1_probeOut wsX1_probes := goodIn_r _ [13, 14, 15, 16, 17, 18, 3, 19, 20, 21, 22, 23, 24, 25, 26, 27, 28, 29, 30, 31, 32, 33, 34, 35, 36, 37, 38, 39, 40, 41, 42, 43, 44, 45, 46, 47, 48, 49] (by decide +kernel) (by decide +kernel)
set_option maxRecDepth 20000 in
theorem gX1_probeOut_X1_probes : GoodIn wsX1_probeOut (wsV RX1 88 RX1 yX1_probes wsX1_probes) := goodIn_app (goodIn_of _ (by decide +kernel)) ggX1_probeOut_X1_probes
theorem dX1_probeOut_0 : decode cX1_probeOut 0 = .ok (.aload_n 0, 1) := by decide +kernel
theorem dX1_probeOut_1 : decode cX1_probeOut 1 = .ok (.iload_n 1, 1) := by decide +kernel
theorem dX1_probeOut_2 : decode cX1_probeOut 2 = .ok (.iconst 1, 1) := by decide +kernel
theorem dX1_probeOut_3 : decode cX1_probeOut 3 = .ok (.invokestatic 62, 3) := by decide +kernel
theorem dX1_probeOut_6 : decode cX1_probeOut 6 = .ok (.iconst 0, 1) := by decide +kernel
theorem dX1_probeOut_7 : decode cX1_probeOut 7 = .ok (.iconst 0, 1) := by decide +kernel
theorem dX1_probeOut_8 : decode cX1_probeOut 8 = .ok (.invokevirtual 70, 3) := by decide +kernel
theorem dX1_probeOut_11 : decode cX1_probeOut 11 = .ok (.ifCond .eq 5, 3) := by decide +kernel
theorem dX1_probeOut_14 : decode cX1_probeOut 14 = .ok (.iconst 0, 1) := by decide +kernel
theorem dX1_probeOut_15 : decode cX1_probeOut 15 = .ok (.ireturn, 1) := by decide +kernel
theorem dX1_probeOut_16 : decode cX1_probeOut 16 = .ok (.aload_n 0, 1) := by decide +kernel
theorem dX1_probeOut_17 : decode cX1_probeOut 17 = .ok (.iload_n 1, 1) := by decide +kernel
theorem dX1_probeOut_18 : decode cX1_probeOut 18 = .ok (.iconst 0, 1) := by decide +kernel
theorem dX1_probeOut_19 : decode cX1_probeOut 19 = .ok (.dconst 0, 1) := by decide +kernel
theorem dX1_probeOut_20 : decode cX1_probeOut 20 = .ok (.iconst 5, 1) := by decide +kernel
theorem dX1_probeOut_21 : decode cX1_probeOut 21 = .ok (.invokevirtual 88, 3) := by decide +kernel
theorem dX1_probeOut_24 : decode cX1_probeOut 24 = .ok (.ireturn, 1) := by decide +kernel
set_option maxRecDepth 20000 in
theorem ggX1_run_X1_outside : GoodIn wsX1_run wsX1_outside := goodIn_r _ [5] (by decide +kernel) (by decide +kernel)
set_option maxRecDepth 20000 in
theorem gX1_run_X1_outside : GoodIn wsX1_run (va_wsS RX1 62 yX1_outside wsX1_outside) := goodIn_app (goodIn_of _ (by decide +kernel)) ggX1_run_X1_outside
set_option maxRecDepth 20000 in
theorem ggX1_run_X1_throwing : GoodIn wsX1_run wsX1_throwing := goodIn_r _ [9, 10, 28, 29, 30, 31, 32, 33, 34, 35, 36, 37] (by decide +kernel) (by decide +kernel)
set_option maxRecDepth 20000 in
theorem gX1_run_X1_throwing : GoodIn wsX1_run (wsV RX1 70 RX1 yX1_throwing wsX1_throwing) := goodIn_app (goodIn_of _ (by decide +kernel)) ggX1_run_X1_throwing
set_option maxRecDepth 20000 in
theorem ggX1_run_X1_probeWay : GoodIn wsX1_run wsX1_probeWay := goodIn_r _ [14, 15, 16, 17, 18, 19, 20, 4, 21, 28, 29, 30, 31, 32, 33, 34, 35, 36, 37] (by decide +kernel) (by decide +kernel)
set_option maxRecDepth 20000 in
theorem gX1_run_X1_probeWay : GoodIn wsX1_run (wsV RX1 92 RX1 yX1_probeWay wsX1_probeWay) := goodIn_app (goodIn_of _ (by decide +kernel)) ggX1_run_X1_probeWay
set_option maxRecDepth 20000 in
theorem ggX1_run_X1_is : GoodIn wsX1_run wsX1_is := goodIn_r _ [24, 25, 26, 4, 27] (by decide +kernel) (by decide +kernel)
set_option maxRecDepth 20000 in
theorem gX1_run_X1_is : GoodIn wsX1_run (va_wsS RX1 85 yX1_is wsX1_is) := goodIn_app (goodIn_of _ (by decide +kernel)) ggX1_run_X1_is
theorem dX1_run_0 : decode cX1_run 0 = .ok (.aload_n 0, 1) := by decide +kernel
theorem dX1_run_1 : decode cX1_run 1 = .ok (.iload_n 1, 1) := by decide +kernel
theorem dX1_run_2 : decode cX1_run 2 = .ok (.iconst 5, 1) := by decide +kernel
theorem dX1_run_3 : decode cX1_run 3 = .ok (.invokestatic 62, 3) := by decide +kernel
theorem dX1_run_6 : decode cX1_run 6 = .ok (.ifCond .ne 19, 3) := by decide +kernel
theorem dX1_run_9 : decode cX1_run 9 = .ok (.iload_n 2, 1) := by decide +kernel
theorem dX1_run_10 : decode cX1_run 10 = .ok (.iconst 1, 1) := by decide +kernel
theorem dX1_run_11 : decode cX1_run 11 = .ok (.invokestatic 62, 3) := by decide +kernel
theorem dX1_run_14 : decode cX1_run 14 = .ok (.ifCond .ne 11, 3) := by decide +kernel
theorem dX1_run_17 : decode cX1_run 17 = .ok (.iload_n 3, 1) := by decide +kernel
theorem dX1_run_18 : decode cX1_run 18 = .ok (.iconst 5, 1) := by decide +kernel
theorem dX1_run_19 : decode cX1_run 19 = .ok (.invokestatic 62, 3) := by decide +kernel
theorem dX1_run_22 : decode cX1_run 22 = .ok (.ifCond .eq 7, 3) := by decide +kernel
theorem dX1_run_25 : decode cX1_run 25 = .ok (.iconst 1, 1) := by decide +kernel
theorem dX1_run_26 : decode cX1_run 26 = .ok (.goto 4, 3) := by decide +kernel
theorem dX1_run_29 : decode cX1_run 29 = .ok (.iconst 0, 1) := by decide +kernel
theorem dX1_run_30 : decode cX1_run 30 = .ok (.iconst 0, 1) := by decide +kernel
theorem dX1_run_31 : decode cX1_run 31 = .ok (.iconst 0, 1) := by decide +kernel
theorem dX1_run_32 : decode cX1_run 32 = .ok (.invokevirtual 70, 3) := by decide +kernel
theorem dX1_run_35 : decode cX1_run 35 = .ok (.ifCond .eq 5, 3) := by decide +kernel
theorem dX1_run_38 : decode cX1_run 38 = .ok (.iconst 0, 1) := by decide +kernel
theorem dX1_run_39 : decode cX1_run 39 = .ok (.ireturn, 1) := by decide +kernel
theorem dX1_run_40 : decode cX1_run 40 = .ok (.iconst 2, 1) := by decide +kernel
theorem dX1_run_41 : decode cX1_run 41 = .ok (.iload_n 1, 1) := by decide +kernel
theorem dX1_run_42 : decode cX1_run 42 = .ok (.imul, 1) := by decide +kernel
theorem dX1_run_43 : decode cX1_run 43 = .ok (.iload_n 2, 1) := by decide +kernel
theorem dX1_run_44 : decode cX1_run 44 = .ok (.iadd, 1) := by decide +kernel
theorem dX1_run_45 : decode cX1_run 45 = .ok (.istore 5, 2) := by decide +kernel
theorem dX1_run_47 : decode cX1_run 47 = .ok (.iconst 0, 1) := by decide +kernel
theorem dX1_run_48 : decode cX1_run 48 = .ok (.istore 6, 2) := by decide +kernel
theorem dX1_run_50 : decode cX1_run 50 = .ok (.iconst 1, 1) := by decide +kernel
theorem dX1_run_51 : decode cX1_run 51 = .ok (.istore 7, 2) := by decide +kernel
theorem dX1_run_53 : decode cX1_run 53 = .ok (.iconst 0, 1) := by decide +kernel
theorem dX1_run_54 : decode cX1_run 54 = .ok (.istore 8, 2) := by decide +kernel
theorem dX1_run_56 : decode cX1_run 56 = .ok (.iload 8, 2) := by decide +kernel
theorem dX1_run_58 : decode cX1_run 58 = .ok (.aload_n 0, 1) := by decide +kernel
theorem dX1_run_59 : decode cX1_run 59 = .ok (.getfield 17, 3) := by decide +kernel
theorem dX1_run_62 : decode cX1_run 62 = .ok (.iload 5, 2) := by decide +kernel
theorem dX1_run_64 : decode cX1_run 64 = .ok (.iaload, 1) := by decide +kernel
theorem dX1_run_65 : decode cX1_run 65 = .ok (.if_icmp .ge 83, 3) := by decide +kernel
theorem dX1_run_68 : decode cX1_run 68 = .ok (.bipush 12, 2) := by decide +kernel
theorem dX1_run_70 : decode cX1_run 70 = .ok (.iload 5, 2) := by decide +kernel
theorem dX1_run_72 : decode cX1_run 72 = .ok (.imul, 1) := by decide +kernel
theorem dX1_run_73 : decode cX1_run 73 = .ok (.iload 4, 2) := by decide +kernel
theorem dX1_run_75 : decode cX1_run 75 = .ok (.ifCond .eq 18, 3) := by decide +kernel
theorem dX1_run_78 : decode cX1_run 78 = .ok (.aload_n 0, 1) := by decide +kernel
theorem dX1_run_79 : decode cX1_run 79 = .ok (.getfield 17, 3) := by decide +kernel
theorem dX1_run_82 : decode cX1_run 82 = .ok (.iload 5, 2) := by decide +kernel
theorem dX1_run_84 : decode cX1_run 84 = .ok (.iaload, 1) := by decide +kernel
theorem dX1_run_85 : decode cX1_run 85 = .ok (.iconst 1, 1) := by decide +kernel
theorem dX1_run_86 : decode cX1_run 86 = .ok (.isub, 1) := by decide +kernel
theorem dX1_run_87 : decode cX1_run 87 = .ok (.iload 8, 2) := by decide +kernel
theorem dX1_run_89 : decode cX1_run 89 = .ok (.isub, 1) := by decide +kernel
theorem dX1_run_90 : decode cX1_run 90 = .ok (.goto 5, 3) := by decide +kernel
theorem dX1_run_93 : decode cX1_run 93 = .ok (.iload 8, 2) := by decide +kernel
theorem dX1_run_95 : decode cX1_run 95 = .ok (.iadd, 1) := by decide +kernel
theorem dX1_run_96 : decode cX1_run 96 = .ok (.istore 9, 2) := by decide +kernel
theorem dX1_run_98 : decode cX1_run 98 = .ok (.iload 7, 2) := by decide +kernel
theorem dX1_run_100 : decode cX1_run 100 = .ok (.ifCond .eq 23, 3) := by decide +kernel
theorem dX1_run_103 : decode cX1_run 103 = .ok (.iload_n 3, 1) := by decide +kernel
theorem dX1_run_104 : decode cX1_run 104 = .ok (.aload_n 0, 1) := by decide +kernel
theorem dX1_run_105 : decode cX1_run 105 = .ok (.iload 9, 2) := by decide +kernel
theorem dX1_run_107 : decode cX1_run 107 = .ok (.iload_n 2, 1) := by decide +kernel
theorem dX1_run_108 : decode cX1_run 108 = .ok (.invokevirtual 92, 3) := by decide +kernel
theorem dX1_run_111 : decode cX1_run 111 = .ok (.invokestatic 85, 3) := by decide +kernel
theorem dX1_run_114 : decode cX1_run 114 = .ok (.iload 4, 2) := by decide +kernel
theorem dX1_run_116 : decode cX1_run 116 = .ok (.if_icmp .eq 7, 3) := by decide +kernel
theorem dX1_run_119 : decode cX1_run 119 = .ok (.iconst 1, 1) := by decide +kernel
theorem dX1_run_120 : decode cX1_run 120 = .ok (.goto 4, 3) := by decide +kernel
theorem dX1_run_123 : decode cX1_run 123 = .ok (.iconst 0, 1) := by decide +kernel
theorem dX1_run_124 : decode cX1_run 124 = .ok (.istore 7, 2) := by decide +kernel
theorem dX1_run_126 : decode cX1_run 126 = .ok (.iload 7, 2) := by decide +kernel
theorem dX1_run_128 : decode cX1_run 128 = .ok (.ifCond .eq 10, 3) := by decide +kernel
theorem dX1_run_131 : decode cX1_run 131 = .ok (.iload 6, 2) := by decide +kernel
theorem dX1_run_133 : decode cX1_run 133 = .ok (.iconst 1, 1) := by decide +kernel
theorem dX1_run_134 : decode cX1_run 134 = .ok (.iadd, 1) := by decide +kernel
theorem dX1_run_135 : decode cX1_run 135 = .ok (.goto 5, 3) := by decide +kernel
theorem dX1_run_138 : decode cX1_run 138 = .ok (.iload 6, 2) := by decide +kernel
theorem dX1_run_140 : decode cX1_run 140 = .ok (.istore 6, 2) := by decide +kernel
theorem dX1_run_142 : decode cX1_run 142 = .ok (.iinc 8 1, 3) := by decide +kernel
theorem dX1_run_145 : decode cX1_run 145 = .ok (.goto (-89), 3) := by decide +kernel
theorem dX1_run_148 : decode cX1_run 148 = .ok (.iload 6, 2) := by decide +kernel
theorem dX1_run_150 : decode cX1_run 150 = .ok (.ireturn, 1) := by decide +kernel
set_option maxRecDepth 20000 in
theorem ggX1_count_X1_outside : GoodIn wsX1_count wsX1_outside := goodIn_r _ [5] (by decide +kernel) (by decide +kernel)
set_option maxRecDepth 20000 in
theorem gX1_count_X1_outside : GoodIn wsX1_count (va_wsS RX1 62 yX1_outside wsX1_outside) := goodIn_app (goodIn_of _ (by decide +kernel)) ggX1_count_X1_outside
set_option maxRecDepth 20000 in
theorem ggX1_count_X1_throwing : GoodIn wsX1_count wsX1_throwing := goodIn_r _ [9, 10, 28, 29, 30, 31, 32, 33, 34, 35, 36, 37] (by decide +kernel) (by decide +kernel)
set_option maxRecDepth 20000 in
theorem gX1_count_X1_throwing : GoodIn wsX1_count (wsV RX1 70 RX1 yX1_throwing wsX1_throwing) := goodIn_app (goodIn_of _ (by decide +kernel)) ggX1_count_X1_throwing
set_option maxRecDepth 20000 in
theorem ggX1_count_X1_probeWay : GoodIn wsX1_count wsX1_probeWay := goodIn_r _ [14, 15, 16, 17, 18, 19, 20, 4, 21, 28, 29, 30, 31, 32, 33, 34, 35, 36, 37] (by decide +kernel) (by decide +kernel)
set_option maxRecDepth 20000 in
theorem gX1_count_X1_probeWay : GoodIn wsX1_count (wsV RX1 92 RX1 yX1_probeWay wsX1_probeWay) := goodIn_app (goodIn_of _ (by decide +kernel)) ggX1_count_X1_probeWay
set_option maxRecDepth 20000 in
theorem ggX1_count_X1_is : GoodIn wsX1_count wsX1_is := goodIn_r _ [24, 25, 26, 4, 27] (by decide +kernel) (by decide +kernel)
set_option maxRecDepth 20000 in
theorem gX1_count_X1_is : GoodIn wsX1_count (va_wsS RX1 85 yX1_is wsX1_is) := goodIn_app (goodIn_of _ (by decide +kernel)) ggX1_count_X1_is
theorem dX1_count_0 : decode cX1_count 0 = .ok (.aload_n 0, 1) := by decide +kernel
theorem dX1_count_1 : decode cX1_count 1 = .ok (.iload_n 1, 1) := by decide +kernel
theorem dX1_count_2 : decode cX1_count 2 = .ok (.iconst 5, 1) := by decide +kernel
theorem dX1_count_3 : decode cX1_count 3 = .ok (.invokestatic 62, 3) := by decide +kernel
theorem dX1_count_6 : decode cX1_count 6 = .ok (.ifCond .ne 19, 3) := by decide +kernel
theorem dX1_count_9 : decode cX1_count 9 = .ok (.iload_n 2, 1) := by decide +kernel
theorem dX1_count_10 : decode cX1_count 10 = .ok (.iconst 1, 1) := by decide +kernel
theorem dX1_count_11 : decode cX1_count 11 = .ok (.invokestatic 62, 3) := by decide +kernel
theorem dX1_count_14 : decode cX1_count 14 = .ok (.ifCond .ne 11, 3) := by decide +kernel
theorem dX1_count_17 : decode cX1_count 17 = .ok (.iload_n 3, 1) := by decide +kernel
theorem dX1_count_18 : decode cX1_count 18 = .ok (.iconst 5, 1) := by decide +kernel
theorem dX1_count_19 : decode cX1_count 19 = .ok (.invokestatic 62, 3) := by decide +kernel
theorem dX1_count_22 : decode cX1_count 22 = .ok (.ifCond .eq 7, 3) := by decide +kernel
theorem dX1_count_25 : decode cX1_count 25 = .ok (.iconst 1, 1) := by decide +kernel
theorem dX1_count_26 : decode cX1_count 26 = .ok (.goto 4, 3) := by decide +kernel
theorem dX1_count_29 : decode cX1_count 29 = .ok (.iconst 0, 1) := by decide +kernel
theorem dX1_count_30 : decode cX1_count 30 = .ok (.iconst 0, 1) := by decide +kernel
theorem dX1_count_31 : decode cX1_count 31 = .ok (.iconst 0, 1) := by decide +kernel
theorem dX1_count_32 : decode cX1_count 32 = .ok (.invokevirtual 70, 3) := by decide +kernel
theorem dX1_count_35 : decode cX1_count 35 = .ok (.ifCond .eq 5, 3) := by decide +kernel
theorem dX1_count_38 : decode cX1_count 38 = .ok (.iconst 0, 1) := by decide +kernel
theorem dX1_count_39 : decode cX1_count 39 = .ok (.ireturn, 1) := by decide +kernel
theorem dX1_count_40 : decode cX1_count 40 = .ok (.iconst 2, 1) := by decide +kernel
theorem dX1_count_41 : decode cX1_count 41 = .ok (.iload_n 1, 1) := by decide +kernel
theorem dX1_count_42 : decode cX1_count 42 = .ok (.imul, 1) := by decide +kernel
theorem dX1_count_43 : decode cX1_count 43 = .ok (.iload_n 2, 1) := by decide +kernel
theorem dX1_count_44 : decode cX1_count 44 = .ok (.iadd, 1) := by decide +kernel
theorem dX1_count_45 : decode cX1_count 45 = .ok (.istore 5, 2) := by decide +kernel
theorem dX1_count_47 : decode cX1_count 47 = .ok (.iconst 0, 1) := by decide +kernel
theorem dX1_count_48 : decode cX1_count 48 = .ok (.istore 6, 2) := by decide +kernel
theorem dX1_count_50 : decode cX1_count 50 = .ok (.iconst 0, 1) := by decide +kernel
theorem dX1_count_51 : decode cX1_count 51 = .ok (.istore 7, 2) := by decide +kernel
theorem dX1_count_53 : decode cX1_count 53 = .ok (.iload 7, 2) := by decide +kernel
theorem dX1_count_55 : decode cX1_count 55 = .ok (.aload_n 0, 1) := by decide +kernel
theorem dX1_count_56 : decode cX1_count 56 = .ok (.getfield 17, 3) := by decide +kernel
theorem dX1_count_59 : decode cX1_count 59 = .ok (.iload 5, 2) := by decide +kernel
theorem dX1_count_61 : decode cX1_count 61 = .ok (.iaload, 1) := by decide +kernel
theorem dX1_count_62 : decode cX1_count 62 = .ok (.if_icmp .ge 40, 3) := by decide +kernel
theorem dX1_count_65 : decode cX1_count 65 = .ok (.iload_n 3, 1) := by decide +kernel
theorem dX1_count_66 : decode cX1_count 66 = .ok (.aload_n 0, 1) := by decide +kernel
theorem dX1_count_67 : decode cX1_count 67 = .ok (.bipush 12, 2) := by decide +kernel
theorem dX1_count_69 : decode cX1_count 69 = .ok (.iload 5, 2) := by decide +kernel
theorem dX1_count_71 : decode cX1_count 71 = .ok (.imul, 1) := by decide +kernel
theorem dX1_count_72 : decode cX1_count 72 = .ok (.iload 7, 2) := by decide +kernel
theorem dX1_count_74 : decode cX1_count 74 = .ok (.iadd, 1) := by decide +kernel
theorem dX1_count_75 : decode cX1_count 75 = .ok (.iload_n 2, 1) := by decide +kernel
theorem dX1_count_76 : decode cX1_count 76 = .ok (.invokevirtual 92, 3) := by decide +kernel
theorem dX1_count_79 : decode cX1_count 79 = .ok (.invokestatic 85, 3) := by decide +kernel
theorem dX1_count_82 : decode cX1_count 82 = .ok (.ifCond .eq 10, 3) := by decide +kernel
theorem dX1_count_85 : decode cX1_count 85 = .ok (.iload 6, 2) := by decide +kernel
theorem dX1_count_87 : decode cX1_count 87 = .ok (.iconst 1, 1) := by decide +kernel
theorem dX1_count_88 : decode cX1_count 88 = .ok (.iadd, 1) := by decide +kernel
theorem dX1_count_89 : decode cX1_count 89 = .ok (.goto 5, 3) := by decide +kernel
theorem dX1_count_92 : decode cX1_count 92 = .ok (.iload 6, 2) := by decide +kernel
theorem dX1_count_94 : decode cX1_count 94 = .ok (.istore 6, 2) := by decide +kernel
theorem dX1_count_96 : decode cX1_count 96 = .ok (.iinc 7 1, 3) := by decide +kernel
theorem dX1_count_99 : decode cX1_count 99 = .ok (.goto (-46), 3) := by decide +kernel
theorem dX1_count_102 : decode cX1_count 102 = .ok (.iload 4, 2) := by decide +kernel
theorem dX1_count_104 : decode cX1_count 104 = .ok (.ifCond .eq 16, 3) := by decide +kernel
theorem dX1_count_107 : decode cX1_count 107 = .ok (.aload_n 0, 1) := by decide +kernel
theorem dX1_count_108 : decode cX1_count 108 = .ok (.getfield 17, 3) := by decide +kernel
theorem dX1_count_111 : decode cX1_count 111 = .ok (.iload 5, 2) := by decide +kernel
theorem dX1_count_113 : decode cX1_count 113 = .ok (.iaload, 1) := by decide +kernel
theorem dX1_count_114 : decode cX1_count 114 = .ok (.iload 6, 2) := by decide +kernel
theorem dX1_count_116 : decode cX1_count 116 = .ok (.isub, 1) := by decide +kernel
theorem dX1_count_117 : decode cX1_count 117 = .ok (.goto 5, 3) := by decide +kernel
theorem dX1_count_120 : decode cX1_count 120 = .ok (.iload 6, 2) := by decide +kernel
theorem dX1_count_122 : decode cX1_count 122 = .ok (.ireturn, 1) := by decide +kernel
set_option maxRecDepth 20000 in
theorem ggX1_holds_X1_outside : GoodIn wsX1_holds wsX1_outside := goodIn_r _ [4] (by decide +kernel) (by decide +kernel)
set_option maxRecDepth 20000 in
theorem gX1_holds_X1_outside : GoodIn wsX1_holds (va_wsS RX1 62 yX1_outside wsX1_outside) := goodIn_app (goodIn_of _ (by decide +kernel)) ggX1_holds_X1_outside
set_option maxRecDepth 20000 in
theorem ggX1_holds_X1_throwing : GoodIn wsX1_holds wsX1_throwing := goodIn_r _ [8, 9, 38, 39, 40, 41, 42, 43, 44, 45, 46, 47] (by decide +kernel) (by decide +kernel)
set_option maxRecDepth 20000 in
theorem gX1_holds_X1_throwing : GoodIn wsX1_holds (wsV RX1 70 RX1 yX1_throwing wsX1_throwing) := goodIn_app (goodIn_of _ (by decide +kernel)) ggX1_holds_X1_throwing
set_option maxRecDepth 20000 in
theorem ggX1_holds_X1_latestWay : GoodIn wsX1_holds wsX1_latestWay := goodIn_r _ [13, 14, 15, 16, 3, 17, 18, 19, 20, 21, 22, 23, 24, 25, 26, 27, 28, 29, 30, 31, 38, 39, 40, 41, 42, 43, 44, 45, 46, 47] (by decide +kernel) (by decide +kernel)
set_option maxRecDepth 20000 in
theorem gX1_holds_X1_latestWay : GoodIn wsX1_holds (wsV RX1 96 RX1 yX1_latestWay wsX1_latestWay) := goodIn_app (goodIn_of _ (by decide +kernel)) ggX1_holds_X1_latestWay
set_option maxRecDepth 20000 in
theorem ggX1_holds_X1_is : GoodIn wsX1_holds wsX1_is := goodIn_r _ [34, 35, 36, 3, 37] (by decide +kernel) (by decide +kernel)
set_option maxRecDepth 20000 in
theorem gX1_holds_X1_is : GoodIn wsX1_holds (va_wsS RX1 85 yX1_is wsX1_is) := goodIn_app (goodIn_of _ (by decide +kernel)) ggX1_holds_X1_is
theorem dX1_holds_0 : decode cX1_holds 0 = .ok (.aload_n 0, 1) := by decide +kernel
theorem dX1_holds_1 : decode cX1_holds 1 = .ok (.iload_n 1, 1) := by decide +kernel
theorem dX1_holds_2 : decode cX1_holds 2 = .ok (.iconst 5, 1) := by decide +kernel
theorem dX1_holds_3 : decode cX1_holds 3 = .ok (.invokestatic 62, 3) := by decide +kernel
theorem dX1_holds_6 : decode cX1_holds 6 = .ok (.ifCond .ne 28, 3) := by decide +kernel
theorem dX1_holds_9 : decode cX1_holds 9 = .ok (.iload_n 2, 1) := by decide +kernel
theorem dX1_holds_10 : decode cX1_holds 10 = .ok (.iconst 5, 1) := by decide +kernel
theorem dX1_holds_11 : decode cX1_holds 11 = .ok (.invokestatic 62, 3) := by decide +kernel
theorem dX1_holds_14 : decode cX1_holds 14 = .ok (.ifCond .ne 20, 3) := by decide +kernel
theorem dX1_holds_17 : decode cX1_holds 17 = .ok (.iload_n 3, 1) := by decide +kernel
theorem dX1_holds_18 : decode cX1_holds 18 = .ok (.iconst 1, 1) := by decide +kernel
theorem dX1_holds_19 : decode cX1_holds 19 = .ok (.invokestatic 62, 3) := by decide +kernel
theorem dX1_holds_22 : decode cX1_holds 22 = .ok (.ifCond .ne 12, 3) := by decide +kernel
theorem dX1_holds_25 : decode cX1_holds 25 = .ok (.iload 4, 2) := by decide +kernel
theorem dX1_holds_27 : decode cX1_holds 27 = .ok (.iconst 5, 1) := by decide +kernel
theorem dX1_holds_28 : decode cX1_holds 28 = .ok (.invokestatic 62, 3) := by decide +kernel
theorem dX1_holds_31 : decode cX1_holds 31 = .ok (.ifCond .eq 7, 3) := by decide +kernel
theorem dX1_holds_34 : decode cX1_holds 34 = .ok (.iconst 1, 1) := by decide +kernel
theorem dX1_holds_35 : decode cX1_holds 35 = .ok (.goto 4, 3) := by decide +kernel
theorem dX1_holds_38 : decode cX1_holds 38 = .ok (.iconst 0, 1) := by decide +kernel
theorem dX1_holds_39 : decode cX1_holds 39 = .ok (.iconst 0, 1) := by decide +kernel
theorem dX1_holds_40 : decode cX1_holds 40 = .ok (.iconst 0, 1) := by decide +kernel
theorem dX1_holds_41 : decode cX1_holds 41 = .ok (.invokevirtual 70, 3) := by decide +kernel
theorem dX1_holds_44 : decode cX1_holds 44 = .ok (.ifCond .eq 5, 3) := by decide +kernel
theorem dX1_holds_47 : decode cX1_holds 47 = .ok (.iconst 0, 1) := by decide +kernel
theorem dX1_holds_48 : decode cX1_holds 48 = .ok (.ireturn, 1) := by decide +kernel
theorem dX1_holds_49 : decode cX1_holds 49 = .ok (.iload 4, 2) := by decide +kernel
theorem dX1_holds_51 : decode cX1_holds 51 = .ok (.aload_n 0, 1) := by decide +kernel
theorem dX1_holds_52 : decode cX1_holds 52 = .ok (.iconst 2, 1) := by decide +kernel
theorem dX1_holds_53 : decode cX1_holds 53 = .ok (.iload_n 1, 1) := by decide +kernel
theorem dX1_holds_54 : decode cX1_holds 54 = .ok (.imul, 1) := by decide +kernel
theorem dX1_holds_55 : decode cX1_holds 55 = .ok (.iload_n 3, 1) := by decide +kernel
theorem dX1_holds_56 : decode cX1_holds 56 = .ok (.iadd, 1) := by decide +kernel
theorem dX1_holds_57 : decode cX1_holds 57 = .ok (.iconst 2, 1) := by decide +kernel
theorem dX1_holds_58 : decode cX1_holds 58 = .ok (.iload_n 2, 1) := by decide +kernel
theorem dX1_holds_59 : decode cX1_holds 59 = .ok (.imul, 1) := by decide +kernel
theorem dX1_holds_60 : decode cX1_holds 60 = .ok (.iload_n 3, 1) := by decide +kernel
theorem dX1_holds_61 : decode cX1_holds 61 = .ok (.iadd, 1) := by decide +kernel
theorem dX1_holds_62 : decode cX1_holds 62 = .ok (.invokevirtual 96, 3) := by decide +kernel
theorem dX1_holds_65 : decode cX1_holds 65 = .ok (.invokestatic 85, 3) := by decide +kernel
theorem dX1_holds_68 : decode cX1_holds 68 = .ok (.ireturn, 1) := by decide +kernel
set_option maxRecDepth 20000 in
theorem ggX1_pick_X1_outside : GoodIn wsX1_pick wsX1_outside := goodIn_r _ [4] (by decide +kernel) (by decide +kernel)
set_option maxRecDepth 20000 in
theorem gX1_pick_X1_outside : GoodIn wsX1_pick (va_wsS RX1 62 yX1_outside wsX1_outside) := goodIn_app (goodIn_of _ (by decide +kernel)) ggX1_pick_X1_outside
set_option maxRecDepth 20000 in
theorem ggX1_pick_X1_throwing : GoodIn wsX1_pick wsX1_throwing := goodIn_r _ [8, 9, 38, 39, 40, 41, 42, 43, 44, 45, 46, 47] (by decide +kernel) (by decide +kernel)
set_option maxRecDepth 20000 in
theorem gX1_pick_X1_throwing : GoodIn wsX1_pick (wsV RX1 70 RX1 yX1_throwing wsX1_throwing) := goodIn_app (goodIn_of _ (by decide +kernel)) ggX1_pick_X1_throwing
set_option maxRecDepth 20000 in
theorem ggX1_pick_X1_latestWay : GoodIn wsX1_pick wsX1_latestWay := goodIn_r _ [13, 14, 15, 16, 3, 17, 18, 19, 20, 21, 22, 23, 24, 25, 26, 27, 28, 29, 30, 31, 38, 39, 40, 41, 42, 43, 44, 45, 46, 47] (by decide +kernel) (by decide +kernel)
set_option maxRecDepth 20000 in
theorem gX1_pick_X1_latestWay : GoodIn wsX1_pick (wsV RX1 96 RX1 yX1_latestWay wsX1_latestWay) := goodIn_app (goodIn_of _ (by decide +kernel)) ggX1_pick_X1_latestWay
set_option maxRecDepth 20000 in
theorem ggX1_pick_X1_is : GoodIn wsX1_pick wsX1_is := goodIn_r _ [34, 35, 36, 3, 37] (by decide +kernel) (by decide +kernel)
set_option maxRecDepth 20000 in
theorem gX1_pick_X1_is : GoodIn wsX1_pick (va_wsS RX1 85 yX1_is wsX1_is) := goodIn_app (goodIn_of _ (by decide +kernel)) ggX1_pick_X1_is
theorem dX1_pick_0 : decode cX1_pick 0 = .ok (.aload_n 0, 1) := by decide +kernel
theorem dX1_pick_1 : decode cX1_pick 1 = .ok (.iload_n 1, 1) := by decide +kernel
theorem dX1_pick_2 : decode cX1_pick 2 = .ok (.iconst 5, 1) := by decide +kernel
theorem dX1_pick_3 : decode cX1_pick 3 = .ok (.invokestatic 62, 3) := by decide +kernel
theorem dX1_pick_6 : decode cX1_pick 6 = .ok (.ifCond .ne 28, 3) := by decide +kernel
theorem dX1_pick_9 : decode cX1_pick 9 = .ok (.iload_n 2, 1) := by decide +kernel
theorem dX1_pick_10 : decode cX1_pick 10 = .ok (.iconst 5, 1) := by decide +kernel
theorem dX1_pick_11 : decode cX1_pick 11 = .ok (.invokestatic 62, 3) := by decide +kernel
theorem dX1_pick_14 : decode cX1_pick 14 = .ok (.ifCond .ne 20, 3) := by decide +kernel
theorem dX1_pick_17 : decode cX1_pick 17 = .ok (.iload_n 3, 1) := by decide +kernel
theorem dX1_pick_18 : decode cX1_pick 18 = .ok (.iconst 1, 1) := by decide +kernel
theorem dX1_pick_19 : decode cX1_pick 19 = .ok (.invokestatic 62, 3) := by decide +kernel
theorem dX1_pick_22 : decode cX1_pick 22 = .ok (.ifCond .ne 12, 3) := by decide +kernel
theorem dX1_pick_25 : decode cX1_pick 25 = .ok (.iload 4, 2) := by decide +kernel
theorem dX1_pick_27 : decode cX1_pick 27 = .ok (.iconst 5, 1) := by decide +kernel
theorem dX1_pick_28 : decode cX1_pick 28 = .ok (.invokestatic 62, 3) := by decide +kernel
theorem dX1_pick_31 : decode cX1_pick 31 = .ok (.ifCond .eq 7, 3) := by decide +kernel
theorem dX1_pick_34 : decode cX1_pick 34 = .ok (.iconst 1, 1) := by decide +kernel
theorem dX1_pick_35 : decode cX1_pick 35 = .ok (.goto 4, 3) := by decide +kernel
theorem dX1_pick_38 : decode cX1_pick 38 = .ok (.iconst 0, 1) := by decide +kernel
theorem dX1_pick_39 : decode cX1_pick 39 = .ok (.iconst 0, 1) := by decide +kernel
theorem dX1_pick_40 : decode cX1_pick 40 = .ok (.iconst 0, 1) := by decide +kernel
theorem dX1_pick_41 : decode cX1_pick 41 = .ok (.invokevirtual 70, 3) := by decide +kernel
theorem dX1_pick_44 : decode cX1_pick 44 = .ok (.ifCond .eq 5, 3) := by decide +kernel
theorem dX1_pick_47 : decode cX1_pick 47 = .ok (.iconst 0, 1) := by decide +kernel
theorem dX1_pick_48 : decode cX1_pick 48 = .ok (.ireturn, 1) := by decide +kernel
theorem dX1_pick_49 : decode cX1_pick 49 = .ok (.iload 4, 2) := by decide +kernel
theorem dX1_pick_51 : decode cX1_pick 51 = .ok (.aload_n 0, 1) := by decide +kernel
theorem dX1_pick_52 : decode cX1_pick 52 = .ok (.iconst 2, 1) := by decide +kernel
theorem dX1_pick_53 : decode cX1_pick 53 = .ok (.iload_n 1, 1) := by decide +kernel
theorem dX1_pick_54 : decode cX1_pick 54 = .ok (.imul, 1) := by decide +kernel
theorem dX1_pick_55 : decode cX1_pick 55 = .ok (.iload_n 3, 1) := by decide +kernel
theorem dX1_pick_56 : decode cX1_pick 56 = .ok (.iadd, 1) := by decide +kernel
theorem dX1_pick_57 : decode cX1_pick 57 = .ok (.iconst 2, 1) := by decide +kernel
theorem dX1_pick_58 : decode cX1_pick 58 = .ok (.iload_n 2, 1) := by decide +kernel
theorem dX1_pick_59 : decode cX1_pick 59 = .ok (.imul, 1) := by decide +kernel
