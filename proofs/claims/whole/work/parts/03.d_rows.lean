theorem dX0_needMayShut_4 : decode cX0_needMayShut 4 = .ok (.invokevirtual 102, 3) := by decide +kernel
theorem dX0_needMayShut_7 : decode cX0_needMayShut 7 = .ok (.iconst 0, 1) := by decide +kernel
theorem dX0_needMayShut_8 : decode cX0_needMayShut 8 = .ok (.iconst 0, 1) := by decide +kernel
theorem dX0_needMayShut_9 : decode cX0_needMayShut 9 = .ok (.invokestatic 66, 3) := by decide +kernel
theorem dX0_needMayShut_12 : decode cX0_needMayShut 12 = .ok (.iconst 2, 1) := by decide +kernel
theorem dX0_needMayShut_13 : decode cX0_needMayShut 13 = .ok (.invokevirtual 98, 3) := by decide +kernel
theorem dX0_needMayShut_16 : decode cX0_needMayShut 16 = .ok (.ifCond .eq 13, 3) := by decide +kernel
theorem dX0_needMayShut_19 : decode cX0_needMayShut 19 = .ok (.new 155, 3) := by decide +kernel
theorem dX0_needMayShut_22 : decode cX0_needMayShut 22 = .ok (.dup, 1) := by decide +kernel
theorem dX0_needMayShut_23 : decode cX0_needMayShut 23 = .ok (.ldc 165, 2) := by decide +kernel
theorem dX0_needMayShut_25 : decode cX0_needMayShut 25 = .ok (.invokespecial 159, 3) := by decide +kernel
theorem dX0_needMayShut_28 : decode cX0_needMayShut 28 = .ok (.athrow, 1) := by decide +kernel
theorem dX0_needMayShut_29 : decode cX0_needMayShut 29 = .ok (.aload_n 0, 1) := by decide +kernel
theorem dX0_needMayShut_30 : decode cX0_needMayShut 30 = .ok (.aload_n 0, 1) := by decide +kernel
theorem dX0_needMayShut_31 : decode cX0_needMayShut 31 = .ok (.iconst 1, 1) := by decide +kernel
theorem dX0_needMayShut_32 : decode cX0_needMayShut 32 = .ok (.iconst 0, 1) := by decide +kernel
theorem dX0_needMayShut_33 : decode cX0_needMayShut 33 = .ok (.invokevirtual 102, 3) := by decide +kernel
theorem dX0_needMayShut_36 : decode cX0_needMayShut 36 = .ok (.iconst 0, 1) := by decide +kernel
theorem dX0_needMayShut_37 : decode cX0_needMayShut 37 = .ok (.iconst 1, 1) := by decide +kernel
theorem dX0_needMayShut_38 : decode cX0_needMayShut 38 = .ok (.invokestatic 66, 3) := by decide +kernel
theorem dX0_needMayShut_41 : decode cX0_needMayShut 41 = .ok (.iconst 1, 1) := by decide +kernel
theorem dX0_needMayShut_42 : decode cX0_needMayShut 42 = .ok (.invokevirtual 98, 3) := by decide +kernel
theorem dX0_needMayShut_45 : decode cX0_needMayShut 45 = .ok (.ifCond .eq 13, 3) := by decide +kernel
theorem dX0_needMayShut_48 : decode cX0_needMayShut 48 = .ok (.new 160, 3) := by decide +kernel
theorem dX0_needMayShut_51 : decode cX0_needMayShut 51 = .ok (.dup, 1) := by decide +kernel
theorem dX0_needMayShut_52 : decode cX0_needMayShut 52 = .ok (.ldc 167, 2) := by decide +kernel
theorem dX0_needMayShut_54 : decode cX0_needMayShut 54 = .ok (.invokespecial 164, 3) := by decide +kernel
theorem dX0_needMayShut_57 : decode cX0_needMayShut 57 = .ok (.athrow, 1) := by decide +kernel
theorem dX0_needMayShut_58 : decode cX0_needMayShut 58 = .ok (.return_, 1) := by decide +kernel
theorem dX0_stripOf_0 : decode cX0_stripOf 0 = .ok (.iload_n 0, 1) := by decide +kernel
theorem dX0_stripOf_1 : decode cX0_stripOf 1 = .ok (.iconst 2, 1) := by decide +kernel
theorem dX0_stripOf_2 : decode cX0_stripOf 2 = .ok (.imul, 1) := by decide +kernel
theorem dX0_stripOf_3 : decode cX0_stripOf 3 = .ok (.iload_n 1, 1) := by decide +kernel
theorem dX0_stripOf_4 : decode cX0_stripOf 4 = .ok (.iadd, 1) := by decide +kernel
theorem dX0_stripOf_5 : decode cX0_stripOf 5 = .ok (.ireturn, 1) := by decide +kernel
theorem dX0_stripPlace_0 : decode cX0_stripPlace 0 = .ok (.iload_n 0, 1) := by decide +kernel
theorem dX0_stripPlace_1 : decode cX0_stripPlace 1 = .ok (.bipush 12, 2) := by decide +kernel
theorem dX0_stripPlace_3 : decode cX0_stripPlace 3 = .ok (.imul, 1) := by decide +kernel
theorem dX0_stripPlace_4 : decode cX0_stripPlace 4 = .ok (.iload_n 1, 1) := by decide +kernel
theorem dX0_stripPlace_5 : decode cX0_stripPlace 5 = .ok (.iadd, 1) := by decide +kernel
theorem dX0_stripPlace_6 : decode cX0_stripPlace 6 = .ok (.ireturn, 1) := by decide +kernel
theorem dX0_markPlace_0 : decode cX0_markPlace 0 = .ok (.sipush 144, 3) := by decide +kernel
theorem dX0_markPlace_3 : decode cX0_markPlace 3 = .ok (.iload_n 0, 1) := by decide +kernel
theorem dX0_markPlace_4 : decode cX0_markPlace 4 = .ok (.iconst 3, 1) := by decide +kernel
theorem dX0_markPlace_5 : decode cX0_markPlace 5 = .ok (.imul, 1) := by decide +kernel
theorem dX0_markPlace_6 : decode cX0_markPlace 6 = .ok (.iadd, 1) := by decide +kernel
theorem dX0_markPlace_7 : decode cX0_markPlace 7 = .ok (.iload_n 1, 1) := by decide +kernel
theorem dX0_markPlace_8 : decode cX0_markPlace 8 = .ok (.iadd, 1) := by decide +kernel
theorem dX0_markPlace_9 : decode cX0_markPlace 9 = .ok (.ireturn, 1) := by decide +kernel
theorem dX0_probePlace_0 : decode cX0_probePlace 0 = .ok (.sipush 162, 3) := by decide +kernel
theorem dX0_probePlace_3 : decode cX0_probePlace 3 = .ok (.iload_n 0, 1) := by decide +kernel
theorem dX0_probePlace_4 : decode cX0_probePlace 4 = .ok (.iadd, 1) := by decide +kernel
theorem dX0_probePlace_5 : decode cX0_probePlace 5 = .ok (.ireturn, 1) := by decide +kernel
set_option maxRecDepth 20000 in
theorem ggX0_latestPlace_X0_stripOf : GoodIn wsX0_latestPlace wsX0_stripOf := goodIn_r _ [5] (by decide +kernel) (by decide +kernel)
set_option maxRecDepth 20000 in
theorem gX0_latestPlace_X0_stripOf : GoodIn wsX0_latestPlace (va_wsS RX0 37 yX0_stripOf wsX0_stripOf) := goodIn_app (goodIn_of _ (by decide +kernel)) ggX0_latestPlace_X0_stripOf
set_option maxRecDepth 20000 in
theorem ggX0_latestPlace_X0_stripPlace : GoodIn wsX0_latestPlace wsX0_stripPlace := goodIn_r _ [8] (by decide +kernel) (by decide +kernel)
set_option maxRecDepth 20000 in
theorem gX0_latestPlace_X0_stripPlace : GoodIn wsX0_latestPlace (va_wsS RX0 95 yX0_stripPlace wsX0_stripPlace) := goodIn_app (goodIn_of _ (by decide +kernel)) ggX0_latestPlace_X0_stripPlace
theorem dX0_latestPlace_0 : decode cX0_latestPlace 0 = .ok (.iload_n 1, 1) := by decide +kernel
theorem dX0_latestPlace_1 : decode cX0_latestPlace 1 = .ok (.iload_n 2, 1) := by decide +kernel
theorem dX0_latestPlace_2 : decode cX0_latestPlace 2 = .ok (.invokestatic 37, 3) := by decide +kernel
theorem dX0_latestPlace_5 : decode cX0_latestPlace 5 = .ok (.istore_n 3, 1) := by decide +kernel
theorem dX0_latestPlace_6 : decode cX0_latestPlace 6 = .ok (.aload_n 0, 1) := by decide +kernel
theorem dX0_latestPlace_7 : decode cX0_latestPlace 7 = .ok (.getfield 17, 3) := by decide +kernel
theorem dX0_latestPlace_10 : decode cX0_latestPlace 10 = .ok (.iload_n 3, 1) := by decide +kernel
theorem dX0_latestPlace_11 : decode cX0_latestPlace 11 = .ok (.iaload, 1) := by decide +kernel
theorem dX0_latestPlace_12 : decode cX0_latestPlace 12 = .ok (.ifCond .ne 9, 3) := by decide +kernel
theorem dX0_latestPlace_15 : decode cX0_latestPlace 15 = .ok (.sipush 164, 3) := by decide +kernel
theorem dX0_latestPlace_18 : decode cX0_latestPlace 18 = .ok (.goto 15, 3) := by decide +kernel
theorem dX0_latestPlace_21 : decode cX0_latestPlace 21 = .ok (.iload_n 3, 1) := by decide +kernel
theorem dX0_latestPlace_22 : decode cX0_latestPlace 22 = .ok (.aload_n 0, 1) := by decide +kernel
theorem dX0_latestPlace_23 : decode cX0_latestPlace 23 = .ok (.getfield 17, 3) := by decide +kernel
theorem dX0_latestPlace_26 : decode cX0_latestPlace 26 = .ok (.iload_n 3, 1) := by decide +kernel
theorem dX0_latestPlace_27 : decode cX0_latestPlace 27 = .ok (.iaload, 1) := by decide +kernel
theorem dX0_latestPlace_28 : decode cX0_latestPlace 28 = .ok (.iconst 1, 1) := by decide +kernel
theorem dX0_latestPlace_29 : decode cX0_latestPlace 29 = .ok (.isub, 1) := by decide +kernel
theorem dX0_latestPlace_30 : decode cX0_latestPlace 30 = .ok (.invokestatic 95, 3) := by decide +kernel
theorem dX0_latestPlace_33 : decode cX0_latestPlace 33 = .ok (.ireturn, 1) := by decide +kernel
theorem dX0_putNumber_0 : decode cX0_putNumber 0 = .ok (.aload_n 0, 1) := by decide +kernel
theorem dX0_putNumber_1 : decode cX0_putNumber 1 = .ok (.getfield 9, 3) := by decide +kernel
theorem dX0_putNumber_4 : decode cX0_putNumber 4 = .ok (.iload_n 1, 1) := by decide +kernel
theorem dX0_putNumber_5 : decode cX0_putNumber 5 = .ok (.baload, 1) := by decide +kernel
theorem dX0_putNumber_6 : decode cX0_putNumber 6 = .ok (.istore 4, 2) := by decide +kernel
theorem dX0_putNumber_8 : decode cX0_putNumber 8 = .ok (.aload_n 0, 1) := by decide +kernel
theorem dX0_putNumber_9 : decode cX0_putNumber 9 = .ok (.getfield 9, 3) := by decide +kernel
theorem dX0_putNumber_12 : decode cX0_putNumber 12 = .ok (.iload_n 1, 1) := by decide +kernel
theorem dX0_putNumber_13 : decode cX0_putNumber 13 = .ok (.iconst 1, 1) := by decide +kernel
theorem dX0_putNumber_14 : decode cX0_putNumber 14 = .ok (.bastore, 1) := by decide +kernel
theorem dX0_putNumber_15 : decode cX0_putNumber 15 = .ok (.aload_n 0, 1) := by decide +kernel
theorem dX0_putNumber_16 : decode cX0_putNumber 16 = .ok (.getfield 13, 3) := by decide +kernel
theorem dX0_putNumber_19 : decode cX0_putNumber 19 = .ok (.iload_n 1, 1) := by decide +kernel
theorem dX0_putNumber_20 : decode cX0_putNumber 20 = .ok (.dload_n 2, 1) := by decide +kernel
theorem dX0_putNumber_21 : decode cX0_putNumber 21 = .ok (.dastore, 1) := by decide +kernel
theorem dX0_putNumber_22 : decode cX0_putNumber 22 = .ok (.iload 4, 2) := by decide +kernel
theorem dX0_putNumber_24 : decode cX0_putNumber 24 = .ok (.ireturn, 1) := by decide +kernel
theorem dX0_putOut_0 : decode cX0_putOut 0 = .ok (.aload_n 0, 1) := by decide +kernel
theorem dX0_putOut_1 : decode cX0_putOut 1 = .ok (.getfield 9, 3) := by decide +kernel
theorem dX0_putOut_4 : decode cX0_putOut 4 = .ok (.iload_n 1, 1) := by decide +kernel
theorem dX0_putOut_5 : decode cX0_putOut 5 = .ok (.baload, 1) := by decide +kernel
theorem dX0_putOut_6 : decode cX0_putOut 6 = .ok (.istore_n 2, 1) := by decide +kernel
theorem dX0_putOut_7 : decode cX0_putOut 7 = .ok (.aload_n 0, 1) := by decide +kernel
theorem dX0_putOut_8 : decode cX0_putOut 8 = .ok (.getfield 9, 3) := by decide +kernel
theorem dX0_putOut_11 : decode cX0_putOut 11 = .ok (.iload_n 1, 1) := by decide +kernel
theorem dX0_putOut_12 : decode cX0_putOut 12 = .ok (.iconst 0, 1) := by decide +kernel
theorem dX0_putOut_13 : decode cX0_putOut 13 = .ok (.bastore, 1) := by decide +kernel
theorem dX0_putOut_14 : decode cX0_putOut 14 = .ok (.iload_n 2, 1) := by decide +kernel
theorem dX0_putOut_15 : decode cX0_putOut 15 = .ok (.ireturn, 1) := by decide +kernel
set_option maxRecDepth 20000 in
theorem ggX0_appendNumber_X0_needRoom : GoodIn wsX0_appendNumber wsX0_needRoom := goodIn_ca (goodIn_r _ [6, 7, 8, 1, 18, 19, 20, 21, 22] (by decide +kernel) (by decide +kernel)) (goodIn_sub (fun _ h => List.mem_cons_of_mem _ (List.mem_append_right _ h)) (by decide +kernel))
set_option maxRecDepth 20000 in
theorem gX0_appendNumber_X0_needRoom : GoodIn wsX0_appendNumber (wsV RX0 169 RX0 yX0_needRoom wsX0_needRoom) := goodIn_app (goodIn_of _ (by decide +kernel)) ggX0_appendNumber_X0_needRoom
set_option maxRecDepth 20000 in
theorem ggX0_appendNumber_X0_stripPlace : GoodIn wsX0_appendNumber wsX0_stripPlace := goodIn_r _ [11] (by decide +kernel) (by decide +kernel)
set_option maxRecDepth 20000 in
theorem gX0_appendNumber_X0_stripPlace : GoodIn wsX0_appendNumber (va_wsS RX0 95 yX0_stripPlace wsX0_stripPlace) := goodIn_app (goodIn_of _ (by decide +kernel)) ggX0_appendNumber_X0_stripPlace
set_option maxRecDepth 20000 in
theorem ggX0_appendNumber_X0_putNumber : GoodIn wsX0_appendNumber wsX0_putNumber := goodIn_r _ [15, 16, 17, 18, 19, 20, 21, 22] (by decide +kernel) (by decide +kernel)
set_option maxRecDepth 20000 in
theorem gX0_appendNumber_X0_putNumber : GoodIn wsX0_appendNumber (wsV RX0 69 RX0 yX0_putNumber wsX0_putNumber) := goodIn_app (goodIn_of _ (by decide +kernel)) ggX0_appendNumber_X0_putNumber
theorem dX0_appendNumber_0 : decode cX0_appendNumber 0 = .ok (.aload_n 0, 1) := by decide +kernel
theorem dX0_appendNumber_1 : decode cX0_appendNumber 1 = .ok (.iload_n 1, 1) := by decide +kernel
theorem dX0_appendNumber_2 : decode cX0_appendNumber 2 = .ok (.invokevirtual 169, 3) := by decide +kernel
theorem dX0_appendNumber_5 : decode cX0_appendNumber 5 = .ok (.aload_n 0, 1) := by decide +kernel
theorem dX0_appendNumber_6 : decode cX0_appendNumber 6 = .ok (.iload_n 1, 1) := by decide +kernel
theorem dX0_appendNumber_7 : decode cX0_appendNumber 7 = .ok (.aload_n 0, 1) := by decide +kernel
theorem dX0_appendNumber_8 : decode cX0_appendNumber 8 = .ok (.getfield 17, 3) := by decide +kernel
theorem dX0_appendNumber_11 : decode cX0_appendNumber 11 = .ok (.iload_n 1, 1) := by decide +kernel
theorem dX0_appendNumber_12 : decode cX0_appendNumber 12 = .ok (.iaload, 1) := by decide +kernel
theorem dX0_appendNumber_13 : decode cX0_appendNumber 13 = .ok (.invokestatic 95, 3) := by decide +kernel
theorem dX0_appendNumber_16 : decode cX0_appendNumber 16 = .ok (.dload_n 2, 1) := by decide +kernel
theorem dX0_appendNumber_17 : decode cX0_appendNumber 17 = .ok (.invokevirtual 69, 3) := by decide +kernel
theorem dX0_appendNumber_20 : decode cX0_appendNumber 20 = .ok (.pop, 1) := by decide +kernel
theorem dX0_appendNumber_21 : decode cX0_appendNumber 21 = .ok (.aload_n 0, 1) := by decide +kernel
theorem dX0_appendNumber_22 : decode cX0_appendNumber 22 = .ok (.getfield 17, 3) := by decide +kernel
theorem dX0_appendNumber_25 : decode cX0_appendNumber 25 = .ok (.iload_n 1, 1) := by decide +kernel
theorem dX0_appendNumber_26 : decode cX0_appendNumber 26 = .ok (.dup2, 1) := by decide +kernel
theorem dX0_appendNumber_27 : decode cX0_appendNumber 27 = .ok (.iaload, 1) := by decide +kernel
theorem dX0_appendNumber_28 : decode cX0_appendNumber 28 = .ok (.iconst 1, 1) := by decide +kernel
theorem dX0_appendNumber_29 : decode cX0_appendNumber 29 = .ok (.iadd, 1) := by decide +kernel
theorem dX0_appendNumber_30 : decode cX0_appendNumber 30 = .ok (.iastore, 1) := by decide +kernel
theorem dX0_appendNumber_31 : decode cX0_appendNumber 31 = .ok (.aload_n 0, 1) := by decide +kernel
theorem dX0_appendNumber_32 : decode cX0_appendNumber 32 = .ok (.getfield 17, 3) := by decide +kernel
theorem dX0_appendNumber_35 : decode cX0_appendNumber 35 = .ok (.iload_n 1, 1) := by decide +kernel
theorem dX0_appendNumber_36 : decode cX0_appendNumber 36 = .ok (.iaload, 1) := by decide +kernel
theorem dX0_appendNumber_37 : decode cX0_appendNumber 37 = .ok (.ireturn, 1) := by decide +kernel
set_option maxRecDepth 20000 in
theorem ggX0_appendOut_X0_needRoom : GoodIn wsX0_appendOut wsX0_needRoom := goodIn_ca (goodIn_r _ [6, 7, 8, 1, 17, 18, 19, 20, 21] (by decide +kernel) (by decide +kernel)) (goodIn_sub (fun _ h => List.mem_cons_of_mem _ (List.mem_append_right _ h)) (by decide +kernel))
set_option maxRecDepth 20000 in
theorem gX0_appendOut_X0_needRoom : GoodIn wsX0_appendOut (wsV RX0 169 RX0 yX0_needRoom wsX0_needRoom) := goodIn_app (goodIn_of _ (by decide +kernel)) ggX0_appendOut_X0_needRoom
set_option maxRecDepth 20000 in
theorem ggX0_appendOut_X0_stripPlace : GoodIn wsX0_appendOut wsX0_stripPlace := goodIn_r _ [11] (by decide +kernel) (by decide +kernel)
set_option maxRecDepth 20000 in
theorem gX0_appendOut_X0_stripPlace : GoodIn wsX0_appendOut (va_wsS RX0 95 yX0_stripPlace wsX0_stripPlace) := goodIn_app (goodIn_of _ (by decide +kernel)) ggX0_appendOut_X0_stripPlace
set_option maxRecDepth 20000 in
theorem ggX0_appendOut_X0_putOut : GoodIn wsX0_appendOut wsX0_putOut := goodIn_r _ [15, 16, 17, 18, 19, 20, 21] (by decide +kernel) (by decide +kernel)
set_option maxRecDepth 20000 in
theorem gX0_appendOut_X0_putOut : GoodIn wsX0_appendOut (wsV RX0 75 RX0 yX0_putOut wsX0_putOut) := goodIn_app (goodIn_of _ (by decide +kernel)) ggX0_appendOut_X0_putOut
theorem dX0_appendOut_0 : decode cX0_appendOut 0 = .ok (.aload_n 0, 1) := by decide +kernel
theorem dX0_appendOut_1 : decode cX0_appendOut 1 = .ok (.iload_n 1, 1) := by decide +kernel
theorem dX0_appendOut_2 : decode cX0_appendOut 2 = .ok (.invokevirtual 169, 3) := by decide +kernel
theorem dX0_appendOut_5 : decode cX0_appendOut 5 = .ok (.aload_n 0, 1) := by decide +kernel
theorem dX0_appendOut_6 : decode cX0_appendOut 6 = .ok (.iload_n 1, 1) := by decide +kernel
theorem dX0_appendOut_7 : decode cX0_appendOut 7 = .ok (.aload_n 0, 1) := by decide +kernel
theorem dX0_appendOut_8 : decode cX0_appendOut 8 = .ok (.getfield 17, 3) := by decide +kernel
theorem dX0_appendOut_11 : decode cX0_appendOut 11 = .ok (.iload_n 1, 1) := by decide +kernel
theorem dX0_appendOut_12 : decode cX0_appendOut 12 = .ok (.iaload, 1) := by decide +kernel
theorem dX0_appendOut_13 : decode cX0_appendOut 13 = .ok (.invokestatic 95, 3) := by decide +kernel
theorem dX0_appendOut_16 : decode cX0_appendOut 16 = .ok (.invokevirtual 75, 3) := by decide +kernel
theorem dX0_appendOut_19 : decode cX0_appendOut 19 = .ok (.pop, 1) := by decide +kernel
theorem dX0_appendOut_20 : decode cX0_appendOut 20 = .ok (.aload_n 0, 1) := by decide +kernel
theorem dX0_appendOut_21 : decode cX0_appendOut 21 = .ok (.getfield 17, 3) := by decide +kernel
theorem dX0_appendOut_24 : decode cX0_appendOut 24 = .ok (.iload_n 1, 1) := by decide +kernel
theorem dX0_appendOut_25 : decode cX0_appendOut 25 = .ok (.dup2, 1) := by decide +kernel
theorem dX0_appendOut_26 : decode cX0_appendOut 26 = .ok (.iaload, 1) := by decide +kernel
theorem dX0_appendOut_27 : decode cX0_appendOut 27 = .ok (.iconst 1, 1) := by decide +kernel
theorem dX0_appendOut_28 : decode cX0_appendOut 28 = .ok (.iadd, 1) := by decide +kernel
theorem dX0_appendOut_29 : decode cX0_appendOut 29 = .ok (.iastore, 1) := by decide +kernel
theorem dX0_appendOut_30 : decode cX0_appendOut 30 = .ok (.aload_n 0, 1) := by decide +kernel
theorem dX0_appendOut_31 : decode cX0_appendOut 31 = .ok (.getfield 17, 3) := by decide +kernel
theorem dX0_appendOut_34 : decode cX0_appendOut 34 = .ok (.iload_n 1, 1) := by decide +kernel
theorem dX0_appendOut_35 : decode cX0_appendOut 35 = .ok (.iaload, 1) := by decide +kernel
theorem dX0_appendOut_36 : decode cX0_appendOut 36 = .ok (.ireturn, 1) := by decide +kernel
theorem dX0_emptyStrip_0 : decode cX0_emptyStrip 0 = .ok (.aload_n 0, 1) := by decide +kernel
theorem dX0_emptyStrip_1 : decode cX0_emptyStrip 1 = .ok (.getfield 17, 3) := by decide +kernel
theorem dX0_emptyStrip_4 : decode cX0_emptyStrip 4 = .ok (.iload_n 1, 1) := by decide +kernel
theorem dX0_emptyStrip_5 : decode cX0_emptyStrip 5 = .ok (.iaload, 1) := by decide +kernel
theorem dX0_emptyStrip_6 : decode cX0_emptyStrip 6 = .ok (.istore_n 2, 1) := by decide +kernel
theorem dX0_emptyStrip_7 : decode cX0_emptyStrip 7 = .ok (.aload_n 0, 1) := by decide +kernel
theorem dX0_emptyStrip_8 : decode cX0_emptyStrip 8 = .ok (.getfield 17, 3) := by decide +kernel
theorem dX0_emptyStrip_11 : decode cX0_emptyStrip 11 = .ok (.iload_n 1, 1) := by decide +kernel
theorem dX0_emptyStrip_12 : decode cX0_emptyStrip 12 = .ok (.iconst 0, 1) := by decide +kernel
theorem dX0_emptyStrip_13 : decode cX0_emptyStrip 13 = .ok (.iastore, 1) := by decide +kernel
theorem dX0_emptyStrip_14 : decode cX0_emptyStrip 14 = .ok (.iload_n 2, 1) := by decide +kernel
theorem dX0_emptyStrip_15 : decode cX0_emptyStrip 15 = .ok (.ireturn, 1) := by decide +kernel
theorem dX0_isRelated_0 : decode cX0_isRelated 0 = .ok (.aload_n 0, 1) := by decide +kernel
theorem dX0_isRelated_1 : decode cX0_isRelated 1 = .ok (.getfield 9, 3) := by decide +kernel
theorem dX0_isRelated_4 : decode cX0_isRelated 4 = .ok (.iload_n 1, 1) := by decide +kernel
theorem dX0_isRelated_5 : decode cX0_isRelated 5 = .ok (.baload, 1) := by decide +kernel
theorem dX0_isRelated_6 : decode cX0_isRelated 6 = .ok (.ifCond .eq 12, 3) := by decide +kernel
theorem dX0_isRelated_9 : decode cX0_isRelated 9 = .ok (.aload_n 0, 1) := by decide +kernel
theorem dX0_isRelated_10 : decode cX0_isRelated 10 = .ok (.getfield 9, 3) := by decide +kernel
theorem dX0_isRelated_13 : decode cX0_isRelated 13 = .ok (.iload_n 2, 1) := by decide +kernel
theorem dX0_isRelated_14 : decode cX0_isRelated 14 = .ok (.baload, 1) := by decide +kernel
theorem dX0_isRelated_15 : decode cX0_isRelated 15 = .ok (.ifCond .ne 14, 3) := by decide +kernel
theorem dX0_isRelated_18 : decode cX0_isRelated 18 = .ok (.iload_n 3, 1) := by decide +kernel
theorem dX0_isRelated_19 : decode cX0_isRelated 19 = .ok (.iconst 5, 1) := by decide +kernel
theorem dX0_isRelated_20 : decode cX0_isRelated 20 = .ok (.if_icmp .ne 7, 3) := by decide +kernel
theorem dX0_isRelated_23 : decode cX0_isRelated 23 = .ok (.iconst 1, 1) := by decide +kernel
theorem dX0_isRelated_24 : decode cX0_isRelated 24 = .ok (.goto 4, 3) := by decide +kernel
theorem dX0_isRelated_27 : decode cX0_isRelated 27 = .ok (.iconst 0, 1) := by decide +kernel
theorem dX0_isRelated_28 : decode cX0_isRelated 28 = .ok (.ireturn, 1) := by decide +kernel
theorem dX0_isRelated_29 : decode cX0_isRelated 29 = .ok (.aload_n 0, 1) := by decide +kernel
theorem dX0_isRelated_30 : decode cX0_isRelated 30 = .ok (.getfield 13, 3) := by decide +kernel
theorem dX0_isRelated_33 : decode cX0_isRelated 33 = .ok (.iload_n 1, 1) := by decide +kernel
theorem dX0_isRelated_34 : decode cX0_isRelated 34 = .ok (.daload, 1) := by decide +kernel
theorem dX0_isRelated_35 : decode cX0_isRelated 35 = .ok (.dstore 4, 2) := by decide +kernel
theorem dX0_isRelated_37 : decode cX0_isRelated 37 = .ok (.aload_n 0, 1) := by decide +kernel
theorem dX0_isRelated_38 : decode cX0_isRelated 38 = .ok (.getfield 13, 3) := by decide +kernel
theorem dX0_isRelated_41 : decode cX0_isRelated 41 = .ok (.iload_n 2, 1) := by decide +kernel
theorem dX0_isRelated_42 : decode cX0_isRelated 42 = .ok (.daload, 1) := by decide +kernel
theorem dX0_isRelated_43 : decode cX0_isRelated 43 = .ok (.dstore 6, 2) := by decide +kernel
theorem dX0_isRelated_45 : decode cX0_isRelated 45 = .ok (.iload_n 3, 1) := by decide +kernel
theorem dX0_isRelated_46 : decode cX0_isRelated 46 = .ok (.tableswitch 104 0 4 #[34, 48, 62, 76, 90], 34) := by decide +kernel
theorem dX0_isRelated_80 : decode cX0_isRelated 80 = .ok (.dload 4, 2) := by decide +kernel
theorem dX0_isRelated_82 : decode cX0_isRelated 82 = .ok (.dload 6, 2) := by decide +kernel
theorem dX0_isRelated_84 : decode cX0_isRelated 84 = .ok (.dcmp .g, 1) := by decide +kernel
theorem dX0_isRelated_85 : decode cX0_isRelated 85 = .ok (.ifCond .ge 7, 3) := by decide +kernel
theorem dX0_isRelated_88 : decode cX0_isRelated 88 = .ok (.iconst 1, 1) := by decide +kernel
theorem dX0_isRelated_89 : decode cX0_isRelated 89 = .ok (.goto 4, 3) := by decide +kernel
theorem dX0_isRelated_92 : decode cX0_isRelated 92 = .ok (.iconst 0, 1) := by decide +kernel
theorem dX0_isRelated_93 : decode cX0_isRelated 93 = .ok (.ireturn, 1) := by decide +kernel
theorem dX0_isRelated_94 : decode cX0_isRelated 94 = .ok (.dload 4, 2) := by decide +kernel
theorem dX0_isRelated_96 : decode cX0_isRelated 96 = .ok (.dload 6, 2) := by decide +kernel
theorem dX0_isRelated_98 : decode cX0_isRelated 98 = .ok (.dcmp .g, 1) := by decide +kernel
theorem dX0_isRelated_99 : decode cX0_isRelated 99 = .ok (.ifCond .gt 7, 3) := by decide +kernel
theorem dX0_isRelated_102 : decode cX0_isRelated 102 = .ok (.iconst 1, 1) := by decide +kernel
theorem dX0_isRelated_103 : decode cX0_isRelated 103 = .ok (.goto 4, 3) := by decide +kernel
theorem dX0_isRelated_106 : decode cX0_isRelated 106 = .ok (.iconst 0, 1) := by decide +kernel
theorem dX0_isRelated_107 : decode cX0_isRelated 107 = .ok (.ireturn, 1) := by decide +kernel
theorem dX0_isRelated_108 : decode cX0_isRelated 108 = .ok (.dload 4, 2) := by decide +kernel
theorem dX0_isRelated_110 : decode cX0_isRelated 110 = .ok (.dload 6, 2) := by decide +kernel
theorem dX0_isRelated_112 : decode cX0_isRelated 112 = .ok (.dcmp .l, 1) := by decide +kernel
theorem dX0_isRelated_113 : decode cX0_isRelated 113 = .ok (.ifCond .le 7, 3) := by decide +kernel
theorem dX0_isRelated_116 : decode cX0_isRelated 116 = .ok (.iconst 1, 1) := by decide +kernel
theorem dX0_isRelated_117 : decode cX0_isRelated 117 = .ok (.goto 4, 3) := by decide +kernel
theorem dX0_isRelated_120 : decode cX0_isRelated 120 = .ok (.iconst 0, 1) := by decide +kernel
theorem dX0_isRelated_121 : decode cX0_isRelated 121 = .ok (.ireturn, 1) := by decide +kernel
theorem dX0_isRelated_122 : decode cX0_isRelated 122 = .ok (.dload 4, 2) := by decide +kernel
theorem dX0_isRelated_124 : decode cX0_isRelated 124 = .ok (.dload 6, 2) := by decide +kernel
theorem dX0_isRelated_126 : decode cX0_isRelated 126 = .ok (.dcmp .l, 1) := by decide +kernel
theorem dX0_isRelated_127 : decode cX0_isRelated 127 = .ok (.ifCond .lt 7, 3) := by decide +kernel
theorem dX0_isRelated_130 : decode cX0_isRelated 130 = .ok (.iconst 1, 1) := by decide +kernel
theorem dX0_isRelated_131 : decode cX0_isRelated 131 = .ok (.goto 4, 3) := by decide +kernel
theorem dX0_isRelated_134 : decode cX0_isRelated 134 = .ok (.iconst 0, 1) := by decide +kernel
theorem dX0_isRelated_135 : decode cX0_isRelated 135 = .ok (.ireturn, 1) := by decide +kernel
theorem dX0_isRelated_136 : decode cX0_isRelated 136 = .ok (.dload 4, 2) := by decide +kernel
theorem dX0_isRelated_138 : decode cX0_isRelated 138 = .ok (.dload 6, 2) := by decide +kernel
theorem dX0_isRelated_140 : decode cX0_isRelated 140 = .ok (.dcmp .l, 1) := by decide +kernel
theorem dX0_isRelated_141 : decode cX0_isRelated 141 = .ok (.ifCond .ne 7, 3) := by decide +kernel
theorem dX0_isRelated_144 : decode cX0_isRelated 144 = .ok (.iconst 1, 1) := by decide +kernel
theorem dX0_isRelated_145 : decode cX0_isRelated 145 = .ok (.goto 4, 3) := by decide +kernel
theorem dX0_isRelated_148 : decode cX0_isRelated 148 = .ok (.iconst 0, 1) := by decide +kernel
theorem dX0_isRelated_149 : decode cX0_isRelated 149 = .ok (.ireturn, 1) := by decide +kernel
theorem dX0_isRelated_150 : decode cX0_isRelated 150 = .ok (.dload 4, 2) := by decide +kernel
theorem dX0_isRelated_152 : decode cX0_isRelated 152 = .ok (.dload 6, 2) := by decide +kernel
theorem dX0_isRelated_154 : decode cX0_isRelated 154 = .ok (.dcmp .l, 1) := by decide +kernel
theorem dX0_isRelated_155 : decode cX0_isRelated 155 = .ok (.ifCond .eq 7, 3) := by decide +kernel
theorem dX0_isRelated_158 : decode cX0_isRelated 158 = .ok (.iconst 1, 1) := by decide +kernel
theorem dX0_isRelated_159 : decode cX0_isRelated 159 = .ok (.goto 4, 3) := by decide +kernel
theorem dX0_isRelated_162 : decode cX0_isRelated 162 = .ok (.iconst 0, 1) := by decide +kernel
theorem dX0_isRelated_163 : decode cX0_isRelated 163 = .ok (.ireturn, 1) := by decide +kernel
set_option maxRecDepth 20000 in
theorem ggX0_gaugesRelatedToProbe_X0_latestPlace : GoodIn wsX0_gaugesRelatedToProbe wsX0_latestPlace := goodIn_r _ [5, 6, 7, 8, 4, 9, 10, 11, 12, 22, 23, 24, 25, 26] (by decide +kernel) (by decide +kernel)
set_option maxRecDepth 20000 in
theorem gX0_gaugesRelatedToProbe_X0_latestPlace : GoodIn wsX0_gaugesRelatedToProbe (wsV RX0 102 RX0 yX0_latestPlace wsX0_latestPlace) := goodIn_app (goodIn_of _ (by decide +kernel)) ggX0_gaugesRelatedToProbe_X0_latestPlace
set_option maxRecDepth 20000 in
theorem ggX0_gaugesRelatedToProbe_X0_probePlace : GoodIn wsX0_gaugesRelatedToProbe wsX0_probePlace := goodIn_r _ [15] (by decide +kernel) (by decide +kernel)
set_option maxRecDepth 20000 in
theorem gX0_gaugesRelatedToProbe_X0_probePlace : GoodIn wsX0_gaugesRelatedToProbe (va_wsS RX0 79 yX0_probePlace wsX0_probePlace) := goodIn_app (goodIn_of _ (by decide +kernel)) ggX0_gaugesRelatedToProbe_X0_probePlace
set_option maxRecDepth 20000 in
theorem ggX0_gaugesRelatedToProbe_X0_isRelated : GoodIn wsX0_gaugesRelatedToProbe wsX0_isRelated := goodIn_r _ [19, 20, 21, 22, 23, 24, 25, 26] (by decide +kernel) (by decide +kernel)
set_option maxRecDepth 20000 in
theorem gX0_gaugesRelatedToProbe_X0_isRelated : GoodIn wsX0_gaugesRelatedToProbe (wsV RX0 98 RX0 yX0_isRelated wsX0_isRelated) := goodIn_app (goodIn_of _ (by decide +kernel)) ggX0_gaugesRelatedToProbe_X0_isRelated
theorem dX0_gaugesRelatedToProbe_0 : decode cX0_gaugesRelatedToProbe 0 = .ok (.iconst 0, 1) := by decide +kernel
theorem dX0_gaugesRelatedToProbe_1 : decode cX0_gaugesRelatedToProbe 1 = .ok (.istore_n 3, 1) := by decide +kernel
theorem dX0_gaugesRelatedToProbe_2 : decode cX0_gaugesRelatedToProbe 2 = .ok (.iconst 0, 1) := by decide +kernel
theorem dX0_gaugesRelatedToProbe_3 : decode cX0_gaugesRelatedToProbe 3 = .ok (.istore 4, 2) := by decide +kernel
theorem dX0_gaugesRelatedToProbe_5 : decode cX0_gaugesRelatedToProbe 5 = .ok (.iload 4, 2) := by decide +kernel
theorem dX0_gaugesRelatedToProbe_7 : decode cX0_gaugesRelatedToProbe 7 = .ok (.bipush 6, 2) := by decide +kernel
theorem dX0_gaugesRelatedToProbe_9 : decode cX0_gaugesRelatedToProbe 9 = .ok (.if_icmp .ge 31, 3) := by decide +kernel
theorem dX0_gaugesRelatedToProbe_12 : decode cX0_gaugesRelatedToProbe 12 = .ok (.aload_n 0, 1) := by decide +kernel
theorem dX0_gaugesRelatedToProbe_13 : decode cX0_gaugesRelatedToProbe 13 = .ok (.aload_n 0, 1) := by decide +kernel
theorem dX0_gaugesRelatedToProbe_14 : decode cX0_gaugesRelatedToProbe 14 = .ok (.iload 4, 2) := by decide +kernel
theorem dX0_gaugesRelatedToProbe_16 : decode cX0_gaugesRelatedToProbe 16 = .ok (.iload_n 1, 1) := by decide +kernel
theorem dX0_gaugesRelatedToProbe_17 : decode cX0_gaugesRelatedToProbe 17 = .ok (.invokevirtual 102, 3) := by decide +kernel
theorem dX0_gaugesRelatedToProbe_20 : decode cX0_gaugesRelatedToProbe 20 = .ok (.iload_n 1, 1) := by decide +kernel
theorem dX0_gaugesRelatedToProbe_21 : decode cX0_gaugesRelatedToProbe 21 = .ok (.invokestatic 79, 3) := by decide +kernel
theorem dX0_gaugesRelatedToProbe_24 : decode cX0_gaugesRelatedToProbe 24 = .ok (.iload_n 2, 1) := by decide +kernel
theorem dX0_gaugesRelatedToProbe_25 : decode cX0_gaugesRelatedToProbe 25 = .ok (.invokevirtual 98, 3) := by decide +kernel
theorem dX0_gaugesRelatedToProbe_28 : decode cX0_gaugesRelatedToProbe 28 = .ok (.ifCond .eq 6, 3) := by decide +kernel
theorem dX0_gaugesRelatedToProbe_31 : decode cX0_gaugesRelatedToProbe 31 = .ok (.iinc 3 1, 3) := by decide +kernel
theorem dX0_gaugesRelatedToProbe_34 : decode cX0_gaugesRelatedToProbe 34 = .ok (.iinc 4 1, 3) := by decide +kernel
theorem dX0_gaugesRelatedToProbe_37 : decode cX0_gaugesRelatedToProbe 37 = .ok (.goto (-32), 3) := by decide +kernel
theorem dX0_gaugesRelatedToProbe_40 : decode cX0_gaugesRelatedToProbe 40 = .ok (.iload_n 3, 1) := by decide +kernel
theorem dX0_gaugesRelatedToProbe_41 : decode cX0_gaugesRelatedToProbe 41 = .ok (.ireturn, 1) := by decide +kernel
set_option maxRecDepth 20000 in
theorem ggX0_runAhead_X0_stripPlace : GoodIn wsX0_runAhead wsX0_stripPlace := goodIn_r _ [5] (by decide +kernel) (by decide +kernel)
set_option maxRecDepth 20000 in
theorem gX0_runAhead_X0_stripPlace : GoodIn wsX0_runAhead (va_wsS RX0 95 yX0_stripPlace wsX0_stripPlace) := goodIn_app (goodIn_of _ (by decide +kernel)) ggX0_runAhead_X0_stripPlace
set_option maxRecDepth 20000 in
theorem ggX0_runAhead_X0_isRelated : GoodIn wsX0_runAhead wsX0_isRelated := goodIn_r _ [9, 10, 11, 12, 13, 14, 15, 16] (by decide +kernel) (by decide +kernel)
set_option maxRecDepth 20000 in
theorem gX0_runAhead_X0_isRelated : GoodIn wsX0_runAhead (wsV RX0 98 RX0 yX0_isRelated wsX0_isRelated) := goodIn_app (goodIn_of _ (by decide +kernel)) ggX0_runAhead_X0_isRelated
theorem dX0_runAhead_0 : decode cX0_runAhead 0 = .ok (.iconst 0, 1) := by decide +kernel
theorem dX0_runAhead_1 : decode cX0_runAhead 1 = .ok (.istore 4, 2) := by decide +kernel
theorem dX0_runAhead_3 : decode cX0_runAhead 3 = .ok (.iload 4, 2) := by decide +kernel
theorem dX0_runAhead_5 : decode cX0_runAhead 5 = .ok (.aload_n 0, 1) := by decide +kernel
theorem dX0_runAhead_6 : decode cX0_runAhead 6 = .ok (.getfield 17, 3) := by decide +kernel
theorem dX0_runAhead_9 : decode cX0_runAhead 9 = .ok (.iload_n 1, 1) := by decide +kernel
theorem dX0_runAhead_10 : decode cX0_runAhead 10 = .ok (.iaload, 1) := by decide +kernel
theorem dX0_runAhead_11 : decode cX0_runAhead 11 = .ok (.if_icmp .ge 24, 3) := by decide +kernel
theorem dX0_runAhead_14 : decode cX0_runAhead 14 = .ok (.aload_n 0, 1) := by decide +kernel
theorem dX0_runAhead_15 : decode cX0_runAhead 15 = .ok (.iload_n 1, 1) := by decide +kernel
theorem dX0_runAhead_16 : decode cX0_runAhead 16 = .ok (.iload 4, 2) := by decide +kernel
theorem dX0_runAhead_18 : decode cX0_runAhead 18 = .ok (.invokestatic 95, 3) := by decide +kernel
theorem dX0_runAhead_21 : decode cX0_runAhead 21 = .ok (.iload_n 2, 1) := by decide +kernel
theorem dX0_runAhead_22 : decode cX0_runAhead 22 = .ok (.iload_n 3, 1) := by decide +kernel
theorem dX0_runAhead_23 : decode cX0_runAhead 23 = .ok (.invokevirtual 98, 3) := by decide +kernel
theorem dX0_runAhead_26 : decode cX0_runAhead 26 = .ok (.ifCond .eq 9, 3) := by decide +kernel
theorem dX0_runAhead_29 : decode cX0_runAhead 29 = .ok (.iinc 4 1, 3) := by decide +kernel
theorem dX0_runAhead_32 : decode cX0_runAhead 32 = .ok (.goto (-29), 3) := by decide +kernel
theorem dX0_runAhead_35 : decode cX0_runAhead 35 = .ok (.iload 4, 2) := by decide +kernel
theorem dX0_runAhead_37 : decode cX0_runAhead 37 = .ok (.ireturn, 1) := by decide +kernel
set_option maxRecDepth 20000 in
theorem ggX0_runBack_X0_stripPlace : GoodIn wsX0_runBack wsX0_stripPlace := goodIn_r _ [5] (by decide +kernel) (by decide +kernel)
set_option maxRecDepth 20000 in
theorem gX0_runBack_X0_stripPlace : GoodIn wsX0_runBack (va_wsS RX0 95 yX0_stripPlace wsX0_stripPlace) := goodIn_app (goodIn_of _ (by decide +kernel)) ggX0_runBack_X0_stripPlace
set_option maxRecDepth 20000 in
theorem ggX0_runBack_X0_isRelated : GoodIn wsX0_runBack wsX0_isRelated := goodIn_r _ [9, 10, 11, 12, 13, 14, 15, 16] (by decide +kernel) (by decide +kernel)
set_option maxRecDepth 20000 in
theorem gX0_runBack_X0_isRelated : GoodIn wsX0_runBack (wsV RX0 98 RX0 yX0_isRelated wsX0_isRelated) := goodIn_app (goodIn_of _ (by decide +kernel)) ggX0_runBack_X0_isRelated
theorem dX0_runBack_0 : decode cX0_runBack 0 = .ok (.aload_n 0, 1) := by decide +kernel
theorem dX0_runBack_1 : decode cX0_runBack 1 = .ok (.getfield 17, 3) := by decide +kernel
theorem dX0_runBack_4 : decode cX0_runBack 4 = .ok (.iload_n 1, 1) := by decide +kernel
theorem dX0_runBack_5 : decode cX0_runBack 5 = .ok (.iaload, 1) := by decide +kernel
theorem dX0_runBack_6 : decode cX0_runBack 6 = .ok (.iconst 1, 1) := by decide +kernel
theorem dX0_runBack_7 : decode cX0_runBack 7 = .ok (.isub, 1) := by decide +kernel
theorem dX0_runBack_8 : decode cX0_runBack 8 = .ok (.istore 4, 2) := by decide +kernel
theorem dX0_runBack_10 : decode cX0_runBack 10 = .ok (.iconst 0, 1) := by decide +kernel
theorem dX0_runBack_11 : decode cX0_runBack 11 = .ok (.istore 5, 2) := by decide +kernel
theorem dX0_runBack_13 : decode cX0_runBack 13 = .ok (.iload 5, 2) := by decide +kernel
theorem dX0_runBack_15 : decode cX0_runBack 15 = .ok (.iload 4, 2) := by decide +kernel
theorem dX0_runBack_17 : decode cX0_runBack 17 = .ok (.if_icmp .gt 27, 3) := by decide +kernel
theorem dX0_runBack_20 : decode cX0_runBack 20 = .ok (.aload_n 0, 1) := by decide +kernel
theorem dX0_runBack_21 : decode cX0_runBack 21 = .ok (.iload_n 1, 1) := by decide +kernel
theorem dX0_runBack_22 : decode cX0_runBack 22 = .ok (.iload 4, 2) := by decide +kernel
theorem dX0_runBack_24 : decode cX0_runBack 24 = .ok (.iload 5, 2) := by decide +kernel
theorem dX0_runBack_26 : decode cX0_runBack 26 = .ok (.isub, 1) := by decide +kernel
theorem dX0_runBack_27 : decode cX0_runBack 27 = .ok (.invokestatic 95, 3) := by decide +kernel
theorem dX0_runBack_30 : decode cX0_runBack 30 = .ok (.iload_n 2, 1) := by decide +kernel
theorem dX0_runBack_31 : decode cX0_runBack 31 = .ok (.iload_n 3, 1) := by decide +kernel
theorem dX0_runBack_32 : decode cX0_runBack 32 = .ok (.invokevirtual 98, 3) := by decide +kernel
theorem dX0_runBack_35 : decode cX0_runBack 35 = .ok (.ifCond .ne 9, 3) := by decide +kernel
theorem dX0_runBack_38 : decode cX0_runBack 38 = .ok (.iinc 5 1, 3) := by decide +kernel
theorem dX0_runBack_41 : decode cX0_runBack 41 = .ok (.goto (-28), 3) := by decide +kernel
theorem dX0_runBack_44 : decode cX0_runBack 44 = .ok (.iload 5, 2) := by decide +kernel
theorem dX0_runBack_46 : decode cX0_runBack 46 = .ok (.ireturn, 1) := by decide +kernel
set_option maxRecDepth 20000 in
theorem ggX0_standOfLevel_X0_stripOf : GoodIn wsX0_standOfLevel wsX0_stripOf := goodIn_r _ [6] (by decide +kernel) (by decide +kernel)
set_option maxRecDepth 20000 in
theorem gX0_standOfLevel_X0_stripOf : GoodIn wsX0_standOfLevel (va_wsS RX0 37 yX0_stripOf wsX0_stripOf) := goodIn_app (goodIn_of _ (by decide +kernel)) ggX0_standOfLevel_X0_stripOf
set_option maxRecDepth 20000 in
theorem ggX0_standOfLevel_X0_latestPlace : GoodIn wsX0_standOfLevel wsX0_latestPlace := goodIn_r _ [10, 1, 3, 4, 5, 6, 11, 12, 13, 22, 23, 24, 25, 26] (by decide +kernel) (by decide +kernel)
set_option maxRecDepth 20000 in
theorem gX0_standOfLevel_X0_latestPlace : GoodIn wsX0_standOfLevel (wsV RX0 102 RX0 yX0_latestPlace wsX0_latestPlace) := goodIn_app (goodIn_of _ (by decide +kernel)) ggX0_standOfLevel_X0_latestPlace
set_option maxRecDepth 20000 in
theorem ggX0_standOfLevel_X0_markPlace : GoodIn wsX0_standOfLevel wsX0_markPlace := goodIn_r _ [16] (by decide +kernel) (by decide +kernel)
set_option maxRecDepth 20000 in
theorem gX0_standOfLevel_X0_markPlace : GoodIn wsX0_standOfLevel (va_wsS RX0 66 yX0_markPlace wsX0_markPlace) := goodIn_app (goodIn_of _ (by decide +kernel)) ggX0_standOfLevel_X0_markPlace
set_option maxRecDepth 20000 in
theorem ggX0_standOfLevel_X0_isRelated : GoodIn wsX0_standOfLevel wsX0_isRelated := goodIn_r _ [20, 2, 21, 22, 23, 24, 25, 26] (by decide +kernel) (by decide +kernel)
set_option maxRecDepth 20000 in
theorem gX0_standOfLevel_X0_isRelated : GoodIn wsX0_standOfLevel (wsV RX0 98 RX0 yX0_isRelated wsX0_isRelated) := goodIn_app (goodIn_of _ (by decide +kernel)) ggX0_standOfLevel_X0_isRelated
theorem dX0_standOfLevel_0 : decode cX0_standOfLevel 0 = .ok (.aload_n 0, 1) := by decide +kernel
theorem dX0_standOfLevel_1 : decode cX0_standOfLevel 1 = .ok (.getfield 17, 3) := by decide +kernel
theorem dX0_standOfLevel_4 : decode cX0_standOfLevel 4 = .ok (.iload_n 1, 1) := by decide +kernel
theorem dX0_standOfLevel_5 : decode cX0_standOfLevel 5 = .ok (.iconst 0, 1) := by decide +kernel
theorem dX0_standOfLevel_6 : decode cX0_standOfLevel 6 = .ok (.invokestatic 37, 3) := by decide +kernel
theorem dX0_standOfLevel_9 : decode cX0_standOfLevel 9 = .ok (.iaload, 1) := by decide +kernel
theorem dX0_standOfLevel_10 : decode cX0_standOfLevel 10 = .ok (.ifCond .ne 5, 3) := by decide +kernel
theorem dX0_standOfLevel_13 : decode cX0_standOfLevel 13 = .ok (.iconst 0, 1) := by decide +kernel
theorem dX0_standOfLevel_14 : decode cX0_standOfLevel 14 = .ok (.ireturn, 1) := by decide +kernel
theorem dX0_standOfLevel_15 : decode cX0_standOfLevel 15 = .ok (.aload_n 0, 1) := by decide +kernel
theorem dX0_standOfLevel_16 : decode cX0_standOfLevel 16 = .ok (.iload_n 1, 1) := by decide +kernel
theorem dX0_standOfLevel_17 : decode cX0_standOfLevel 17 = .ok (.iconst 0, 1) := by decide +kernel
theorem dX0_standOfLevel_18 : decode cX0_standOfLevel 18 = .ok (.invokevirtual 102, 3) := by decide +kernel
theorem dX0_standOfLevel_21 : decode cX0_standOfLevel 21 = .ok (.istore_n 2, 1) := by decide +kernel
theorem dX0_standOfLevel_22 : decode cX0_standOfLevel 22 = .ok (.iload_n 1, 1) := by decide +kernel
theorem dX0_standOfLevel_23 : decode cX0_standOfLevel 23 = .ok (.iconst 0, 1) := by decide +kernel
theorem dX0_standOfLevel_24 : decode cX0_standOfLevel 24 = .ok (.invokestatic 66, 3) := by decide +kernel
theorem dX0_standOfLevel_27 : decode cX0_standOfLevel 27 = .ok (.istore_n 3, 1) := by decide +kernel
theorem dX0_standOfLevel_28 : decode cX0_standOfLevel 28 = .ok (.iload_n 1, 1) := by decide +kernel
theorem dX0_standOfLevel_29 : decode cX0_standOfLevel 29 = .ok (.iconst 1, 1) := by decide +kernel
theorem dX0_standOfLevel_30 : decode cX0_standOfLevel 30 = .ok (.invokestatic 66, 3) := by decide +kernel
theorem dX0_standOfLevel_33 : decode cX0_standOfLevel 33 = .ok (.istore 4, 2) := by decide +kernel
theorem dX0_standOfLevel_35 : decode cX0_standOfLevel 35 = .ok (.aload_n 0, 1) := by decide +kernel
theorem dX0_standOfLevel_36 : decode cX0_standOfLevel 36 = .ok (.getfield 9, 3) := by decide +kernel
theorem dX0_standOfLevel_39 : decode cX0_standOfLevel 39 = .ok (.iload_n 2, 1) := by decide +kernel
theorem dX0_standOfLevel_40 : decode cX0_standOfLevel 40 = .ok (.baload, 1) := by decide +kernel
theorem dX0_standOfLevel_41 : decode cX0_standOfLevel 41 = .ok (.ifCond .ne 5, 3) := by decide +kernel
theorem dX0_standOfLevel_44 : decode cX0_standOfLevel 44 = .ok (.iconst 1, 1) := by decide +kernel
theorem dX0_standOfLevel_45 : decode cX0_standOfLevel 45 = .ok (.ireturn, 1) := by decide +kernel
theorem dX0_standOfLevel_46 : decode cX0_standOfLevel 46 = .ok (.aload_n 0, 1) := by decide +kernel
theorem dX0_standOfLevel_47 : decode cX0_standOfLevel 47 = .ok (.iload_n 2, 1) := by decide +kernel
theorem dX0_standOfLevel_48 : decode cX0_standOfLevel 48 = .ok (.iload_n 3, 1) := by decide +kernel
theorem dX0_standOfLevel_49 : decode cX0_standOfLevel 49 = .ok (.iconst 0, 1) := by decide +kernel
theorem dX0_standOfLevel_50 : decode cX0_standOfLevel 50 = .ok (.invokevirtual 98, 3) := by decide +kernel
theorem dX0_standOfLevel_53 : decode cX0_standOfLevel 53 = .ok (.ifCond .eq 5, 3) := by decide +kernel
theorem dX0_standOfLevel_56 : decode cX0_standOfLevel 56 = .ok (.iconst 2, 1) := by decide +kernel
theorem dX0_standOfLevel_57 : decode cX0_standOfLevel 57 = .ok (.ireturn, 1) := by decide +kernel
theorem dX0_standOfLevel_58 : decode cX0_standOfLevel 58 = .ok (.aload_n 0, 1) := by decide +kernel
theorem dX0_standOfLevel_59 : decode cX0_standOfLevel 59 = .ok (.iload_n 2, 1) := by decide +kernel
theorem dX0_standOfLevel_60 : decode cX0_standOfLevel 60 = .ok (.iload 4, 2) := by decide +kernel
theorem dX0_standOfLevel_62 : decode cX0_standOfLevel 62 = .ok (.iconst 2, 1) := by decide +kernel
theorem dX0_standOfLevel_63 : decode cX0_standOfLevel 63 = .ok (.invokevirtual 98, 3) := by decide +kernel
theorem dX0_standOfLevel_66 : decode cX0_standOfLevel 66 = .ok (.ifCond .eq 5, 3) := by decide +kernel
theorem dX0_standOfLevel_69 : decode cX0_standOfLevel 69 = .ok (.iconst 3, 1) := by decide +kernel
theorem dX0_standOfLevel_70 : decode cX0_standOfLevel 70 = .ok (.ireturn, 1) := by decide +kernel
theorem dX0_standOfLevel_71 : decode cX0_standOfLevel 71 = .ok (.aload_n 0, 1) := by decide +kernel
theorem dX0_standOfLevel_72 : decode cX0_standOfLevel 72 = .ok (.iload_n 2, 1) := by decide +kernel
theorem dX0_standOfLevel_73 : decode cX0_standOfLevel 73 = .ok (.iload_n 3, 1) := by decide +kernel
theorem dX0_standOfLevel_74 : decode cX0_standOfLevel 74 = .ok (.iconst 4, 1) := by decide +kernel
theorem dX0_standOfLevel_75 : decode cX0_standOfLevel 75 = .ok (.invokevirtual 98, 3) := by decide +kernel
theorem dX0_standOfLevel_78 : decode cX0_standOfLevel 78 = .ok (.ifCond .ne 14, 3) := by decide +kernel
theorem dX0_standOfLevel_81 : decode cX0_standOfLevel 81 = .ok (.aload_n 0, 1) := by decide +kernel
theorem dX0_standOfLevel_82 : decode cX0_standOfLevel 82 = .ok (.iload_n 2, 1) := by decide +kernel
theorem dX0_standOfLevel_83 : decode cX0_standOfLevel 83 = .ok (.iload 4, 2) := by decide +kernel
theorem dX0_standOfLevel_85 : decode cX0_standOfLevel 85 = .ok (.iconst 4, 1) := by decide +kernel
theorem dX0_standOfLevel_86 : decode cX0_standOfLevel 86 = .ok (.invokevirtual 98, 3) := by decide +kernel
theorem dX0_standOfLevel_89 : decode cX0_standOfLevel 89 = .ok (.ifCond .eq 5, 3) := by decide +kernel
theorem dX0_standOfLevel_92 : decode cX0_standOfLevel 92 = .ok (.iconst 4, 1) := by decide +kernel
theorem dX0_standOfLevel_93 : decode cX0_standOfLevel 93 = .ok (.ireturn, 1) := by decide +kernel
theorem dX0_standOfLevel_94 : decode cX0_standOfLevel 94 = .ok (.aload_n 0, 1) := by decide +kernel
theorem dX0_standOfLevel_95 : decode cX0_standOfLevel 95 = .ok (.getfield 9, 3) := by decide +kernel
theorem dX0_standOfLevel_98 : decode cX0_standOfLevel 98 = .ok (.iload_n 3, 1) := by decide +kernel
theorem dX0_standOfLevel_99 : decode cX0_standOfLevel 99 = .ok (.baload, 1) := by decide +kernel
theorem dX0_standOfLevel_100 : decode cX0_standOfLevel 100 = .ok (.ifCond .ne 13, 3) := by decide +kernel
theorem dX0_standOfLevel_103 : decode cX0_standOfLevel 103 = .ok (.aload_n 0, 1) := by decide +kernel
theorem dX0_standOfLevel_104 : decode cX0_standOfLevel 104 = .ok (.getfield 9, 3) := by decide +kernel
theorem dX0_standOfLevel_107 : decode cX0_standOfLevel 107 = .ok (.iload 4, 2) := by decide +kernel
theorem dX0_standOfLevel_109 : decode cX0_standOfLevel 109 = .ok (.baload, 1) := by decide +kernel
theorem dX0_standOfLevel_110 : decode cX0_standOfLevel 110 = .ok (.ifCond .eq 8, 3) := by decide +kernel
theorem dX0_standOfLevel_113 : decode cX0_standOfLevel 113 = .ok (.bipush 6, 2) := by decide +kernel
theorem dX0_standOfLevel_115 : decode cX0_standOfLevel 115 = .ok (.goto 4, 3) := by decide +kernel
theorem dX0_standOfLevel_118 : decode cX0_standOfLevel 118 = .ok (.iconst 5, 1) := by decide +kernel
theorem dX0_standOfLevel_119 : decode cX0_standOfLevel 119 = .ok (.ireturn, 1) := by decide +kernel
set_option maxRecDepth 20000 in
theorem ggX0_standOfWind_X0_latestPlace : GoodIn wsX0_standOfWind wsX0_latestPlace := goodIn_r _ [6, 7, 8, 9, 5, 10, 11, 12, 13, 22, 23, 24, 25, 26] (by decide +kernel) (by decide +kernel)
set_option maxRecDepth 20000 in
theorem gX0_standOfWind_X0_latestPlace : GoodIn wsX0_standOfWind (wsV RX0 102 RX0 yX0_latestPlace wsX0_latestPlace) := goodIn_app (goodIn_of _ (by decide +kernel)) ggX0_standOfWind_X0_latestPlace
set_option maxRecDepth 20000 in
theorem ggX0_standOfWind_X0_markPlace : GoodIn wsX0_standOfWind wsX0_markPlace := goodIn_r _ [16] (by decide +kernel) (by decide +kernel)
set_option maxRecDepth 20000 in
theorem gX0_standOfWind_X0_markPlace : GoodIn wsX0_standOfWind (va_wsS RX0 66 yX0_markPlace wsX0_markPlace) := goodIn_app (goodIn_of _ (by decide +kernel)) ggX0_standOfWind_X0_markPlace
set_option maxRecDepth 20000 in
theorem ggX0_standOfWind_X0_isRelated : GoodIn wsX0_standOfWind wsX0_isRelated := goodIn_r _ [20, 1, 21, 22, 23, 24, 25, 26] (by decide +kernel) (by decide +kernel)
set_option maxRecDepth 20000 in
theorem gX0_standOfWind_X0_isRelated : GoodIn wsX0_standOfWind (wsV RX0 98 RX0 yX0_isRelated wsX0_isRelated) := goodIn_app (goodIn_of _ (by decide +kernel)) ggX0_standOfWind_X0_isRelated
theorem dX0_standOfWind_0 : decode cX0_standOfWind 0 = .ok (.aload_n 0, 1) := by decide +kernel
theorem dX0_standOfWind_1 : decode cX0_standOfWind 1 = .ok (.iload_n 1, 1) := by decide +kernel
theorem dX0_standOfWind_2 : decode cX0_standOfWind 2 = .ok (.iconst 1, 1) := by decide +kernel
theorem dX0_standOfWind_3 : decode cX0_standOfWind 3 = .ok (.invokevirtual 102, 3) := by decide +kernel
theorem dX0_standOfWind_6 : decode cX0_standOfWind 6 = .ok (.istore_n 2, 1) := by decide +kernel
theorem dX0_standOfWind_7 : decode cX0_standOfWind 7 = .ok (.iload_n 1, 1) := by decide +kernel
theorem dX0_standOfWind_8 : decode cX0_standOfWind 8 = .ok (.iconst 2, 1) := by decide +kernel
theorem dX0_standOfWind_9 : decode cX0_standOfWind 9 = .ok (.invokestatic 66, 3) := by decide +kernel
theorem dX0_standOfWind_12 : decode cX0_standOfWind 12 = .ok (.istore_n 3, 1) := by decide +kernel
theorem dX0_standOfWind_13 : decode cX0_standOfWind 13 = .ok (.aload_n 0, 1) := by decide +kernel
theorem dX0_standOfWind_14 : decode cX0_standOfWind 14 = .ok (.getfield 9, 3) := by decide +kernel
theorem dX0_standOfWind_17 : decode cX0_standOfWind 17 = .ok (.iload_n 3, 1) := by decide +kernel
theorem dX0_standOfWind_18 : decode cX0_standOfWind 18 = .ok (.baload, 1) := by decide +kernel
theorem dX0_standOfWind_19 : decode cX0_standOfWind 19 = .ok (.ifCond .ne 5, 3) := by decide +kernel
theorem dX0_standOfWind_22 : decode cX0_standOfWind 22 = .ok (.iconst 0, 1) := by decide +kernel
theorem dX0_standOfWind_23 : decode cX0_standOfWind 23 = .ok (.ireturn, 1) := by decide +kernel
theorem dX0_standOfWind_24 : decode cX0_standOfWind 24 = .ok (.aload_n 0, 1) := by decide +kernel
theorem dX0_standOfWind_25 : decode cX0_standOfWind 25 = .ok (.getfield 9, 3) := by decide +kernel
theorem dX0_standOfWind_28 : decode cX0_standOfWind 28 = .ok (.iload_n 2, 1) := by decide +kernel
theorem dX0_standOfWind_29 : decode cX0_standOfWind 29 = .ok (.baload, 1) := by decide +kernel
theorem dX0_standOfWind_30 : decode cX0_standOfWind 30 = .ok (.ifCond .ne 6, 3) := by decide +kernel
theorem dX0_standOfWind_33 : decode cX0_standOfWind 33 = .ok (.bipush 30, 2) := by decide +kernel
theorem dX0_standOfWind_35 : decode cX0_standOfWind 35 = .ok (.ireturn, 1) := by decide +kernel
theorem dX0_standOfWind_36 : decode cX0_standOfWind 36 = .ok (.aload_n 0, 1) := by decide +kernel
theorem dX0_standOfWind_37 : decode cX0_standOfWind 37 = .ok (.iload_n 2, 1) := by decide +kernel
theorem dX0_standOfWind_38 : decode cX0_standOfWind 38 = .ok (.iload_n 3, 1) := by decide +kernel
theorem dX0_standOfWind_39 : decode cX0_standOfWind 39 = .ok (.iconst 0, 1) := by decide +kernel
theorem dX0_standOfWind_40 : decode cX0_standOfWind 40 = .ok (.invokevirtual 98, 3) := by decide +kernel
theorem dX0_standOfWind_43 : decode cX0_standOfWind 43 = .ok (.ifCond .eq 8, 3) := by decide +kernel
theorem dX0_standOfWind_46 : decode cX0_standOfWind 46 = .ok (.bipush 10, 2) := by decide +kernel
theorem dX0_standOfWind_48 : decode cX0_standOfWind 48 = .ok (.goto 5, 3) := by decide +kernel
theorem dX0_standOfWind_51 : decode cX0_standOfWind 51 = .ok (.bipush 20, 2) := by decide +kernel
theorem dX0_standOfWind_53 : decode cX0_standOfWind 53 = .ok (.ireturn, 1) := by decide +kernel
set_option maxRecDepth 20000 in
theorem ggX0_gaugesAheadOf_X0_isAhead : GoodIn wsX0_gaugesAheadOf wsX0_isAhead := goodIn_r _ [5, 6, 7, 8, 9, 4, 10, 11, 12, 13, 14, 15, 16, 17, 18, 19, 20, 21, 22, 23, 24, 25, 26, 27, 28, 29, 30, 31] (by decide +kernel) (by decide +kernel)
set_option maxRecDepth 20000 in
theorem gX0_gaugesAheadOf_X0_isAhead : GoodIn wsX0_gaugesAheadOf (wsV RX0 172 RX0 yX0_isAhead wsX0_isAhead) := goodIn_app (goodIn_of _ (by decide +kernel)) ggX0_gaugesAheadOf_X0_isAhead
theorem dX0_gaugesAheadOf_0 : decode cX0_gaugesAheadOf 0 = .ok (.iconst 0, 1) := by decide +kernel
theorem dX0_gaugesAheadOf_1 : decode cX0_gaugesAheadOf 1 = .ok (.istore_n 2, 1) := by decide +kernel
theorem dX0_gaugesAheadOf_2 : decode cX0_gaugesAheadOf 2 = .ok (.iconst 0, 1) := by decide +kernel
theorem dX0_gaugesAheadOf_3 : decode cX0_gaugesAheadOf 3 = .ok (.istore_n 3, 1) := by decide +kernel
theorem dX0_gaugesAheadOf_4 : decode cX0_gaugesAheadOf 4 = .ok (.iload_n 3, 1) := by decide +kernel
theorem dX0_gaugesAheadOf_5 : decode cX0_gaugesAheadOf 5 = .ok (.bipush 6, 2) := by decide +kernel
theorem dX0_gaugesAheadOf_7 : decode cX0_gaugesAheadOf 7 = .ok (.if_icmp .ge 21, 3) := by decide +kernel
theorem dX0_gaugesAheadOf_10 : decode cX0_gaugesAheadOf 10 = .ok (.aload_n 0, 1) := by decide +kernel
theorem dX0_gaugesAheadOf_11 : decode cX0_gaugesAheadOf 11 = .ok (.iload_n 3, 1) := by decide +kernel
theorem dX0_gaugesAheadOf_12 : decode cX0_gaugesAheadOf 12 = .ok (.iload_n 1, 1) := by decide +kernel
theorem dX0_gaugesAheadOf_13 : decode cX0_gaugesAheadOf 13 = .ok (.invokevirtual 172, 3) := by decide +kernel
theorem dX0_gaugesAheadOf_16 : decode cX0_gaugesAheadOf 16 = .ok (.ifCond .eq 6, 3) := by decide +kernel
theorem dX0_gaugesAheadOf_19 : decode cX0_gaugesAheadOf 19 = .ok (.iinc 2 1, 3) := by decide +kernel
theorem dX0_gaugesAheadOf_22 : decode cX0_gaugesAheadOf 22 = .ok (.iinc 3 1, 3) := by decide +kernel
theorem dX0_gaugesAheadOf_25 : decode cX0_gaugesAheadOf 25 = .ok (.goto (-21), 3) := by decide +kernel
theorem dX0_gaugesAheadOf_28 : decode cX0_gaugesAheadOf 28 = .ok (.iload_n 2, 1) := by decide +kernel
theorem dX0_gaugesAheadOf_29 : decode cX0_gaugesAheadOf 29 = .ok (.ireturn, 1) := by decide +kernel
set_option maxRecDepth 20000 in
theorem ggX0_isAhead_X0_latestPlace : GoodIn wsX0_isAhead wsX0_latestPlace := goodIn_r _ [6, 7, 8, 9, 5, 10, 11, 12, 13, 23, 24, 25, 26, 27] (by decide +kernel) (by decide +kernel)
set_option maxRecDepth 20000 in
theorem gX0_isAhead_X0_latestPlace : GoodIn wsX0_isAhead (wsV RX0 102 RX0 yX0_latestPlace wsX0_latestPlace) := goodIn_app (goodIn_of _ (by decide +kernel)) ggX0_isAhead_X0_latestPlace
set_option maxRecDepth 20000 in
theorem ggX0_isAhead_X0_likenessOf : GoodIn wsX0_isAhead wsX0_likenessOf := goodIn_r _ [17, 1, 18, 19, 20, 5, 21, 22, 23, 24, 25, 26, 27] (by decide +kernel) (by decide +kernel)
set_option maxRecDepth 20000 in
theorem gX0_isAhead_X0_likenessOf : GoodIn wsX0_isAhead (wsV RX0 119 RX0 yX0_likenessOf wsX0_likenessOf) := goodIn_app (goodIn_of _ (by decide +kernel)) ggX0_isAhead_X0_likenessOf
set_option maxRecDepth 20000 in
theorem ggX0_isAhead_X0_isRelated : GoodIn wsX0_isAhead wsX0_isRelated := goodIn_r _ [21, 1, 22, 23, 24, 25, 26, 27] (by decide +kernel) (by decide +kernel)
set_option maxRecDepth 20000 in
theorem gX0_isAhead_X0_isRelated : GoodIn wsX0_isAhead (wsV RX0 98 RX0 yX0_isRelated wsX0_isRelated) := goodIn_app (goodIn_of _ (by decide +kernel)) ggX0_isAhead_X0_isRelated
theorem dX0_isAhead_0 : decode cX0_isAhead 0 = .ok (.aload_n 0, 1) := by decide +kernel
theorem dX0_isAhead_1 : decode cX0_isAhead 1 = .ok (.iload_n 1, 1) := by decide +kernel
theorem dX0_isAhead_2 : decode cX0_isAhead 2 = .ok (.iconst 0, 1) := by decide +kernel
theorem dX0_isAhead_3 : decode cX0_isAhead 3 = .ok (.invokevirtual 102, 3) := by decide +kernel
theorem dX0_isAhead_6 : decode cX0_isAhead 6 = .ok (.istore_n 3, 1) := by decide +kernel
theorem dX0_isAhead_7 : decode cX0_isAhead 7 = .ok (.aload_n 0, 1) := by decide +kernel
theorem dX0_isAhead_8 : decode cX0_isAhead 8 = .ok (.iload_n 2, 1) := by decide +kernel
theorem dX0_isAhead_9 : decode cX0_isAhead 9 = .ok (.iconst 0, 1) := by decide +kernel
theorem dX0_isAhead_10 : decode cX0_isAhead 10 = .ok (.invokevirtual 102, 3) := by decide +kernel
theorem dX0_isAhead_13 : decode cX0_isAhead 13 = .ok (.istore 4, 2) := by decide +kernel
theorem dX0_isAhead_15 : decode cX0_isAhead 15 = .ok (.aload_n 0, 1) := by decide +kernel
theorem dX0_isAhead_16 : decode cX0_isAhead 16 = .ok (.iload_n 3, 1) := by decide +kernel
theorem dX0_isAhead_17 : decode cX0_isAhead 17 = .ok (.iload 4, 2) := by decide +kernel
theorem dX0_isAhead_19 : decode cX0_isAhead 19 = .ok (.invokevirtual 119, 3) := by decide +kernel
theorem dX0_isAhead_22 : decode cX0_isAhead 22 = .ok (.ifCond .le 14, 3) := by decide +kernel
theorem dX0_isAhead_25 : decode cX0_isAhead 25 = .ok (.iload_n 1, 1) := by decide +kernel
theorem dX0_isAhead_26 : decode cX0_isAhead 26 = .ok (.iload_n 2, 1) := by decide +kernel
theorem dX0_isAhead_27 : decode cX0_isAhead 27 = .ok (.if_icmp .ge 7, 3) := by decide +kernel
theorem dX0_isAhead_30 : decode cX0_isAhead 30 = .ok (.iconst 1, 1) := by decide +kernel
theorem dX0_isAhead_31 : decode cX0_isAhead 31 = .ok (.goto 4, 3) := by decide +kernel
theorem dX0_isAhead_34 : decode cX0_isAhead 34 = .ok (.iconst 0, 1) := by decide +kernel
theorem dX0_isAhead_35 : decode cX0_isAhead 35 = .ok (.ireturn, 1) := by decide +kernel
theorem dX0_isAhead_36 : decode cX0_isAhead 36 = .ok (.aload_n 0, 1) := by decide +kernel
theorem dX0_isAhead_37 : decode cX0_isAhead 37 = .ok (.getfield 9, 3) := by decide +kernel
theorem dX0_isAhead_40 : decode cX0_isAhead 40 = .ok (.iload_n 3, 1) := by decide +kernel
theorem dX0_isAhead_41 : decode cX0_isAhead 41 = .ok (.baload, 1) := by decide +kernel
theorem dX0_isAhead_42 : decode cX0_isAhead 42 = .ok (.ifCond .eq 28, 3) := by decide +kernel
theorem dX0_isAhead_45 : decode cX0_isAhead 45 = .ok (.aload_n 0, 1) := by decide +kernel
theorem dX0_isAhead_46 : decode cX0_isAhead 46 = .ok (.getfield 9, 3) := by decide +kernel
theorem dX0_isAhead_49 : decode cX0_isAhead 49 = .ok (.iload 4, 2) := by decide +kernel
theorem dX0_isAhead_51 : decode cX0_isAhead 51 = .ok (.baload, 1) := by decide +kernel
theorem dX0_isAhead_52 : decode cX0_isAhead 52 = .ok (.ifCond .eq 14, 3) := by decide +kernel
theorem dX0_isAhead_55 : decode cX0_isAhead 55 = .ok (.aload_n 0, 1) := by decide +kernel
theorem dX0_isAhead_56 : decode cX0_isAhead 56 = .ok (.iload_n 3, 1) := by decide +kernel
theorem dX0_isAhead_57 : decode cX0_isAhead 57 = .ok (.iload 4, 2) := by decide +kernel
theorem dX0_isAhead_59 : decode cX0_isAhead 59 = .ok (.iconst 2, 1) := by decide +kernel
theorem dX0_isAhead_60 : decode cX0_isAhead 60 = .ok (.invokevirtual 98, 3) := by decide +kernel
theorem dX0_isAhead_63 : decode cX0_isAhead 63 = .ok (.ifCond .eq 7, 3) := by decide +kernel
theorem dX0_isAhead_66 : decode cX0_isAhead 66 = .ok (.iconst 1, 1) := by decide +kernel
theorem dX0_isAhead_67 : decode cX0_isAhead 67 = .ok (.goto 4, 3) := by decide +kernel
theorem dX0_isAhead_70 : decode cX0_isAhead 70 = .ok (.iconst 0, 1) := by decide +kernel
theorem dX0_isAhead_71 : decode cX0_isAhead 71 = .ok (.ireturn, 1) := by decide +kernel
set_option maxRecDepth 20000 in
theorem ggX0_likenessOf_X0_isRelated : GoodIn wsX0_likenessOf wsX0_isRelated := goodIn_r _ [6, 1, 7, 8, 9, 10, 11, 12] (by decide +kernel) (by decide +kernel)
set_option maxRecDepth 20000 in
theorem gX0_likenessOf_X0_isRelated : GoodIn wsX0_likenessOf (wsV RX0 98 RX0 yX0_isRelated wsX0_isRelated) := goodIn_app (goodIn_of _ (by decide +kernel)) ggX0_likenessOf_X0_isRelated
theorem dX0_likenessOf_0 : decode cX0_likenessOf 0 = .ok (.aload_n 0, 1) := by decide +kernel
theorem dX0_likenessOf_1 : decode cX0_likenessOf 1 = .ok (.getfield 9, 3) := by decide +kernel
theorem dX0_likenessOf_4 : decode cX0_likenessOf 4 = .ok (.iload_n 1, 1) := by decide +kernel
theorem dX0_likenessOf_5 : decode cX0_likenessOf 5 = .ok (.baload, 1) := by decide +kernel
theorem dX0_likenessOf_6 : decode cX0_likenessOf 6 = .ok (.ifCond .ne 14, 3) := by decide +kernel
theorem dX0_likenessOf_9 : decode cX0_likenessOf 9 = .ok (.aload_n 0, 1) := by decide +kernel
theorem dX0_likenessOf_10 : decode cX0_likenessOf 10 = .ok (.getfield 9, 3) := by decide +kernel
theorem dX0_likenessOf_13 : decode cX0_likenessOf 13 = .ok (.iload_n 2, 1) := by decide +kernel
theorem dX0_likenessOf_14 : decode cX0_likenessOf 14 = .ok (.baload, 1) := by decide +kernel
theorem dX0_likenessOf_15 : decode cX0_likenessOf 15 = .ok (.ifCond .ne 5, 3) := by decide +kernel
theorem dX0_likenessOf_18 : decode cX0_likenessOf 18 = .ok (.iconst 1, 1) := by decide +kernel
theorem dX0_likenessOf_19 : decode cX0_likenessOf 19 = .ok (.ireturn, 1) := by decide +kernel
theorem dX0_likenessOf_20 : decode cX0_likenessOf 20 = .ok (.aload_n 0, 1) := by decide +kernel
theorem dX0_likenessOf_21 : decode cX0_likenessOf 21 = .ok (.iload_n 1, 1) := by decide +kernel
theorem dX0_likenessOf_22 : decode cX0_likenessOf 22 = .ok (.iload_n 2, 1) := by decide +kernel
theorem dX0_likenessOf_23 : decode cX0_likenessOf 23 = .ok (.iconst 4, 1) := by decide +kernel
theorem dX0_likenessOf_24 : decode cX0_likenessOf 24 = .ok (.invokevirtual 98, 3) := by decide +kernel
theorem dX0_likenessOf_27 : decode cX0_likenessOf 27 = .ok (.ifCond .eq 7, 3) := by decide +kernel
theorem dX0_likenessOf_30 : decode cX0_likenessOf 30 = .ok (.iconst 2, 1) := by decide +kernel
theorem dX0_likenessOf_31 : decode cX0_likenessOf 31 = .ok (.goto 4, 3) := by decide +kernel
theorem dX0_likenessOf_34 : decode cX0_likenessOf 34 = .ok (.iconst 0, 1) := by decide +kernel
theorem dX0_likenessOf_35 : decode cX0_likenessOf 35 = .ok (.ireturn, 1) := by decide +kernel
set_option maxRecDepth 20000 in
theorem ggX0_extremePlace_X0_stripPlace : GoodIn wsX0_extremePlace wsX0_stripPlace := goodIn_r _ [8] (by decide +kernel) (by decide +kernel)
set_option maxRecDepth 20000 in
theorem gX0_extremePlace_X0_stripPlace : GoodIn wsX0_extremePlace (va_wsS RX0 95 yX0_stripPlace wsX0_stripPlace) := goodIn_app (goodIn_of _ (by decide +kernel)) ggX0_extremePlace_X0_stripPlace
set_option maxRecDepth 20000 in
theorem ggX0_extremePlace_X0_isRelated : GoodIn wsX0_extremePlace wsX0_isRelated := goodIn_r _ [12, 4, 13, 14, 15, 16, 17, 18] (by decide +kernel) (by decide +kernel)
set_option maxRecDepth 20000 in
theorem gX0_extremePlace_X0_isRelated : GoodIn wsX0_extremePlace (wsV RX0 98 RX0 yX0_isRelated wsX0_isRelated) := goodIn_app (goodIn_of _ (by decide +kernel)) ggX0_extremePlace_X0_isRelated
theorem dX0_extremePlace_0 : decode cX0_extremePlace 0 = .ok (.sipush 164, 3) := by decide +kernel
theorem dX0_extremePlace_3 : decode cX0_extremePlace 3 = .ok (.istore_n 3, 1) := by decide +kernel
theorem dX0_extremePlace_4 : decode cX0_extremePlace 4 = .ok (.iconst 0, 1) := by decide +kernel
theorem dX0_extremePlace_5 : decode cX0_extremePlace 5 = .ok (.istore 4, 2) := by decide +kernel
theorem dX0_extremePlace_7 : decode cX0_extremePlace 7 = .ok (.iload 4, 2) := by decide +kernel
theorem dX0_extremePlace_9 : decode cX0_extremePlace 9 = .ok (.aload_n 0, 1) := by decide +kernel
theorem dX0_extremePlace_10 : decode cX0_extremePlace 10 = .ok (.getfield 17, 3) := by decide +kernel
theorem dX0_extremePlace_13 : decode cX0_extremePlace 13 = .ok (.iload_n 1, 1) := by decide +kernel
theorem dX0_extremePlace_14 : decode cX0_extremePlace 14 = .ok (.iaload, 1) := by decide +kernel
theorem dX0_extremePlace_15 : decode cX0_extremePlace 15 = .ok (.if_icmp .ge 60, 3) := by decide +kernel
theorem dX0_extremePlace_18 : decode cX0_extremePlace 18 = .ok (.iload_n 1, 1) := by decide +kernel
theorem dX0_extremePlace_19 : decode cX0_extremePlace 19 = .ok (.iload 4, 2) := by decide +kernel
theorem dX0_extremePlace_21 : decode cX0_extremePlace 21 = .ok (.invokestatic 95, 3) := by decide +kernel
theorem dX0_extremePlace_24 : decode cX0_extremePlace 24 = .ok (.istore 5, 2) := by decide +kernel
theorem dX0_extremePlace_26 : decode cX0_extremePlace 26 = .ok (.aload_n 0, 1) := by decide +kernel
theorem dX0_extremePlace_27 : decode cX0_extremePlace 27 = .ok (.getfield 9, 3) := by decide +kernel
theorem dX0_extremePlace_30 : decode cX0_extremePlace 30 = .ok (.iload 5, 2) := by decide +kernel
theorem dX0_extremePlace_32 : decode cX0_extremePlace 32 = .ok (.baload, 1) := by decide +kernel
theorem dX0_extremePlace_33 : decode cX0_extremePlace 33 = .ok (.ifCond .eq 14, 3) := by decide +kernel
theorem dX0_extremePlace_36 : decode cX0_extremePlace 36 = .ok (.iload_n 3, 1) := by decide +kernel
theorem dX0_extremePlace_37 : decode cX0_extremePlace 37 = .ok (.sipush 164, 3) := by decide +kernel
theorem dX0_extremePlace_40 : decode cX0_extremePlace 40 = .ok (.if_icmp .ne 7, 3) := by decide +kernel
theorem dX0_extremePlace_43 : decode cX0_extremePlace 43 = .ok (.iconst 1, 1) := by decide +kernel
theorem dX0_extremePlace_44 : decode cX0_extremePlace 44 = .ok (.goto 4, 3) := by decide +kernel
theorem dX0_extremePlace_47 : decode cX0_extremePlace 47 = .ok (.iconst 0, 1) := by decide +kernel
theorem dX0_extremePlace_48 : decode cX0_extremePlace 48 = .ok (.istore 6, 2) := by decide +kernel
theorem dX0_extremePlace_50 : decode cX0_extremePlace 50 = .ok (.iload 6, 2) := by decide +kernel
theorem dX0_extremePlace_52 : decode cX0_extremePlace 52 = .ok (.ifCond .ne 14, 3) := by decide +kernel
theorem dX0_extremePlace_55 : decode cX0_extremePlace 55 = .ok (.aload_n 0, 1) := by decide +kernel
theorem dX0_extremePlace_56 : decode cX0_extremePlace 56 = .ok (.iload 5, 2) := by decide +kernel
theorem dX0_extremePlace_58 : decode cX0_extremePlace 58 = .ok (.iload_n 3, 1) := by decide +kernel
theorem dX0_extremePlace_59 : decode cX0_extremePlace 59 = .ok (.iload_n 2, 1) := by decide +kernel
theorem dX0_extremePlace_60 : decode cX0_extremePlace 60 = .ok (.invokevirtual 98, 3) := by decide +kernel
theorem dX0_extremePlace_63 : decode cX0_extremePlace 63 = .ok (.ifCond .eq 6, 3) := by decide +kernel
theorem dX0_extremePlace_66 : decode cX0_extremePlace 66 = .ok (.iload 5, 2) := by decide +kernel
theorem dX0_extremePlace_68 : decode cX0_extremePlace 68 = .ok (.istore_n 3, 1) := by decide +kernel
theorem dX0_extremePlace_69 : decode cX0_extremePlace 69 = .ok (.iinc 4 1, 3) := by decide +kernel
theorem dX0_extremePlace_72 : decode cX0_extremePlace 72 = .ok (.goto (-65), 3) := by decide +kernel
theorem dX0_extremePlace_75 : decode cX0_extremePlace 75 = .ok (.iload_n 3, 1) := by decide +kernel
theorem dX0_extremePlace_76 : decode cX0_extremePlace 76 = .ok (.sipush 164, 3) := by decide +kernel
theorem dX0_extremePlace_79 : decode cX0_extremePlace 79 = .ok (.if_icmp .ne 13, 3) := by decide +kernel
theorem dX0_extremePlace_82 : decode cX0_extremePlace 82 = .ok (.new 176, 3) := by decide +kernel
theorem dX0_extremePlace_85 : decode cX0_extremePlace 85 = .ok (.dup, 1) := by decide +kernel
theorem dX0_extremePlace_86 : decode cX0_extremePlace 86 = .ok (.ldc 178, 2) := by decide +kernel
theorem dX0_extremePlace_88 : decode cX0_extremePlace 88 = .ok (.invokespecial 180, 3) := by decide +kernel
theorem dX0_extremePlace_91 : decode cX0_extremePlace 91 = .ok (.athrow, 1) := by decide +kernel
theorem dX0_extremePlace_92 : decode cX0_extremePlace 92 = .ok (.iload_n 3, 1) := by decide +kernel
theorem dX0_extremePlace_93 : decode cX0_extremePlace 93 = .ok (.ireturn, 1) := by decide +kernel
theorem dX1_init_0 : decode cX1_init 0 = .ok (.aload_n 0, 1) := by decide +kernel
theorem dX1_init_1 : decode cX1_init 1 = .ok (.invokespecial 1, 3) := by decide +kernel
theorem dX1_init_4 : decode cX1_init 4 = .ok (.aload_n 0, 1) := by decide +kernel
theorem dX1_init_5 : decode cX1_init 5 = .ok (.sipush 144, 3) := by decide +kernel
theorem dX1_init_8 : decode cX1_init 8 = .ok (.newarray .double, 2) := by decide +kernel
theorem dX1_init_10 : decode cX1_init 10 = .ok (.putfield 7, 3) := by decide +kernel
theorem dX1_init_13 : decode cX1_init 13 = .ok (.aload_n 0, 1) := by decide +kernel
theorem dX1_init_14 : decode cX1_init 14 = .ok (.sipush 144, 3) := by decide +kernel
theorem dX1_init_17 : decode cX1_init 17 = .ok (.newarray .boolean, 2) := by decide +kernel
theorem dX1_init_19 : decode cX1_init 19 = .ok (.putfield 13, 3) := by decide +kernel
theorem dX1_init_22 : decode cX1_init 22 = .ok (.aload_n 0, 1) := by decide +kernel
theorem dX1_init_23 : decode cX1_init 23 = .ok (.bipush 12, 2) := by decide +kernel
theorem dX1_init_25 : decode cX1_init 25 = .ok (.newarray .int, 2) := by decide +kernel
theorem dX1_init_27 : decode cX1_init 27 = .ok (.putfield 17, 3) := by decide +kernel
theorem dX1_init_30 : decode cX1_init 30 = .ok (.aload_n 0, 1) := by decide +kernel
theorem dX1_init_31 : decode cX1_init 31 = .ok (.bipush 18, 2) := by decide +kernel
theorem dX1_init_33 : decode cX1_init 33 = .ok (.newarray .double, 2) := by decide +kernel
theorem dX1_init_35 : decode cX1_init 35 = .ok (.putfield 21, 3) := by decide +kernel
theorem dX1_init_38 : decode cX1_init 38 = .ok (.aload_n 0, 1) := by decide +kernel
theorem dX1_init_39 : decode cX1_init 39 = .ok (.bipush 18, 2) := by decide +kernel
theorem dX1_init_41 : decode cX1_init 41 = .ok (.newarray .boolean, 2) := by decide +kernel
theorem dX1_init_43 : decode cX1_init 43 = .ok (.putfield 24, 3) := by decide +kernel
theorem dX1_init_46 : decode cX1_init 46 = .ok (.aload_n 0, 1) := by decide +kernel
theorem dX1_init_47 : decode cX1_init 47 = .ok (.iconst 2, 1) := by decide +kernel
theorem dX1_init_48 : decode cX1_init 48 = .ok (.newarray .double, 2) := by decide +kernel
theorem dX1_init_50 : decode cX1_init 50 = .ok (.putfield 27, 3) := by decide +kernel
theorem dX1_init_53 : decode cX1_init 53 = .ok (.aload_n 0, 1) := by decide +kernel
theorem dX1_init_54 : decode cX1_init 54 = .ok (.iconst 2, 1) := by decide +kernel
theorem dX1_init_55 : decode cX1_init 55 = .ok (.newarray .boolean, 2) := by decide +kernel
theorem dX1_init_57 : decode cX1_init 57 = .ok (.putfield 30, 3) := by decide +kernel
theorem dX1_init_60 : decode cX1_init 60 = .ok (.return_, 1) := by decide +kernel
theorem dX1_thrown_0 : decode cX1_thrown 0 = .ok (.aload_n 0, 1) := by decide +kernel
theorem dX1_thrown_1 : decode cX1_thrown 1 = .ok (.getfield 33, 3) := by decide +kernel
theorem dX1_thrown_4 : decode cX1_thrown 4 = .ok (.ireturn, 1) := by decide +kernel
theorem dX1_throwing_0 : decode cX1_throwing 0 = .ok (.aload_n 0, 1) := by decide +kernel
theorem dX1_throwing_1 : decode cX1_throwing 1 = .ok (.iload_n 1, 1) := by decide +kernel
theorem dX1_throwing_2 : decode cX1_throwing 2 = .ok (.ifCond .eq 7, 3) := by decide +kernel
theorem dX1_throwing_5 : decode cX1_throwing 5 = .ok (.iconst 1, 1) := by decide +kernel
theorem dX1_throwing_6 : decode cX1_throwing 6 = .ok (.goto 20, 3) := by decide +kernel
theorem dX1_throwing_9 : decode cX1_throwing 9 = .ok (.iload_n 2, 1) := by decide +kernel
theorem dX1_throwing_10 : decode cX1_throwing 10 = .ok (.ifCond .eq 7, 3) := by decide +kernel
theorem dX1_throwing_13 : decode cX1_throwing 13 = .ok (.iconst 2, 1) := by decide +kernel
theorem dX1_throwing_14 : decode cX1_throwing 14 = .ok (.goto 12, 3) := by decide +kernel
theorem dX1_throwing_17 : decode cX1_throwing 17 = .ok (.iload_n 3, 1) := by decide +kernel
theorem dX1_throwing_18 : decode cX1_throwing 18 = .ok (.ifCond .eq 7, 3) := by decide +kernel
theorem dX1_throwing_21 : decode cX1_throwing 21 = .ok (.iconst 3, 1) := by decide +kernel
theorem dX1_throwing_22 : decode cX1_throwing 22 = .ok (.goto 4, 3) := by decide +kernel
theorem dX1_throwing_25 : decode cX1_throwing 25 = .ok (.iconst 0, 1) := by decide +kernel
theorem dX1_throwing_26 : decode cX1_throwing 26 = .ok (.putfield 33, 3) := by decide +kernel
theorem dX1_throwing_29 : decode cX1_throwing 29 = .ok (.aload_n 0, 1) := by decide +kernel
theorem dX1_throwing_30 : decode cX1_throwing 30 = .ok (.getfield 33, 3) := by decide +kernel
theorem dX1_throwing_33 : decode cX1_throwing 33 = .ok (.ifCond .le 7, 3) := by decide +kernel
theorem dX1_throwing_36 : decode cX1_throwing 36 = .ok (.iconst 1, 1) := by decide +kernel
theorem dX1_throwing_37 : decode cX1_throwing 37 = .ok (.goto 4, 3) := by decide +kernel
theorem dX1_throwing_40 : decode cX1_throwing 40 = .ok (.iconst 0, 1) := by decide +kernel
theorem dX1_throwing_41 : decode cX1_throwing 41 = .ok (.ireturn, 1) := by decide +kernel
theorem dX1_outside_0 : decode cX1_outside 0 = .ok (.iload_n 0, 1) := by decide +kernel
theorem dX1_outside_1 : decode cX1_outside 1 = .ok (.ifCond .lt 8, 3) := by decide +kernel
theorem dX1_outside_4 : decode cX1_outside 4 = .ok (.iload_n 0, 1) := by decide +kernel
theorem dX1_outside_5 : decode cX1_outside 5 = .ok (.iload_n 1, 1) := by decide +kernel
theorem dX1_outside_6 : decode cX1_outside 6 = .ok (.if_icmp .le 7, 3) := by decide +kernel
theorem dX1_outside_9 : decode cX1_outside 9 = .ok (.iconst 1, 1) := by decide +kernel
theorem dX1_outside_10 : decode cX1_outside 10 = .ok (.goto 4, 3) := by decide +kernel
theorem dX1_outside_13 : decode cX1_outside 13 = .ok (.iconst 0, 1) := by decide +kernel
theorem dX1_outside_14 : decode cX1_outside 14 = .ok (.ireturn, 1) := by decide +kernel
theorem dX1_isLevel_0 : decode cX1_isLevel 0 = .ok (.dload_n 0, 1) := by decide +kernel
theorem dX1_isLevel_1 : decode cX1_isLevel 1 = .ok (.ldc2_w 37, 3) := by decide +kernel
theorem dX1_isLevel_4 : decode cX1_isLevel 4 = .ok (.dcmp .l, 1) := by decide +kernel
theorem dX1_isLevel_5 : decode cX1_isLevel 5 = .ok (.ifCond .lt 15, 3) := by decide +kernel
theorem dX1_isLevel_8 : decode cX1_isLevel 8 = .ok (.dload_n 0, 1) := by decide +kernel
theorem dX1_isLevel_9 : decode cX1_isLevel 9 = .ok (.ldc2_w 39, 3) := by decide +kernel
theorem dX1_isLevel_12 : decode cX1_isLevel 12 = .ok (.dcmp .g, 1) := by decide +kernel
theorem dX1_isLevel_13 : decode cX1_isLevel 13 = .ok (.ifCond .gt 7, 3) := by decide +kernel
theorem dX1_isLevel_16 : decode cX1_isLevel 16 = .ok (.iconst 1, 1) := by decide +kernel
theorem dX1_isLevel_17 : decode cX1_isLevel 17 = .ok (.goto 4, 3) := by decide +kernel
theorem dX1_isLevel_20 : decode cX1_isLevel 20 = .ok (.iconst 0, 1) := by decide +kernel
theorem dX1_isLevel_21 : decode cX1_isLevel 21 = .ok (.ireturn, 1) := by decide +kernel
theorem dX1_isWind_0 : decode cX1_isWind 0 = .ok (.dload_n 0, 1) := by decide +kernel
theorem dX1_isWind_1 : decode cX1_isWind 1 = .ok (.dconst 0, 1) := by decide +kernel
theorem dX1_isWind_2 : decode cX1_isWind 2 = .ok (.dcmp .l, 1) := by decide +kernel
theorem dX1_isWind_3 : decode cX1_isWind 3 = .ok (.ifCond .lt 15, 3) := by decide +kernel
theorem dX1_isWind_6 : decode cX1_isWind 6 = .ok (.dload_n 0, 1) := by decide +kernel
theorem dX1_isWind_7 : decode cX1_isWind 7 = .ok (.ldc2_w 41, 3) := by decide +kernel
theorem dX1_isWind_10 : decode cX1_isWind 10 = .ok (.dcmp .g, 1) := by decide +kernel
theorem dX1_isWind_11 : decode cX1_isWind 11 = .ok (.ifCond .gt 7, 3) := by decide +kernel
theorem dX1_isWind_14 : decode cX1_isWind 14 = .ok (.iconst 1, 1) := by decide +kernel
theorem dX1_isWind_15 : decode cX1_isWind 15 = .ok (.goto 4, 3) := by decide +kernel
theorem dX1_isWind_18 : decode cX1_isWind 18 = .ok (.iconst 0, 1) := by decide +kernel
theorem dX1_isWind_19 : decode cX1_isWind 19 = .ok (.ireturn, 1) := by decide +kernel
theorem dX1_way_0 : decode cX1_way 0 = .ok (.iload_n 0, 1) := by decide +kernel
theorem dX1_way_1 : decode cX1_way 1 = .ok (.ifCond .eq 8, 3) := by decide +kernel
theorem dX1_way_4 : decode cX1_way 4 = .ok (.bipush 8, 2) := by decide +kernel
theorem dX1_way_6 : decode cX1_way 6 = .ok (.goto 24, 3) := by decide +kernel
theorem dX1_way_9 : decode cX1_way 9 = .ok (.dload_n 1, 1) := by decide +kernel
theorem dX1_way_10 : decode cX1_way 10 = .ok (.dload_n 3, 1) := by decide +kernel
theorem dX1_way_11 : decode cX1_way 11 = .ok (.dcmp .g, 1) := by decide +kernel
theorem dX1_way_12 : decode cX1_way 12 = .ok (.ifCond .ge 7, 3) := by decide +kernel
theorem dX1_way_15 : decode cX1_way 15 = .ok (.iconst 1, 1) := by decide +kernel
theorem dX1_way_16 : decode cX1_way 16 = .ok (.goto 14, 3) := by decide +kernel
theorem dX1_way_19 : decode cX1_way 19 = .ok (.dload_n 1, 1) := by decide +kernel
theorem dX1_way_20 : decode cX1_way 20 = .ok (.dload_n 3, 1) := by decide +kernel
theorem dX1_way_21 : decode cX1_way 21 = .ok (.dcmp .l, 1) := by decide +kernel
theorem dX1_way_22 : decode cX1_way 22 = .ok (.ifCond .le 7, 3) := by decide +kernel
theorem dX1_way_25 : decode cX1_way 25 = .ok (.iconst 4, 1) := by decide +kernel
theorem dX1_way_26 : decode cX1_way 26 = .ok (.goto 4, 3) := by decide +kernel
theorem dX1_way_29 : decode cX1_way 29 = .ok (.iconst 2, 1) := by decide +kernel
theorem dX1_way_30 : decode cX1_way 30 = .ok (.ireturn, 1) := by decide +kernel
theorem dX1_ways_0 : decode cX1_ways 0 = .ok (.iload_n 0, 1) := by decide +kernel
theorem dX1_ways_1 : decode cX1_ways 1 = .ok (.tableswitch 46 0 4 #[35, 37, 39, 41, 44], 35) := by decide +kernel
theorem dX1_ways_36 : decode cX1_ways 36 = .ok (.iconst 1, 1) := by decide +kernel
theorem dX1_ways_37 : decode cX1_ways 37 = .ok (.ireturn, 1) := by decide +kernel
theorem dX1_ways_38 : decode cX1_ways 38 = .ok (.iconst 3, 1) := by decide +kernel
theorem dX1_ways_39 : decode cX1_ways 39 = .ok (.ireturn, 1) := by decide +kernel
theorem dX1_ways_40 : decode cX1_ways 40 = .ok (.iconst 4, 1) := by decide +kernel
theorem dX1_ways_41 : decode cX1_ways 41 = .ok (.ireturn, 1) := by decide +kernel
theorem dX1_ways_42 : decode cX1_ways 42 = .ok (.bipush 6, 2) := by decide +kernel
theorem dX1_ways_44 : decode cX1_ways 44 = .ok (.ireturn, 1) := by decide +kernel
theorem dX1_ways_45 : decode cX1_ways 45 = .ok (.iconst 2, 1) := by decide +kernel
theorem dX1_ways_46 : decode cX1_ways 46 = .ok (.ireturn, 1) := by decide +kernel
theorem dX1_ways_47 : decode cX1_ways 47 = .ok (.bipush 13, 2) := by decide +kernel
theorem dX1_ways_49 : decode cX1_ways 49 = .ok (.ireturn, 1) := by decide +kernel
set_option maxRecDepth 20000 in
theorem ggX1_is_X1_ways : GoodIn wsX1_is wsX1_ways := goodIn_r _ [4] (by decide +kernel) (by decide +kernel)
set_option maxRecDepth 20000 in
theorem gX1_is_X1_ways : GoodIn wsX1_is (va_wsS RX1 43 yX1_ways wsX1_ways) := goodIn_app (goodIn_of _ (by decide +kernel)) ggX1_is_X1_ways
theorem dX1_is_0 : decode cX1_is 0 = .ok (.iload_n 0, 1) := by decide +kernel
theorem dX1_is_1 : decode cX1_is 1 = .ok (.invokestatic 43, 3) := by decide +kernel
theorem dX1_is_4 : decode cX1_is 4 = .ok (.iload_n 1, 1) := by decide +kernel
theorem dX1_is_5 : decode cX1_is 5 = .ok (.iand, 1) := by decide +kernel
theorem dX1_is_6 : decode cX1_is 6 = .ok (.ifCond .eq 7, 3) := by decide +kernel
theorem dX1_is_9 : decode cX1_is 9 = .ok (.iconst 1, 1) := by decide +kernel
theorem dX1_is_10 : decode cX1_is 10 = .ok (.goto 4, 3) := by decide +kernel
theorem dX1_is_13 : decode cX1_is 13 = .ok (.iconst 0, 1) := by decide +kernel
theorem dX1_is_14 : decode cX1_is 14 = .ok (.ireturn, 1) := by decide +kernel
theorem dX1_latest_0 : decode cX1_latest 0 = .ok (.aload_n 0, 1) := by decide +kernel
theorem dX1_latest_1 : decode cX1_latest 1 = .ok (.getfield 17, 3) := by decide +kernel
theorem dX1_latest_4 : decode cX1_latest 4 = .ok (.iload_n 1, 1) := by decide +kernel
theorem dX1_latest_5 : decode cX1_latest 5 = .ok (.iaload, 1) := by decide +kernel
theorem dX1_latest_6 : decode cX1_latest 6 = .ok (.ifCond .ne 7, 3) := by decide +kernel
theorem dX1_latest_9 : decode cX1_latest 9 = .ok (.iconst (-1), 1) := by decide +kernel
theorem dX1_latest_10 : decode cX1_latest 10 = .ok (.goto 16, 3) := by decide +kernel
theorem dX1_latest_13 : decode cX1_latest 13 = .ok (.bipush 12, 2) := by decide +kernel
theorem dX1_latest_15 : decode cX1_latest 15 = .ok (.iload_n 1, 1) := by decide +kernel
theorem dX1_latest_16 : decode cX1_latest 16 = .ok (.imul, 1) := by decide +kernel
theorem dX1_latest_17 : decode cX1_latest 17 = .ok (.aload_n 0, 1) := by decide +kernel
theorem dX1_latest_18 : decode cX1_latest 18 = .ok (.getfield 17, 3) := by decide +kernel
theorem dX1_latest_21 : decode cX1_latest 21 = .ok (.iload_n 1, 1) := by decide +kernel
theorem dX1_latest_22 : decode cX1_latest 22 = .ok (.iaload, 1) := by decide +kernel
theorem dX1_latest_23 : decode cX1_latest 23 = .ok (.iadd, 1) := by decide +kernel
theorem dX1_latest_24 : decode cX1_latest 24 = .ok (.iconst 1, 1) := by decide +kernel
theorem dX1_latest_25 : decode cX1_latest 25 = .ok (.isub, 1) := by decide +kernel
theorem dX1_latest_26 : decode cX1_latest 26 = .ok (.ireturn, 1) := by decide +kernel
set_option maxRecDepth 20000 in
theorem ggX1_latestOut_X1_latest : GoodIn wsX1_latestOut wsX1_latest := goodIn_r _ [7, 1, 8, 9, 10, 11, 12, 13, 14, 15, 16, 17] (by decide +kernel) (by decide +kernel)
set_option maxRecDepth 20000 in
theorem gX1_latestOut_X1_latest : GoodIn wsX1_latestOut (wsV RX1 47 RX1 yX1_latest wsX1_latest) := goodIn_app (goodIn_of _ (by decide +kernel)) ggX1_latestOut_X1_latest
theorem dX1_latestOut_0 : decode cX1_latestOut 0 = .ok (.aload_n 0, 1) := by decide +kernel
theorem dX1_latestOut_1 : decode cX1_latestOut 1 = .ok (.getfield 17, 3) := by decide +kernel
theorem dX1_latestOut_4 : decode cX1_latestOut 4 = .ok (.iload_n 1, 1) := by decide +kernel
theorem dX1_latestOut_5 : decode cX1_latestOut 5 = .ok (.iaload, 1) := by decide +kernel
theorem dX1_latestOut_6 : decode cX1_latestOut 6 = .ok (.ifCond .eq 16, 3) := by decide +kernel
theorem dX1_latestOut_9 : decode cX1_latestOut 9 = .ok (.aload_n 0, 1) := by decide +kernel
theorem dX1_latestOut_10 : decode cX1_latestOut 10 = .ok (.getfield 13, 3) := by decide +kernel
theorem dX1_latestOut_13 : decode cX1_latestOut 13 = .ok (.aload_n 0, 1) := by decide +kernel
theorem dX1_latestOut_14 : decode cX1_latestOut 14 = .ok (.iload_n 1, 1) := by decide +kernel
theorem dX1_latestOut_15 : decode cX1_latestOut 15 = .ok (.invokevirtual 47, 3) := by decide +kernel
theorem dX1_latestOut_18 : decode cX1_latestOut 18 = .ok (.baload, 1) := by decide +kernel
theorem dX1_latestOut_19 : decode cX1_latestOut 19 = .ok (.ifCond .eq 7, 3) := by decide +kernel
theorem dX1_latestOut_22 : decode cX1_latestOut 22 = .ok (.iconst 1, 1) := by decide +kernel
theorem dX1_latestOut_23 : decode cX1_latestOut 23 = .ok (.goto 4, 3) := by decide +kernel
theorem dX1_latestOut_26 : decode cX1_latestOut 26 = .ok (.iconst 0, 1) := by decide +kernel
theorem dX1_latestOut_27 : decode cX1_latestOut 27 = .ok (.ireturn, 1) := by decide +kernel
set_option maxRecDepth 20000 in
theorem ggX1_latestValue_X1_latest : GoodIn wsX1_latestValue wsX1_latest := goodIn_r _ [7, 1, 8, 9, 10, 11, 12, 13, 14, 15, 16, 17] (by decide +kernel) (by decide +kernel)
set_option maxRecDepth 20000 in
theorem gX1_latestValue_X1_latest : GoodIn wsX1_latestValue (wsV RX1 47 RX1 yX1_latest wsX1_latest) := goodIn_app (goodIn_of _ (by decide +kernel)) ggX1_latestValue_X1_latest
theorem dX1_latestValue_0 : decode cX1_latestValue 0 = .ok (.aload_n 0, 1) := by decide +kernel
theorem dX1_latestValue_1 : decode cX1_latestValue 1 = .ok (.getfield 17, 3) := by decide +kernel
theorem dX1_latestValue_4 : decode cX1_latestValue 4 = .ok (.iload_n 1, 1) := by decide +kernel
theorem dX1_latestValue_5 : decode cX1_latestValue 5 = .ok (.iaload, 1) := by decide +kernel
theorem dX1_latestValue_6 : decode cX1_latestValue 6 = .ok (.ifCond .ne 7, 3) := by decide +kernel
theorem dX1_latestValue_9 : decode cX1_latestValue 9 = .ok (.dconst 0, 1) := by decide +kernel
theorem dX1_latestValue_10 : decode cX1_latestValue 10 = .ok (.goto 13, 3) := by decide +kernel
theorem dX1_latestValue_13 : decode cX1_latestValue 13 = .ok (.aload_n 0, 1) := by decide +kernel
theorem dX1_latestValue_14 : decode cX1_latestValue 14 = .ok (.getfield 7, 3) := by decide +kernel
theorem dX1_latestValue_17 : decode cX1_latestValue 17 = .ok (.aload_n 0, 1) := by decide +kernel
theorem dX1_latestValue_18 : decode cX1_latestValue 18 = .ok (.iload_n 1, 1) := by decide +kernel
theorem dX1_latestValue_19 : decode cX1_latestValue 19 = .ok (.invokevirtual 47, 3) := by decide +kernel
theorem dX1_latestValue_22 : decode cX1_latestValue 22 = .ok (.daload, 1) := by decide +kernel
theorem dX1_latestValue_23 : decode cX1_latestValue 23 = .ok (.dreturn, 1) := by decide +kernel
set_option maxRecDepth 20000 in
theorem ggX1_latestWay_X1_latestOut : GoodIn wsX1_latestWay wsX1_latestOut := goodIn_r _ [5, 6, 7, 8, 9, 10, 4, 11, 20, 21, 22, 23, 24, 25, 26, 27, 28, 29] (by decide +kernel) (by decide +kernel)
set_option maxRecDepth 20000 in
theorem gX1_latestWay_X1_latestOut : GoodIn wsX1_latestWay (wsV RX1 50 RX1 yX1_latestOut wsX1_latestOut) := goodIn_app (goodIn_of _ (by decide +kernel)) ggX1_latestWay_X1_latestOut
set_option maxRecDepth 20000 in
theorem ggX1_latestWay_X1_latestValue : GoodIn wsX1_latestWay wsX1_latestValue := goodIn_r _ [15, 6, 16, 8, 9, 10, 4, 11, 20, 21, 22, 23, 24, 25, 26, 27, 28, 29] (by decide +kernel) (by decide +kernel)
set_option maxRecDepth 20000 in
theorem gX1_latestWay_X1_latestValue : GoodIn wsX1_latestWay (wsV RX1 54 RX1 yX1_latestValue wsX1_latestValue) := goodIn_app (goodIn_of _ (by decide +kernel)) ggX1_latestWay_X1_latestValue
set_option maxRecDepth 20000 in
theorem ggX1_latestWay_X1_way : GoodIn wsX1_latestWay wsX1_way := goodIn_r _ [19] (by decide +kernel) (by decide +kernel)
set_option maxRecDepth 20000 in
theorem gX1_latestWay_X1_way : GoodIn wsX1_latestWay (va_wsS RX1 58 yX1_way wsX1_way) := goodIn_app (goodIn_of _ (by decide +kernel)) ggX1_latestWay_X1_way
theorem dX1_latestWay_0 : decode cX1_latestWay 0 = .ok (.aload_n 0, 1) := by decide +kernel
theorem dX1_latestWay_1 : decode cX1_latestWay 1 = .ok (.iload_n 1, 1) := by decide +kernel
theorem dX1_latestWay_2 : decode cX1_latestWay 2 = .ok (.invokevirtual 50, 3) := by decide +kernel
theorem dX1_latestWay_5 : decode cX1_latestWay 5 = .ok (.ifCond .ne 11, 3) := by decide +kernel
theorem dX1_latestWay_8 : decode cX1_latestWay 8 = .ok (.aload_n 0, 1) := by decide +kernel
theorem dX1_latestWay_9 : decode cX1_latestWay 9 = .ok (.iload_n 2, 1) := by decide +kernel
theorem dX1_latestWay_10 : decode cX1_latestWay 10 = .ok (.invokevirtual 50, 3) := by decide +kernel
theorem dX1_latestWay_13 : decode cX1_latestWay 13 = .ok (.ifCond .eq 7, 3) := by decide +kernel
theorem dX1_latestWay_16 : decode cX1_latestWay 16 = .ok (.iconst 1, 1) := by decide +kernel
theorem dX1_latestWay_17 : decode cX1_latestWay 17 = .ok (.goto 4, 3) := by decide +kernel
theorem dX1_latestWay_20 : decode cX1_latestWay 20 = .ok (.iconst 0, 1) := by decide +kernel
theorem dX1_latestWay_21 : decode cX1_latestWay 21 = .ok (.aload_n 0, 1) := by decide +kernel
theorem dX1_latestWay_22 : decode cX1_latestWay 22 = .ok (.iload_n 1, 1) := by decide +kernel
theorem dX1_latestWay_23 : decode cX1_latestWay 23 = .ok (.invokevirtual 54, 3) := by decide +kernel
theorem dX1_latestWay_26 : decode cX1_latestWay 26 = .ok (.aload_n 0, 1) := by decide +kernel
theorem dX1_latestWay_27 : decode cX1_latestWay 27 = .ok (.iload_n 2, 1) := by decide +kernel
theorem dX1_latestWay_28 : decode cX1_latestWay 28 = .ok (.invokevirtual 54, 3) := by decide +kernel
theorem dX1_latestWay_31 : decode cX1_latestWay 31 = .ok (.invokestatic 58, 3) := by decide +kernel
theorem dX1_latestWay_34 : decode cX1_latestWay 34 = .ok (.ireturn, 1) := by decide +kernel
set_option maxRecDepth 20000 in
theorem ggX1_probeWay_X1_way : GoodIn wsX1_probeWay wsX1_way := goodIn_r _ [8] (by decide +kernel) (by decide +kernel)
set_option maxRecDepth 20000 in
theorem gX1_probeWay_X1_way : GoodIn wsX1_probeWay (va_wsS RX1 58 yX1_way wsX1_way) := goodIn_app (goodIn_of _ (by decide +kernel)) ggX1_probeWay_X1_way
theorem dX1_probeWay_0 : decode cX1_probeWay 0 = .ok (.aload_n 0, 1) := by decide +kernel
theorem dX1_probeWay_1 : decode cX1_probeWay 1 = .ok (.getfield 13, 3) := by decide +kernel
theorem dX1_probeWay_4 : decode cX1_probeWay 4 = .ok (.iload_n 1, 1) := by decide +kernel
theorem dX1_probeWay_5 : decode cX1_probeWay 5 = .ok (.baload, 1) := by decide +kernel
theorem dX1_probeWay_6 : decode cX1_probeWay 6 = .ok (.ifCond .ne 12, 3) := by decide +kernel
theorem dX1_probeWay_9 : decode cX1_probeWay 9 = .ok (.aload_n 0, 1) := by decide +kernel
theorem dX1_probeWay_10 : decode cX1_probeWay 10 = .ok (.getfield 30, 3) := by decide +kernel
theorem dX1_probeWay_13 : decode cX1_probeWay 13 = .ok (.iload_n 2, 1) := by decide +kernel
theorem dX1_probeWay_14 : decode cX1_probeWay 14 = .ok (.baload, 1) := by decide +kernel
theorem dX1_probeWay_15 : decode cX1_probeWay 15 = .ok (.ifCond .ne 7, 3) := by decide +kernel
theorem dX1_probeWay_18 : decode cX1_probeWay 18 = .ok (.iconst 1, 1) := by decide +kernel
theorem dX1_probeWay_19 : decode cX1_probeWay 19 = .ok (.goto 4, 3) := by decide +kernel
theorem dX1_probeWay_22 : decode cX1_probeWay 22 = .ok (.iconst 0, 1) := by decide +kernel
theorem dX1_probeWay_23 : decode cX1_probeWay 23 = .ok (.aload_n 0, 1) := by decide +kernel
