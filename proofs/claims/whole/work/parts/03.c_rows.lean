theorem dX0_init_0 : decode cX0_init 0 = .ok (.aload_n 0, 1) := by decide +kernel
theorem dX0_init_1 : decode cX0_init 1 = .ok (.invokespecial 3, 3) := by decide +kernel
theorem dX0_init_4 : decode cX0_init 4 = .ok (.aload_n 0, 1) := by decide +kernel
theorem dX0_init_5 : decode cX0_init 5 = .ok (.sipush 165, 3) := by decide +kernel
theorem dX0_init_8 : decode cX0_init 8 = .ok (.newarray .boolean, 2) := by decide +kernel
theorem dX0_init_10 : decode cX0_init 10 = .ok (.putfield 9, 3) := by decide +kernel
theorem dX0_init_13 : decode cX0_init 13 = .ok (.aload_n 0, 1) := by decide +kernel
theorem dX0_init_14 : decode cX0_init 14 = .ok (.sipush 165, 3) := by decide +kernel
theorem dX0_init_17 : decode cX0_init 17 = .ok (.newarray .double, 2) := by decide +kernel
theorem dX0_init_19 : decode cX0_init 19 = .ok (.putfield 13, 3) := by decide +kernel
theorem dX0_init_22 : decode cX0_init 22 = .ok (.aload_n 0, 1) := by decide +kernel
theorem dX0_init_23 : decode cX0_init 23 = .ok (.bipush 12, 2) := by decide +kernel
theorem dX0_init_25 : decode cX0_init 25 = .ok (.newarray .int, 2) := by decide +kernel
theorem dX0_init_27 : decode cX0_init 27 = .ok (.putfield 17, 3) := by decide +kernel
theorem dX0_init_30 : decode cX0_init 30 = .ok (.aload_n 0, 1) := by decide +kernel
theorem dX0_init_31 : decode cX0_init 31 = .ok (.iconst 0, 1) := by decide +kernel
theorem dX0_init_32 : decode cX0_init 32 = .ok (.putfield 21, 3) := by decide +kernel
theorem dX0_init_35 : decode cX0_init 35 = .ok (.aload_n 0, 1) := by decide +kernel
theorem dX0_init_36 : decode cX0_init 36 = .ok (.iconst 0, 1) := by decide +kernel
theorem dX0_init_37 : decode cX0_init 37 = .ok (.putfield 25, 3) := by decide +kernel
theorem dX0_init_40 : decode cX0_init 40 = .ok (.return_, 1) := by decide +kernel
set_option maxRecDepth 20000 in
theorem ggX0_level_X0_needGauge : GoodIn wsX0_level wsX0_needGauge := goodIn_ca (goodIn_r _ [4, 5, 6] (by decide +kernel) (by decide +kernel)) (goodIn_sub (fun _ h => List.mem_cons_of_mem _ (List.mem_append_left _ (List.mem_append_right _ h))) (by decide +kernel))
set_option maxRecDepth 20000 in
theorem gX0_level_X0_needGauge : GoodIn wsX0_level (va_wsS RX0 29 yX0_needGauge wsX0_needGauge) := goodIn_app (goodIn_of _ (by decide +kernel)) ggX0_level_X0_needGauge
set_option maxRecDepth 20000 in
theorem ggX0_level_X0_needLevel : GoodIn wsX0_level wsX0_needLevel := goodIn_ca (goodIn_r _ [9, 5, 6, 10, 11] (by decide +kernel) (by decide +kernel)) (goodIn_sub (fun _ h => List.mem_cons_of_mem _ (List.mem_append_left _ (List.mem_append_right _ h))) (by decide +kernel))
set_option maxRecDepth 20000 in
theorem gX0_level_X0_needLevel : GoodIn wsX0_level (va_wsS RX0 33 yX0_needLevel wsX0_needLevel) := goodIn_app (goodIn_of _ (by decide +kernel)) ggX0_level_X0_needLevel
set_option maxRecDepth 20000 in
theorem ggX0_level_X0_stripOf : GoodIn wsX0_level wsX0_stripOf := goodIn_r _ [14] (by decide +kernel) (by decide +kernel)
set_option maxRecDepth 20000 in
theorem gX0_level_X0_stripOf : GoodIn wsX0_level (va_wsS RX0 37 yX0_stripOf wsX0_stripOf) := goodIn_app (goodIn_of _ (by decide +kernel)) ggX0_level_X0_stripOf
set_option maxRecDepth 20000 in
theorem ggX0_level_X0_appendNumber : GoodIn wsX0_level wsX0_appendNumber := goodIn_ca (goodIn_r _ [18, 19, 20, 21, 22, 3, 23, 24, 25, 26, 27, 28, 29, 30, 31, 32, 33, 34, 35, 36, 37, 38, 39] (by decide +kernel) (by decide +kernel)) (goodIn_sub (fun _ h => List.mem_cons_of_mem _ (List.mem_append_right _ h)) (by decide +kernel))
set_option maxRecDepth 20000 in
theorem gX0_level_X0_appendNumber : GoodIn wsX0_level (wsV RX0 41 RX0 yX0_appendNumber wsX0_appendNumber) := goodIn_app (goodIn_of _ (by decide +kernel)) ggX0_level_X0_appendNumber
theorem dX0_level_0 : decode cX0_level 0 = .ok (.iload_n 1, 1) := by decide +kernel
theorem dX0_level_1 : decode cX0_level 1 = .ok (.invokestatic 29, 3) := by decide +kernel
theorem dX0_level_4 : decode cX0_level 4 = .ok (.dload_n 2, 1) := by decide +kernel
theorem dX0_level_5 : decode cX0_level 5 = .ok (.invokestatic 33, 3) := by decide +kernel
theorem dX0_level_8 : decode cX0_level 8 = .ok (.aload_n 0, 1) := by decide +kernel
theorem dX0_level_9 : decode cX0_level 9 = .ok (.iload_n 1, 1) := by decide +kernel
theorem dX0_level_10 : decode cX0_level 10 = .ok (.iconst 0, 1) := by decide +kernel
theorem dX0_level_11 : decode cX0_level 11 = .ok (.invokestatic 37, 3) := by decide +kernel
theorem dX0_level_14 : decode cX0_level 14 = .ok (.dload_n 2, 1) := by decide +kernel
theorem dX0_level_15 : decode cX0_level 15 = .ok (.invokevirtual 41, 3) := by decide +kernel
theorem dX0_level_18 : decode cX0_level 18 = .ok (.ireturn, 1) := by decide +kernel
set_option maxRecDepth 20000 in
theorem ggX0_wind_X0_needGauge : GoodIn wsX0_wind wsX0_needGauge := goodIn_ca (goodIn_r _ [4, 5, 6] (by decide +kernel) (by decide +kernel)) (goodIn_sub (fun _ h => List.mem_cons_of_mem _ (List.mem_append_left _ (List.mem_append_right _ h))) (by decide +kernel))
set_option maxRecDepth 20000 in
theorem gX0_wind_X0_needGauge : GoodIn wsX0_wind (va_wsS RX0 29 yX0_needGauge wsX0_needGauge) := goodIn_app (goodIn_of _ (by decide +kernel)) ggX0_wind_X0_needGauge
set_option maxRecDepth 20000 in
theorem ggX0_wind_X0_needWind : GoodIn wsX0_wind wsX0_needWind := goodIn_ca (goodIn_r _ [9, 5, 6, 10] (by decide +kernel) (by decide +kernel)) (goodIn_sub (fun _ h => List.mem_cons_of_mem _ (List.mem_append_left _ (List.mem_append_right _ h))) (by decide +kernel))
set_option maxRecDepth 20000 in
theorem gX0_wind_X0_needWind : GoodIn wsX0_wind (va_wsS RX0 45 yX0_needWind wsX0_needWind) := goodIn_app (goodIn_of _ (by decide +kernel)) ggX0_wind_X0_needWind
set_option maxRecDepth 20000 in
theorem ggX0_wind_X0_stripOf : GoodIn wsX0_wind wsX0_stripOf := goodIn_r _ [13] (by decide +kernel) (by decide +kernel)
set_option maxRecDepth 20000 in
theorem gX0_wind_X0_stripOf : GoodIn wsX0_wind (va_wsS RX0 37 yX0_stripOf wsX0_stripOf) := goodIn_app (goodIn_of _ (by decide +kernel)) ggX0_wind_X0_stripOf
set_option maxRecDepth 20000 in
theorem ggX0_wind_X0_appendNumber : GoodIn wsX0_wind wsX0_appendNumber := goodIn_ca (goodIn_r _ [17, 18, 19, 20, 21, 3, 22, 23, 24, 25, 26, 27, 28, 29, 30, 31, 32, 33, 34, 35, 36, 37, 38] (by decide +kernel) (by decide +kernel)) (goodIn_sub (fun _ h => List.mem_cons_of_mem _ (List.mem_append_right _ h)) (by decide +kernel))
set_option maxRecDepth 20000 in
theorem gX0_wind_X0_appendNumber : GoodIn wsX0_wind (wsV RX0 41 RX0 yX0_appendNumber wsX0_appendNumber) := goodIn_app (goodIn_of _ (by decide +kernel)) ggX0_wind_X0_appendNumber
theorem dX0_wind_0 : decode cX0_wind 0 = .ok (.iload_n 1, 1) := by decide +kernel
theorem dX0_wind_1 : decode cX0_wind 1 = .ok (.invokestatic 29, 3) := by decide +kernel
theorem dX0_wind_4 : decode cX0_wind 4 = .ok (.fload_n 2, 1) := by decide +kernel
theorem dX0_wind_5 : decode cX0_wind 5 = .ok (.invokestatic 45, 3) := by decide +kernel
theorem dX0_wind_8 : decode cX0_wind 8 = .ok (.aload_n 0, 1) := by decide +kernel
theorem dX0_wind_9 : decode cX0_wind 9 = .ok (.iload_n 1, 1) := by decide +kernel
theorem dX0_wind_10 : decode cX0_wind 10 = .ok (.iconst 1, 1) := by decide +kernel
theorem dX0_wind_11 : decode cX0_wind 11 = .ok (.invokestatic 37, 3) := by decide +kernel
theorem dX0_wind_14 : decode cX0_wind 14 = .ok (.fload_n 2, 1) := by decide +kernel
theorem dX0_wind_15 : decode cX0_wind 15 = .ok (.f2d, 1) := by decide +kernel
theorem dX0_wind_16 : decode cX0_wind 16 = .ok (.invokevirtual 41, 3) := by decide +kernel
theorem dX0_wind_19 : decode cX0_wind 19 = .ok (.ireturn, 1) := by decide +kernel
set_option maxRecDepth 20000 in
theorem ggX0_out_X0_needGauge : GoodIn wsX0_out wsX0_needGauge := goodIn_ca (goodIn_r _ [4, 5, 6] (by decide +kernel) (by decide +kernel)) (goodIn_sub (fun _ h => List.mem_cons_of_mem _ (List.mem_append_left _ (List.mem_append_right _ h))) (by decide +kernel))
set_option maxRecDepth 20000 in
theorem gX0_out_X0_needGauge : GoodIn wsX0_out (va_wsS RX0 29 yX0_needGauge wsX0_needGauge) := goodIn_app (goodIn_of _ (by decide +kernel)) ggX0_out_X0_needGauge
set_option maxRecDepth 20000 in
theorem ggX0_out_X0_needWhat : GoodIn wsX0_out wsX0_needWhat := goodIn_ca (goodIn_r _ [9, 5, 6] (by decide +kernel) (by decide +kernel)) (goodIn_sub (fun _ h => List.mem_cons_of_mem _ (List.mem_append_left _ (List.mem_append_right _ h))) (by decide +kernel))
set_option maxRecDepth 20000 in
theorem gX0_out_X0_needWhat : GoodIn wsX0_out (va_wsS RX0 49 yX0_needWhat wsX0_needWhat) := goodIn_app (goodIn_of _ (by decide +kernel)) ggX0_out_X0_needWhat
set_option maxRecDepth 20000 in
theorem ggX0_out_X0_stripOf : GoodIn wsX0_out wsX0_stripOf := goodIn_r _ [12] (by decide +kernel) (by decide +kernel)
set_option maxRecDepth 20000 in
theorem gX0_out_X0_stripOf : GoodIn wsX0_out (va_wsS RX0 37 yX0_stripOf wsX0_stripOf) := goodIn_app (goodIn_of _ (by decide +kernel)) ggX0_out_X0_stripOf
set_option maxRecDepth 20000 in
theorem ggX0_out_X0_appendOut : GoodIn wsX0_out wsX0_appendOut := goodIn_ca (goodIn_r _ [16, 17, 18, 19, 20, 3, 21, 22, 23, 24, 25, 26, 27, 28, 29, 30, 31, 32, 33, 34, 35, 36] (by decide +kernel) (by decide +kernel)) (goodIn_sub (fun _ h => List.mem_cons_of_mem _ (List.mem_append_right _ h)) (by decide +kernel))
set_option maxRecDepth 20000 in
theorem gX0_out_X0_appendOut : GoodIn wsX0_out (wsV RX0 52 RX0 yX0_appendOut wsX0_appendOut) := goodIn_app (goodIn_of _ (by decide +kernel)) ggX0_out_X0_appendOut
theorem dX0_out_0 : decode cX0_out 0 = .ok (.iload_n 1, 1) := by decide +kernel
theorem dX0_out_1 : decode cX0_out 1 = .ok (.invokestatic 29, 3) := by decide +kernel
theorem dX0_out_4 : decode cX0_out 4 = .ok (.iload_n 2, 1) := by decide +kernel
theorem dX0_out_5 : decode cX0_out 5 = .ok (.invokestatic 49, 3) := by decide +kernel
theorem dX0_out_8 : decode cX0_out 8 = .ok (.aload_n 0, 1) := by decide +kernel
theorem dX0_out_9 : decode cX0_out 9 = .ok (.iload_n 1, 1) := by decide +kernel
theorem dX0_out_10 : decode cX0_out 10 = .ok (.iload_n 2, 1) := by decide +kernel
theorem dX0_out_11 : decode cX0_out 11 = .ok (.invokestatic 37, 3) := by decide +kernel
theorem dX0_out_14 : decode cX0_out 14 = .ok (.invokevirtual 52, 3) := by decide +kernel
theorem dX0_out_17 : decode cX0_out 17 = .ok (.ireturn, 1) := by decide +kernel
set_option maxRecDepth 20000 in
theorem ggX0_clear_X0_needGauge : GoodIn wsX0_clear wsX0_needGauge := goodIn_ca (goodIn_r _ [4, 5, 6] (by decide +kernel) (by decide +kernel)) (goodIn_sub (fun _ h => List.mem_cons_of_mem _ (List.mem_append_right _ h)) (by decide +kernel))
set_option maxRecDepth 20000 in
theorem gX0_clear_X0_needGauge : GoodIn wsX0_clear (va_wsS RX0 29 yX0_needGauge wsX0_needGauge) := goodIn_app (goodIn_of _ (by decide +kernel)) ggX0_clear_X0_needGauge
set_option maxRecDepth 20000 in
theorem ggX0_clear_X0_stripOf : GoodIn wsX0_clear wsX0_stripOf := goodIn_r _ [9] (by decide +kernel) (by decide +kernel)
set_option maxRecDepth 20000 in
theorem gX0_clear_X0_stripOf : GoodIn wsX0_clear (va_wsS RX0 37 yX0_stripOf wsX0_stripOf) := goodIn_app (goodIn_of _ (by decide +kernel)) ggX0_clear_X0_stripOf
set_option maxRecDepth 20000 in
theorem ggX0_clear_X0_emptyStrip : GoodIn wsX0_clear wsX0_emptyStrip := goodIn_r _ [13, 14, 15, 16, 17, 18, 19] (by decide +kernel) (by decide +kernel)
set_option maxRecDepth 20000 in
theorem gX0_clear_X0_emptyStrip : GoodIn wsX0_clear (wsV RX0 56 RX0 yX0_emptyStrip wsX0_emptyStrip) := goodIn_app (goodIn_of _ (by decide +kernel)) ggX0_clear_X0_emptyStrip
theorem dX0_clear_0 : decode cX0_clear 0 = .ok (.iload_n 1, 1) := by decide +kernel
theorem dX0_clear_1 : decode cX0_clear 1 = .ok (.invokestatic 29, 3) := by decide +kernel
theorem dX0_clear_4 : decode cX0_clear 4 = .ok (.aload_n 0, 1) := by decide +kernel
theorem dX0_clear_5 : decode cX0_clear 5 = .ok (.iload_n 1, 1) := by decide +kernel
theorem dX0_clear_6 : decode cX0_clear 6 = .ok (.iconst 0, 1) := by decide +kernel
theorem dX0_clear_7 : decode cX0_clear 7 = .ok (.invokestatic 37, 3) := by decide +kernel
theorem dX0_clear_10 : decode cX0_clear 10 = .ok (.invokevirtual 56, 3) := by decide +kernel
theorem dX0_clear_13 : decode cX0_clear 13 = .ok (.aload_n 0, 1) := by decide +kernel
theorem dX0_clear_14 : decode cX0_clear 14 = .ok (.iload_n 1, 1) := by decide +kernel
theorem dX0_clear_15 : decode cX0_clear 15 = .ok (.iconst 1, 1) := by decide +kernel
theorem dX0_clear_16 : decode cX0_clear 16 = .ok (.invokestatic 37, 3) := by decide +kernel
theorem dX0_clear_19 : decode cX0_clear 19 = .ok (.invokevirtual 56, 3) := by decide +kernel
theorem dX0_clear_22 : decode cX0_clear 22 = .ok (.iadd, 1) := by decide +kernel
theorem dX0_clear_23 : decode cX0_clear 23 = .ok (.ireturn, 1) := by decide +kernel
set_option maxRecDepth 20000 in
theorem ggX0_mark_X0_needGauge : GoodIn wsX0_mark wsX0_needGauge := goodIn_ca (goodIn_r _ [6, 1, 2] (by decide +kernel) (by decide +kernel)) (goodIn_sub (fun _ h => List.mem_cons_of_mem _ (List.mem_append_right _ h)) (by decide +kernel))
set_option maxRecDepth 20000 in
theorem gX0_mark_X0_needGauge : GoodIn wsX0_mark (va_wsS RX0 29 yX0_needGauge wsX0_needGauge) := goodIn_app (goodIn_of _ (by decide +kernel)) ggX0_mark_X0_needGauge
set_option maxRecDepth 20000 in
theorem ggX0_mark_X0_needLevel : GoodIn wsX0_mark wsX0_needLevel := goodIn_ca (goodIn_r _ [9, 1, 2, 10, 11] (by decide +kernel) (by decide +kernel)) (goodIn_sub (fun _ h => List.mem_cons_of_mem _ (List.mem_append_right _ h)) (by decide +kernel))
set_option maxRecDepth 20000 in
theorem gX0_mark_X0_needLevel : GoodIn wsX0_mark (va_wsS RX0 33 yX0_needLevel wsX0_needLevel) := goodIn_app (goodIn_of _ (by decide +kernel)) ggX0_mark_X0_needLevel
set_option maxRecDepth 20000 in
theorem ggX0_mark_X0_markPlace : GoodIn wsX0_mark wsX0_markPlace := goodIn_r _ [14] (by decide +kernel) (by decide +kernel)
set_option maxRecDepth 20000 in
theorem gX0_mark_X0_markPlace : GoodIn wsX0_mark (va_wsS RX0 66 yX0_markPlace wsX0_markPlace) := goodIn_app (goodIn_of _ (by decide +kernel)) ggX0_mark_X0_markPlace
set_option maxRecDepth 20000 in
theorem ggX0_mark_X0_putNumber : GoodIn wsX0_mark wsX0_putNumber := goodIn_r _ [18, 19, 20, 21, 22, 23, 24, 25] (by decide +kernel) (by decide +kernel)
set_option maxRecDepth 20000 in
theorem gX0_mark_X0_putNumber : GoodIn wsX0_mark (wsV RX0 69 RX0 yX0_putNumber wsX0_putNumber) := goodIn_app (goodIn_of _ (by decide +kernel)) ggX0_mark_X0_putNumber
theorem dX0_mark_0 : decode cX0_mark 0 = .ok (.iload_n 1, 1) := by decide +kernel
theorem dX0_mark_1 : decode cX0_mark 1 = .ok (.invokestatic 29, 3) := by decide +kernel
theorem dX0_mark_4 : decode cX0_mark 4 = .ok (.iload_n 2, 1) := by decide +kernel
theorem dX0_mark_5 : decode cX0_mark 5 = .ok (.ifCond .eq 18, 3) := by decide +kernel
theorem dX0_mark_8 : decode cX0_mark 8 = .ok (.iload_n 2, 1) := by decide +kernel
theorem dX0_mark_9 : decode cX0_mark 9 = .ok (.iconst 1, 1) := by decide +kernel
theorem dX0_mark_10 : decode cX0_mark 10 = .ok (.if_icmp .eq 13, 3) := by decide +kernel
theorem dX0_mark_13 : decode cX0_mark 13 = .ok (.new 59, 3) := by decide +kernel
theorem dX0_mark_16 : decode cX0_mark 16 = .ok (.dup, 1) := by decide +kernel
theorem dX0_mark_17 : decode cX0_mark 17 = .ok (.ldc 61, 2) := by decide +kernel
theorem dX0_mark_19 : decode cX0_mark 19 = .ok (.invokespecial 63, 3) := by decide +kernel
theorem dX0_mark_22 : decode cX0_mark 22 = .ok (.athrow, 1) := by decide +kernel
theorem dX0_mark_23 : decode cX0_mark 23 = .ok (.dload_n 3, 1) := by decide +kernel
theorem dX0_mark_24 : decode cX0_mark 24 = .ok (.invokestatic 33, 3) := by decide +kernel
theorem dX0_mark_27 : decode cX0_mark 27 = .ok (.aload_n 0, 1) := by decide +kernel
theorem dX0_mark_28 : decode cX0_mark 28 = .ok (.iload_n 1, 1) := by decide +kernel
theorem dX0_mark_29 : decode cX0_mark 29 = .ok (.iload_n 2, 1) := by decide +kernel
theorem dX0_mark_30 : decode cX0_mark 30 = .ok (.invokestatic 66, 3) := by decide +kernel
theorem dX0_mark_33 : decode cX0_mark 33 = .ok (.dload_n 3, 1) := by decide +kernel
theorem dX0_mark_34 : decode cX0_mark 34 = .ok (.invokevirtual 69, 3) := by decide +kernel
theorem dX0_mark_37 : decode cX0_mark 37 = .ok (.ireturn, 1) := by decide +kernel
set_option maxRecDepth 20000 in
theorem ggX0_gale_X0_needGauge : GoodIn wsX0_gale wsX0_needGauge := goodIn_ca (goodIn_r _ [4, 5, 6] (by decide +kernel) (by decide +kernel)) (goodIn_sub (fun _ h => List.mem_cons_of_mem _ (List.mem_append_right _ h)) (by decide +kernel))
set_option maxRecDepth 20000 in
theorem gX0_gale_X0_needGauge : GoodIn wsX0_gale (va_wsS RX0 29 yX0_needGauge wsX0_needGauge) := goodIn_app (goodIn_of _ (by decide +kernel)) ggX0_gale_X0_needGauge
set_option maxRecDepth 20000 in
theorem ggX0_gale_X0_needWind : GoodIn wsX0_gale wsX0_needWind := goodIn_ca (goodIn_r _ [9, 5, 6, 10] (by decide +kernel) (by decide +kernel)) (goodIn_sub (fun _ h => List.mem_cons_of_mem _ (List.mem_append_right _ h)) (by decide +kernel))
set_option maxRecDepth 20000 in
theorem gX0_gale_X0_needWind : GoodIn wsX0_gale (va_wsS RX0 45 yX0_needWind wsX0_needWind) := goodIn_app (goodIn_of _ (by decide +kernel)) ggX0_gale_X0_needWind
set_option maxRecDepth 20000 in
theorem ggX0_gale_X0_markPlace : GoodIn wsX0_gale wsX0_markPlace := goodIn_r _ [13] (by decide +kernel) (by decide +kernel)
set_option maxRecDepth 20000 in
theorem gX0_gale_X0_markPlace : GoodIn wsX0_gale (va_wsS RX0 66 yX0_markPlace wsX0_markPlace) := goodIn_app (goodIn_of _ (by decide +kernel)) ggX0_gale_X0_markPlace
set_option maxRecDepth 20000 in
theorem ggX0_gale_X0_putNumber : GoodIn wsX0_gale wsX0_putNumber := goodIn_r _ [17, 18, 19, 20, 21, 22, 23, 24] (by decide +kernel) (by decide +kernel)
set_option maxRecDepth 20000 in
theorem gX0_gale_X0_putNumber : GoodIn wsX0_gale (wsV RX0 69 RX0 yX0_putNumber wsX0_putNumber) := goodIn_app (goodIn_of _ (by decide +kernel)) ggX0_gale_X0_putNumber
theorem dX0_gale_0 : decode cX0_gale 0 = .ok (.iload_n 1, 1) := by decide +kernel
theorem dX0_gale_1 : decode cX0_gale 1 = .ok (.invokestatic 29, 3) := by decide +kernel
theorem dX0_gale_4 : decode cX0_gale 4 = .ok (.fload_n 2, 1) := by decide +kernel
theorem dX0_gale_5 : decode cX0_gale 5 = .ok (.invokestatic 45, 3) := by decide +kernel
theorem dX0_gale_8 : decode cX0_gale 8 = .ok (.aload_n 0, 1) := by decide +kernel
theorem dX0_gale_9 : decode cX0_gale 9 = .ok (.iload_n 1, 1) := by decide +kernel
theorem dX0_gale_10 : decode cX0_gale 10 = .ok (.iconst 2, 1) := by decide +kernel
theorem dX0_gale_11 : decode cX0_gale 11 = .ok (.invokestatic 66, 3) := by decide +kernel
theorem dX0_gale_14 : decode cX0_gale 14 = .ok (.fload_n 2, 1) := by decide +kernel
theorem dX0_gale_15 : decode cX0_gale 15 = .ok (.f2d, 1) := by decide +kernel
theorem dX0_gale_16 : decode cX0_gale 16 = .ok (.invokevirtual 69, 3) := by decide +kernel
theorem dX0_gale_19 : decode cX0_gale 19 = .ok (.ireturn, 1) := by decide +kernel
set_option maxRecDepth 20000 in
theorem ggX0_lift_X0_needGauge : GoodIn wsX0_lift wsX0_needGauge := goodIn_ca (goodIn_r _ [6, 1, 2] (by decide +kernel) (by decide +kernel)) (goodIn_sub (fun _ h => List.mem_cons_of_mem _ (List.mem_append_right _ h)) (by decide +kernel))
set_option maxRecDepth 20000 in
theorem gX0_lift_X0_needGauge : GoodIn wsX0_lift (va_wsS RX0 29 yX0_needGauge wsX0_needGauge) := goodIn_app (goodIn_of _ (by decide +kernel)) ggX0_lift_X0_needGauge
set_option maxRecDepth 20000 in
theorem ggX0_lift_X0_markPlace : GoodIn wsX0_lift wsX0_markPlace := goodIn_r _ [9] (by decide +kernel) (by decide +kernel)
set_option maxRecDepth 20000 in
theorem gX0_lift_X0_markPlace : GoodIn wsX0_lift (va_wsS RX0 66 yX0_markPlace wsX0_markPlace) := goodIn_app (goodIn_of _ (by decide +kernel)) ggX0_lift_X0_markPlace
set_option maxRecDepth 20000 in
theorem ggX0_lift_X0_putOut : GoodIn wsX0_lift wsX0_putOut := goodIn_r _ [13, 14, 15, 16, 17, 18, 19] (by decide +kernel) (by decide +kernel)
set_option maxRecDepth 20000 in
theorem gX0_lift_X0_putOut : GoodIn wsX0_lift (wsV RX0 75 RX0 yX0_putOut wsX0_putOut) := goodIn_app (goodIn_of _ (by decide +kernel)) ggX0_lift_X0_putOut
theorem dX0_lift_0 : decode cX0_lift 0 = .ok (.iload_n 1, 1) := by decide +kernel
theorem dX0_lift_1 : decode cX0_lift 1 = .ok (.invokestatic 29, 3) := by decide +kernel
theorem dX0_lift_4 : decode cX0_lift 4 = .ok (.iload_n 2, 1) := by decide +kernel
theorem dX0_lift_5 : decode cX0_lift 5 = .ok (.ifCond .lt 8, 3) := by decide +kernel
theorem dX0_lift_8 : decode cX0_lift 8 = .ok (.iload_n 2, 1) := by decide +kernel
theorem dX0_lift_9 : decode cX0_lift 9 = .ok (.iconst 3, 1) := by decide +kernel
theorem dX0_lift_10 : decode cX0_lift 10 = .ok (.if_icmp .lt 13, 3) := by decide +kernel
theorem dX0_lift_13 : decode cX0_lift 13 = .ok (.new 59, 3) := by decide +kernel
theorem dX0_lift_16 : decode cX0_lift 16 = .ok (.dup, 1) := by decide +kernel
theorem dX0_lift_17 : decode cX0_lift 17 = .ok (.ldc 73, 2) := by decide +kernel
theorem dX0_lift_19 : decode cX0_lift 19 = .ok (.invokespecial 63, 3) := by decide +kernel
theorem dX0_lift_22 : decode cX0_lift 22 = .ok (.athrow, 1) := by decide +kernel
theorem dX0_lift_23 : decode cX0_lift 23 = .ok (.aload_n 0, 1) := by decide +kernel
theorem dX0_lift_24 : decode cX0_lift 24 = .ok (.iload_n 1, 1) := by decide +kernel
theorem dX0_lift_25 : decode cX0_lift 25 = .ok (.iload_n 2, 1) := by decide +kernel
theorem dX0_lift_26 : decode cX0_lift 26 = .ok (.invokestatic 66, 3) := by decide +kernel
theorem dX0_lift_29 : decode cX0_lift 29 = .ok (.invokevirtual 75, 3) := by decide +kernel
theorem dX0_lift_32 : decode cX0_lift 32 = .ok (.ireturn, 1) := by decide +kernel
set_option maxRecDepth 20000 in
theorem ggX0_probe_X0_needLevel : GoodIn wsX0_probe wsX0_needLevel := goodIn_ca (goodIn_r _ [4, 5, 6, 7, 8] (by decide +kernel) (by decide +kernel)) (goodIn_sub (fun _ h => List.mem_cons_of_mem _ (List.mem_append_right _ h)) (by decide +kernel))
set_option maxRecDepth 20000 in
theorem gX0_probe_X0_needLevel : GoodIn wsX0_probe (va_wsS RX0 33 yX0_needLevel wsX0_needLevel) := goodIn_app (goodIn_of _ (by decide +kernel)) ggX0_probe_X0_needLevel
set_option maxRecDepth 20000 in
theorem ggX0_probe_X0_probePlace : GoodIn wsX0_probe wsX0_probePlace := goodIn_r _ [11] (by decide +kernel) (by decide +kernel)
set_option maxRecDepth 20000 in
theorem gX0_probe_X0_probePlace : GoodIn wsX0_probe (va_wsS RX0 79 yX0_probePlace wsX0_probePlace) := goodIn_app (goodIn_of _ (by decide +kernel)) ggX0_probe_X0_probePlace
set_option maxRecDepth 20000 in
theorem ggX0_probe_X0_putNumber : GoodIn wsX0_probe wsX0_putNumber := goodIn_r _ [15, 16, 17, 37, 38, 39, 40, 41] (by decide +kernel) (by decide +kernel)
set_option maxRecDepth 20000 in
theorem gX0_probe_X0_putNumber : GoodIn wsX0_probe (wsV RX0 69 RX0 yX0_putNumber wsX0_putNumber) := goodIn_app (goodIn_of _ (by decide +kernel)) ggX0_probe_X0_putNumber
set_option maxRecDepth 20000 in
theorem ggX0_probe_X0_gaugesRelatedToProbe : GoodIn wsX0_probe wsX0_gaugesRelatedToProbe := goodIn_r _ [21, 22, 23, 24, 3, 25, 26, 27, 28, 29, 30, 31, 32, 9, 10, 11, 33, 34, 35, 36, 16, 17, 37, 38, 39, 40, 41] (by decide +kernel) (by decide +kernel)
set_option maxRecDepth 20000 in
theorem gX0_probe_X0_gaugesRelatedToProbe : GoodIn wsX0_probe (wsV RX0 82 RX0 yX0_gaugesRelatedToProbe wsX0_gaugesRelatedToProbe) := goodIn_app (goodIn_of _ (by decide +kernel)) ggX0_probe_X0_gaugesRelatedToProbe
theorem dX0_probe_0 : decode cX0_probe 0 = .ok (.dload_n 1, 1) := by decide +kernel
theorem dX0_probe_1 : decode cX0_probe 1 = .ok (.invokestatic 33, 3) := by decide +kernel
theorem dX0_probe_4 : decode cX0_probe 4 = .ok (.aload_n 0, 1) := by decide +kernel
theorem dX0_probe_5 : decode cX0_probe 5 = .ok (.iconst 0, 1) := by decide +kernel
theorem dX0_probe_6 : decode cX0_probe 6 = .ok (.invokestatic 79, 3) := by decide +kernel
theorem dX0_probe_9 : decode cX0_probe 9 = .ok (.dload_n 1, 1) := by decide +kernel
theorem dX0_probe_10 : decode cX0_probe 10 = .ok (.invokevirtual 69, 3) := by decide +kernel
theorem dX0_probe_13 : decode cX0_probe 13 = .ok (.pop, 1) := by decide +kernel
theorem dX0_probe_14 : decode cX0_probe 14 = .ok (.aload_n 0, 1) := by decide +kernel
theorem dX0_probe_15 : decode cX0_probe 15 = .ok (.iconst 0, 1) := by decide +kernel
theorem dX0_probe_16 : decode cX0_probe 16 = .ok (.iconst 4, 1) := by decide +kernel
theorem dX0_probe_17 : decode cX0_probe 17 = .ok (.invokevirtual 82, 3) := by decide +kernel
theorem dX0_probe_20 : decode cX0_probe 20 = .ok (.ireturn, 1) := by decide +kernel
set_option maxRecDepth 20000 in
theorem ggX0_probeWind_X0_needWind : GoodIn wsX0_probeWind wsX0_needWind := goodIn_ca (goodIn_r _ [4, 5, 6, 7] (by decide +kernel) (by decide +kernel)) (goodIn_sub (fun _ h => List.mem_cons_of_mem _ (List.mem_append_right _ h)) (by decide +kernel))
set_option maxRecDepth 20000 in
theorem gX0_probeWind_X0_needWind : GoodIn wsX0_probeWind (va_wsS RX0 45 yX0_needWind wsX0_needWind) := goodIn_app (goodIn_of _ (by decide +kernel)) ggX0_probeWind_X0_needWind
set_option maxRecDepth 20000 in
theorem ggX0_probeWind_X0_probePlace : GoodIn wsX0_probeWind wsX0_probePlace := goodIn_r _ [10] (by decide +kernel) (by decide +kernel)
set_option maxRecDepth 20000 in
theorem gX0_probeWind_X0_probePlace : GoodIn wsX0_probeWind (va_wsS RX0 79 yX0_probePlace wsX0_probePlace) := goodIn_app (goodIn_of _ (by decide +kernel)) ggX0_probeWind_X0_probePlace
set_option maxRecDepth 20000 in
theorem ggX0_probeWind_X0_putNumber : GoodIn wsX0_probeWind wsX0_putNumber := goodIn_r _ [14, 15, 16, 36, 37, 38, 39, 40] (by decide +kernel) (by decide +kernel)
set_option maxRecDepth 20000 in
theorem gX0_probeWind_X0_putNumber : GoodIn wsX0_probeWind (wsV RX0 69 RX0 yX0_putNumber wsX0_putNumber) := goodIn_app (goodIn_of _ (by decide +kernel)) ggX0_probeWind_X0_putNumber
set_option maxRecDepth 20000 in
theorem ggX0_probeWind_X0_gaugesRelatedToProbe : GoodIn wsX0_probeWind wsX0_gaugesRelatedToProbe := goodIn_r _ [20, 21, 22, 23, 3, 24, 25, 26, 27, 28, 29, 30, 31, 8, 9, 10, 32, 33, 34, 35, 15, 16, 36, 37, 38, 39, 40] (by decide +kernel) (by decide +kernel)
set_option maxRecDepth 20000 in
theorem gX0_probeWind_X0_gaugesRelatedToProbe : GoodIn wsX0_probeWind (wsV RX0 82 RX0 yX0_gaugesRelatedToProbe wsX0_gaugesRelatedToProbe) := goodIn_app (goodIn_of _ (by decide +kernel)) ggX0_probeWind_X0_gaugesRelatedToProbe
theorem dX0_probeWind_0 : decode cX0_probeWind 0 = .ok (.fload_n 1, 1) := by decide +kernel
theorem dX0_probeWind_1 : decode cX0_probeWind 1 = .ok (.invokestatic 45, 3) := by decide +kernel
theorem dX0_probeWind_4 : decode cX0_probeWind 4 = .ok (.aload_n 0, 1) := by decide +kernel
theorem dX0_probeWind_5 : decode cX0_probeWind 5 = .ok (.iconst 1, 1) := by decide +kernel
theorem dX0_probeWind_6 : decode cX0_probeWind 6 = .ok (.invokestatic 79, 3) := by decide +kernel
theorem dX0_probeWind_9 : decode cX0_probeWind 9 = .ok (.fload_n 1, 1) := by decide +kernel
theorem dX0_probeWind_10 : decode cX0_probeWind 10 = .ok (.f2d, 1) := by decide +kernel
theorem dX0_probeWind_11 : decode cX0_probeWind 11 = .ok (.invokevirtual 69, 3) := by decide +kernel
theorem dX0_probeWind_14 : decode cX0_probeWind 14 = .ok (.pop, 1) := by decide +kernel
theorem dX0_probeWind_15 : decode cX0_probeWind 15 = .ok (.aload_n 0, 1) := by decide +kernel
theorem dX0_probeWind_16 : decode cX0_probeWind 16 = .ok (.iconst 1, 1) := by decide +kernel
theorem dX0_probeWind_17 : decode cX0_probeWind 17 = .ok (.iconst 4, 1) := by decide +kernel
theorem dX0_probeWind_18 : decode cX0_probeWind 18 = .ok (.invokevirtual 82, 3) := by decide +kernel
theorem dX0_probeWind_21 : decode cX0_probeWind 21 = .ok (.ireturn, 1) := by decide +kernel
set_option maxRecDepth 20000 in
theorem ggX0_probeOut_X0_needWhat : GoodIn wsX0_probeOut wsX0_needWhat := goodIn_ca (goodIn_r _ [4, 5, 6] (by decide +kernel) (by decide +kernel)) (goodIn_sub (fun _ h => List.mem_cons_of_mem _ (List.mem_append_right _ h)) (by decide +kernel))
set_option maxRecDepth 20000 in
theorem gX0_probeOut_X0_needWhat : GoodIn wsX0_probeOut (va_wsS RX0 49 yX0_needWhat wsX0_needWhat) := goodIn_app (goodIn_of _ (by decide +kernel)) ggX0_probeOut_X0_needWhat
set_option maxRecDepth 20000 in
theorem ggX0_probeOut_X0_probePlace : GoodIn wsX0_probeOut wsX0_probePlace := goodIn_r _ [9] (by decide +kernel) (by decide +kernel)
set_option maxRecDepth 20000 in
theorem gX0_probeOut_X0_probePlace : GoodIn wsX0_probeOut (va_wsS RX0 79 yX0_probePlace wsX0_probePlace) := goodIn_app (goodIn_of _ (by decide +kernel)) ggX0_probeOut_X0_probePlace
set_option maxRecDepth 20000 in
theorem ggX0_probeOut_X0_putOut : GoodIn wsX0_probeOut wsX0_putOut := goodIn_r _ [13, 14, 35, 36, 37, 38, 39] (by decide +kernel) (by decide +kernel)
set_option maxRecDepth 20000 in
theorem gX0_probeOut_X0_putOut : GoodIn wsX0_probeOut (wsV RX0 75 RX0 yX0_putOut wsX0_putOut) := goodIn_app (goodIn_of _ (by decide +kernel)) ggX0_probeOut_X0_putOut
set_option maxRecDepth 20000 in
theorem ggX0_probeOut_X0_gaugesRelatedToProbe : GoodIn wsX0_probeOut wsX0_gaugesRelatedToProbe := goodIn_r _ [18, 19, 20, 21, 3, 22, 23, 24, 25, 26, 27, 28, 29, 7, 8, 9, 30, 31, 32, 33, 14, 34, 35, 36, 37, 38, 39] (by decide +kernel) (by decide +kernel)
set_option maxRecDepth 20000 in
theorem gX0_probeOut_X0_gaugesRelatedToProbe : GoodIn wsX0_probeOut (wsV RX0 82 RX0 yX0_gaugesRelatedToProbe wsX0_gaugesRelatedToProbe) := goodIn_app (goodIn_of _ (by decide +kernel)) ggX0_probeOut_X0_gaugesRelatedToProbe
theorem dX0_probeOut_0 : decode cX0_probeOut 0 = .ok (.iload_n 1, 1) := by decide +kernel
theorem dX0_probeOut_1 : decode cX0_probeOut 1 = .ok (.invokestatic 49, 3) := by decide +kernel
theorem dX0_probeOut_4 : decode cX0_probeOut 4 = .ok (.aload_n 0, 1) := by decide +kernel
theorem dX0_probeOut_5 : decode cX0_probeOut 5 = .ok (.iload_n 1, 1) := by decide +kernel
theorem dX0_probeOut_6 : decode cX0_probeOut 6 = .ok (.invokestatic 79, 3) := by decide +kernel
theorem dX0_probeOut_9 : decode cX0_probeOut 9 = .ok (.invokevirtual 75, 3) := by decide +kernel
theorem dX0_probeOut_12 : decode cX0_probeOut 12 = .ok (.pop, 1) := by decide +kernel
theorem dX0_probeOut_13 : decode cX0_probeOut 13 = .ok (.aload_n 0, 1) := by decide +kernel
theorem dX0_probeOut_14 : decode cX0_probeOut 14 = .ok (.iload_n 1, 1) := by decide +kernel
theorem dX0_probeOut_15 : decode cX0_probeOut 15 = .ok (.iconst 5, 1) := by decide +kernel
theorem dX0_probeOut_16 : decode cX0_probeOut 16 = .ok (.invokevirtual 82, 3) := by decide +kernel
theorem dX0_probeOut_19 : decode cX0_probeOut 19 = .ok (.ireturn, 1) := by decide +kernel
set_option maxRecDepth 20000 in
theorem ggX0_run_X0_needGauge : GoodIn wsX0_run wsX0_needGauge := goodIn_ca (goodIn_r _ [4, 5, 6] (by decide +kernel) (by decide +kernel)) (goodIn_sub (fun _ h => List.mem_cons_of_mem _ (List.mem_append_right _ h)) (by decide +kernel))
set_option maxRecDepth 20000 in
theorem gX0_run_X0_needGauge : GoodIn wsX0_run (va_wsS RX0 29 yX0_needGauge wsX0_needGauge) := goodIn_app (goodIn_of _ (by decide +kernel)) ggX0_run_X0_needGauge
set_option maxRecDepth 20000 in
theorem ggX0_run_X0_needWhat : GoodIn wsX0_run wsX0_needWhat := goodIn_ca (goodIn_r _ [9, 5, 6] (by decide +kernel) (by decide +kernel)) (goodIn_sub (fun _ h => List.mem_cons_of_mem _ (List.mem_append_right _ h)) (by decide +kernel))
set_option maxRecDepth 20000 in
theorem gX0_run_X0_needWhat : GoodIn wsX0_run (va_wsS RX0 49 yX0_needWhat wsX0_needWhat) := goodIn_app (goodIn_of _ (by decide +kernel)) ggX0_run_X0_needWhat
set_option maxRecDepth 20000 in
theorem ggX0_run_X0_needRelation : GoodIn wsX0_run wsX0_needRelation := goodIn_ca (goodIn_r _ [12, 5, 6] (by decide +kernel) (by decide +kernel)) (goodIn_sub (fun _ h => List.mem_cons_of_mem _ (List.mem_append_right _ h)) (by decide +kernel))
set_option maxRecDepth 20000 in
theorem gX0_run_X0_needRelation : GoodIn wsX0_run (va_wsS RX0 85 yX0_needRelation wsX0_needRelation) := goodIn_app (goodIn_of _ (by decide +kernel)) ggX0_run_X0_needRelation
set_option maxRecDepth 20000 in
theorem ggX0_run_X0_stripOf : GoodIn wsX0_run wsX0_stripOf := goodIn_r _ [15] (by decide +kernel) (by decide +kernel)
set_option maxRecDepth 20000 in
theorem gX0_run_X0_stripOf : GoodIn wsX0_run (va_wsS RX0 37 yX0_stripOf wsX0_stripOf) := goodIn_app (goodIn_of _ (by decide +kernel)) ggX0_run_X0_stripOf
set_option maxRecDepth 20000 in
theorem ggX0_run_X0_probePlace : GoodIn wsX0_run wsX0_probePlace := goodIn_r _ [18] (by decide +kernel) (by decide +kernel)
set_option maxRecDepth 20000 in
theorem gX0_run_X0_probePlace : GoodIn wsX0_run (va_wsS RX0 79 yX0_probePlace wsX0_probePlace) := goodIn_app (goodIn_of _ (by decide +kernel)) ggX0_run_X0_probePlace
set_option maxRecDepth 20000 in
theorem ggX0_run_X0_runBack : GoodIn wsX0_run wsX0_runBack := goodIn_r _ [22, 23, 24, 25, 3, 26, 27, 28, 29, 30, 31, 32, 37, 38, 39, 40, 41] (by decide +kernel) (by decide +kernel)
set_option maxRecDepth 20000 in
theorem gX0_run_X0_runBack : GoodIn wsX0_run (wsV RX0 88 RX0 yX0_runBack wsX0_runBack) := goodIn_app (goodIn_of _ (by decide +kernel)) ggX0_run_X0_runBack
set_option maxRecDepth 20000 in
theorem ggX0_run_X0_runAhead : GoodIn wsX0_run wsX0_runAhead := goodIn_r _ [36, 23, 24, 25, 3, 26, 27, 28, 29, 30, 31, 32, 37, 38, 39, 40, 41] (by decide +kernel) (by decide +kernel)
set_option maxRecDepth 20000 in
theorem gX0_run_X0_runAhead : GoodIn wsX0_run (wsV RX0 92 RX0 yX0_runAhead wsX0_runAhead) := goodIn_app (goodIn_of _ (by decide +kernel)) ggX0_run_X0_runAhead
theorem dX0_run_0 : decode cX0_run 0 = .ok (.iload_n 1, 1) := by decide +kernel
theorem dX0_run_1 : decode cX0_run 1 = .ok (.invokestatic 29, 3) := by decide +kernel
theorem dX0_run_4 : decode cX0_run 4 = .ok (.iload_n 2, 1) := by decide +kernel
theorem dX0_run_5 : decode cX0_run 5 = .ok (.invokestatic 49, 3) := by decide +kernel
theorem dX0_run_8 : decode cX0_run 8 = .ok (.iload_n 3, 1) := by decide +kernel
theorem dX0_run_9 : decode cX0_run 9 = .ok (.invokestatic 85, 3) := by decide +kernel
theorem dX0_run_12 : decode cX0_run 12 = .ok (.iload_n 1, 1) := by decide +kernel
theorem dX0_run_13 : decode cX0_run 13 = .ok (.iload_n 2, 1) := by decide +kernel
theorem dX0_run_14 : decode cX0_run 14 = .ok (.invokestatic 37, 3) := by decide +kernel
theorem dX0_run_17 : decode cX0_run 17 = .ok (.istore 5, 2) := by decide +kernel
theorem dX0_run_19 : decode cX0_run 19 = .ok (.iload_n 2, 1) := by decide +kernel
theorem dX0_run_20 : decode cX0_run 20 = .ok (.invokestatic 79, 3) := by decide +kernel
theorem dX0_run_23 : decode cX0_run 23 = .ok (.istore 6, 2) := by decide +kernel
theorem dX0_run_25 : decode cX0_run 25 = .ok (.iload 4, 2) := by decide +kernel
theorem dX0_run_27 : decode cX0_run 27 = .ok (.ifCond .eq 15, 3) := by decide +kernel
theorem dX0_run_30 : decode cX0_run 30 = .ok (.aload_n 0, 1) := by decide +kernel
theorem dX0_run_31 : decode cX0_run 31 = .ok (.iload 5, 2) := by decide +kernel
theorem dX0_run_33 : decode cX0_run 33 = .ok (.iload 6, 2) := by decide +kernel
theorem dX0_run_35 : decode cX0_run 35 = .ok (.iload_n 3, 1) := by decide +kernel
theorem dX0_run_36 : decode cX0_run 36 = .ok (.invokevirtual 88, 3) := by decide +kernel
theorem dX0_run_39 : decode cX0_run 39 = .ok (.goto 12, 3) := by decide +kernel
theorem dX0_run_42 : decode cX0_run 42 = .ok (.aload_n 0, 1) := by decide +kernel
theorem dX0_run_43 : decode cX0_run 43 = .ok (.iload 5, 2) := by decide +kernel
theorem dX0_run_45 : decode cX0_run 45 = .ok (.iload 6, 2) := by decide +kernel
theorem dX0_run_47 : decode cX0_run 47 = .ok (.iload_n 3, 1) := by decide +kernel
theorem dX0_run_48 : decode cX0_run 48 = .ok (.invokevirtual 92, 3) := by decide +kernel
theorem dX0_run_51 : decode cX0_run 51 = .ok (.ireturn, 1) := by decide +kernel
set_option maxRecDepth 20000 in
theorem ggX0_count_X0_needGauge : GoodIn wsX0_count wsX0_needGauge := goodIn_ca (goodIn_r _ [5, 6, 7] (by decide +kernel) (by decide +kernel)) (goodIn_sub (fun _ h => List.mem_cons_of_mem _ (List.mem_append_right _ h)) (by decide +kernel))
set_option maxRecDepth 20000 in
theorem gX0_count_X0_needGauge : GoodIn wsX0_count (va_wsS RX0 29 yX0_needGauge wsX0_needGauge) := goodIn_app (goodIn_of _ (by decide +kernel)) ggX0_count_X0_needGauge
set_option maxRecDepth 20000 in
theorem ggX0_count_X0_needWhat : GoodIn wsX0_count wsX0_needWhat := goodIn_ca (goodIn_r _ [10, 6, 7] (by decide +kernel) (by decide +kernel)) (goodIn_sub (fun _ h => List.mem_cons_of_mem _ (List.mem_append_right _ h)) (by decide +kernel))
set_option maxRecDepth 20000 in
theorem gX0_count_X0_needWhat : GoodIn wsX0_count (va_wsS RX0 49 yX0_needWhat wsX0_needWhat) := goodIn_app (goodIn_of _ (by decide +kernel)) ggX0_count_X0_needWhat
set_option maxRecDepth 20000 in
theorem ggX0_count_X0_needRelation : GoodIn wsX0_count wsX0_needRelation := goodIn_ca (goodIn_r _ [13, 6, 7] (by decide +kernel) (by decide +kernel)) (goodIn_sub (fun _ h => List.mem_cons_of_mem _ (List.mem_append_right _ h)) (by decide +kernel))
set_option maxRecDepth 20000 in
theorem gX0_count_X0_needRelation : GoodIn wsX0_count (va_wsS RX0 85 yX0_needRelation wsX0_needRelation) := goodIn_app (goodIn_of _ (by decide +kernel)) ggX0_count_X0_needRelation
set_option maxRecDepth 20000 in
theorem ggX0_count_X0_stripOf : GoodIn wsX0_count wsX0_stripOf := goodIn_r _ [16] (by decide +kernel) (by decide +kernel)
set_option maxRecDepth 20000 in
theorem gX0_count_X0_stripOf : GoodIn wsX0_count (va_wsS RX0 37 yX0_stripOf wsX0_stripOf) := goodIn_app (goodIn_of _ (by decide +kernel)) ggX0_count_X0_stripOf
set_option maxRecDepth 20000 in
theorem ggX0_count_X0_stripPlace : GoodIn wsX0_count wsX0_stripPlace := goodIn_r _ [19] (by decide +kernel) (by decide +kernel)
set_option maxRecDepth 20000 in
theorem gX0_count_X0_stripPlace : GoodIn wsX0_count (va_wsS RX0 95 yX0_stripPlace wsX0_stripPlace) := goodIn_app (goodIn_of _ (by decide +kernel)) ggX0_count_X0_stripPlace
set_option maxRecDepth 20000 in
theorem ggX0_count_X0_probePlace : GoodIn wsX0_count wsX0_probePlace := goodIn_r _ [22] (by decide +kernel) (by decide +kernel)
set_option maxRecDepth 20000 in
theorem gX0_count_X0_probePlace : GoodIn wsX0_count (va_wsS RX0 79 yX0_probePlace wsX0_probePlace) := goodIn_app (goodIn_of _ (by decide +kernel)) ggX0_count_X0_probePlace
set_option maxRecDepth 20000 in
theorem ggX0_count_X0_isRelated : GoodIn wsX0_count wsX0_isRelated := goodIn_r _ [26, 27, 28, 29, 30, 31, 32, 33] (by decide +kernel) (by decide +kernel)
set_option maxRecDepth 20000 in
theorem gX0_count_X0_isRelated : GoodIn wsX0_count (wsV RX0 98 RX0 yX0_isRelated wsX0_isRelated) := goodIn_app (goodIn_of _ (by decide +kernel)) ggX0_count_X0_isRelated
theorem dX0_count_0 : decode cX0_count 0 = .ok (.iload_n 1, 1) := by decide +kernel
theorem dX0_count_1 : decode cX0_count 1 = .ok (.invokestatic 29, 3) := by decide +kernel
theorem dX0_count_4 : decode cX0_count 4 = .ok (.iload_n 2, 1) := by decide +kernel
theorem dX0_count_5 : decode cX0_count 5 = .ok (.invokestatic 49, 3) := by decide +kernel
theorem dX0_count_8 : decode cX0_count 8 = .ok (.iload_n 3, 1) := by decide +kernel
theorem dX0_count_9 : decode cX0_count 9 = .ok (.invokestatic 85, 3) := by decide +kernel
theorem dX0_count_12 : decode cX0_count 12 = .ok (.iload_n 1, 1) := by decide +kernel
theorem dX0_count_13 : decode cX0_count 13 = .ok (.iload_n 2, 1) := by decide +kernel
theorem dX0_count_14 : decode cX0_count 14 = .ok (.invokestatic 37, 3) := by decide +kernel
theorem dX0_count_17 : decode cX0_count 17 = .ok (.istore 5, 2) := by decide +kernel
theorem dX0_count_19 : decode cX0_count 19 = .ok (.iconst 0, 1) := by decide +kernel
theorem dX0_count_20 : decode cX0_count 20 = .ok (.istore 6, 2) := by decide +kernel
theorem dX0_count_22 : decode cX0_count 22 = .ok (.iconst 0, 1) := by decide +kernel
theorem dX0_count_23 : decode cX0_count 23 = .ok (.istore 7, 2) := by decide +kernel
theorem dX0_count_25 : decode cX0_count 25 = .ok (.iload 7, 2) := by decide +kernel
theorem dX0_count_27 : decode cX0_count 27 = .ok (.aload_n 0, 1) := by decide +kernel
theorem dX0_count_28 : decode cX0_count 28 = .ok (.getfield 17, 3) := by decide +kernel
theorem dX0_count_31 : decode cX0_count 31 = .ok (.iload 5, 2) := by decide +kernel
theorem dX0_count_33 : decode cX0_count 33 = .ok (.iaload, 1) := by decide +kernel
theorem dX0_count_34 : decode cX0_count 34 = .ok (.if_icmp .ge 31, 3) := by decide +kernel
theorem dX0_count_37 : decode cX0_count 37 = .ok (.aload_n 0, 1) := by decide +kernel
theorem dX0_count_38 : decode cX0_count 38 = .ok (.iload 5, 2) := by decide +kernel
theorem dX0_count_40 : decode cX0_count 40 = .ok (.iload 7, 2) := by decide +kernel
theorem dX0_count_42 : decode cX0_count 42 = .ok (.invokestatic 95, 3) := by decide +kernel
theorem dX0_count_45 : decode cX0_count 45 = .ok (.iload_n 2, 1) := by decide +kernel
theorem dX0_count_46 : decode cX0_count 46 = .ok (.invokestatic 79, 3) := by decide +kernel
theorem dX0_count_49 : decode cX0_count 49 = .ok (.iload_n 3, 1) := by decide +kernel
theorem dX0_count_50 : decode cX0_count 50 = .ok (.invokevirtual 98, 3) := by decide +kernel
theorem dX0_count_53 : decode cX0_count 53 = .ok (.ifCond .eq 6, 3) := by decide +kernel
theorem dX0_count_56 : decode cX0_count 56 = .ok (.iinc 6 1, 3) := by decide +kernel
theorem dX0_count_59 : decode cX0_count 59 = .ok (.iinc 7 1, 3) := by decide +kernel
theorem dX0_count_62 : decode cX0_count 62 = .ok (.goto (-37), 3) := by decide +kernel
theorem dX0_count_65 : decode cX0_count 65 = .ok (.iload 4, 2) := by decide +kernel
theorem dX0_count_67 : decode cX0_count 67 = .ok (.ifCond .eq 16, 3) := by decide +kernel
theorem dX0_count_70 : decode cX0_count 70 = .ok (.aload_n 0, 1) := by decide +kernel
theorem dX0_count_71 : decode cX0_count 71 = .ok (.getfield 17, 3) := by decide +kernel
theorem dX0_count_74 : decode cX0_count 74 = .ok (.iload 5, 2) := by decide +kernel
theorem dX0_count_76 : decode cX0_count 76 = .ok (.iaload, 1) := by decide +kernel
theorem dX0_count_77 : decode cX0_count 77 = .ok (.iload 6, 2) := by decide +kernel
theorem dX0_count_79 : decode cX0_count 79 = .ok (.isub, 1) := by decide +kernel
theorem dX0_count_80 : decode cX0_count 80 = .ok (.goto 5, 3) := by decide +kernel
theorem dX0_count_83 : decode cX0_count 83 = .ok (.iload 6, 2) := by decide +kernel
theorem dX0_count_85 : decode cX0_count 85 = .ok (.ireturn, 1) := by decide +kernel
set_option maxRecDepth 20000 in
theorem ggX0_holds_X0_needGauge : GoodIn wsX0_holds wsX0_needGauge := goodIn_ca (goodIn_r _ [4, 5, 6] (by decide +kernel) (by decide +kernel)) (goodIn_sub (fun _ h => List.mem_cons_of_mem _ (List.mem_append_right _ h)) (by decide +kernel))
set_option maxRecDepth 20000 in
theorem gX0_holds_X0_needGauge : GoodIn wsX0_holds (va_wsS RX0 29 yX0_needGauge wsX0_needGauge) := goodIn_app (goodIn_of _ (by decide +kernel)) ggX0_holds_X0_needGauge
set_option maxRecDepth 20000 in
theorem ggX0_holds_X0_needWhat : GoodIn wsX0_holds wsX0_needWhat := goodIn_ca (goodIn_r _ [9, 5, 6] (by decide +kernel) (by decide +kernel)) (goodIn_sub (fun _ h => List.mem_cons_of_mem _ (List.mem_append_right _ h)) (by decide +kernel))
set_option maxRecDepth 20000 in
theorem gX0_holds_X0_needWhat : GoodIn wsX0_holds (va_wsS RX0 49 yX0_needWhat wsX0_needWhat) := goodIn_app (goodIn_of _ (by decide +kernel)) ggX0_holds_X0_needWhat
set_option maxRecDepth 20000 in
theorem ggX0_holds_X0_needRelation : GoodIn wsX0_holds wsX0_needRelation := goodIn_ca (goodIn_r _ [12, 5, 6] (by decide +kernel) (by decide +kernel)) (goodIn_sub (fun _ h => List.mem_cons_of_mem _ (List.mem_append_right _ h)) (by decide +kernel))
set_option maxRecDepth 20000 in
theorem gX0_holds_X0_needRelation : GoodIn wsX0_holds (va_wsS RX0 85 yX0_needRelation wsX0_needRelation) := goodIn_app (goodIn_of _ (by decide +kernel)) ggX0_holds_X0_needRelation
set_option maxRecDepth 20000 in
theorem ggX0_holds_X0_latestPlace : GoodIn wsX0_holds wsX0_latestPlace := goodIn_r _ [16, 17, 18, 19, 3, 20, 21, 22, 23, 30, 31, 32, 33, 34] (by decide +kernel) (by decide +kernel)
set_option maxRecDepth 20000 in
theorem gX0_holds_X0_latestPlace : GoodIn wsX0_holds (wsV RX0 102 RX0 yX0_latestPlace wsX0_latestPlace) := goodIn_app (goodIn_of _ (by decide +kernel)) ggX0_holds_X0_latestPlace
set_option maxRecDepth 20000 in
theorem ggX0_holds_X0_isRelated : GoodIn wsX0_holds wsX0_isRelated := goodIn_r _ [27, 28, 29, 30, 31, 32, 33, 34] (by decide +kernel) (by decide +kernel)
set_option maxRecDepth 20000 in
theorem gX0_holds_X0_isRelated : GoodIn wsX0_holds (wsV RX0 98 RX0 yX0_isRelated wsX0_isRelated) := goodIn_app (goodIn_of _ (by decide +kernel)) ggX0_holds_X0_isRelated
theorem dX0_holds_0 : decode cX0_holds 0 = .ok (.iload_n 1, 1) := by decide +kernel
theorem dX0_holds_1 : decode cX0_holds 1 = .ok (.invokestatic 29, 3) := by decide +kernel
theorem dX0_holds_4 : decode cX0_holds 4 = .ok (.iload_n 2, 1) := by decide +kernel
theorem dX0_holds_5 : decode cX0_holds 5 = .ok (.invokestatic 29, 3) := by decide +kernel
theorem dX0_holds_8 : decode cX0_holds 8 = .ok (.iload_n 3, 1) := by decide +kernel
theorem dX0_holds_9 : decode cX0_holds 9 = .ok (.invokestatic 49, 3) := by decide +kernel
theorem dX0_holds_12 : decode cX0_holds 12 = .ok (.iload 4, 2) := by decide +kernel
theorem dX0_holds_14 : decode cX0_holds 14 = .ok (.invokestatic 85, 3) := by decide +kernel
theorem dX0_holds_17 : decode cX0_holds 17 = .ok (.aload_n 0, 1) := by decide +kernel
theorem dX0_holds_18 : decode cX0_holds 18 = .ok (.aload_n 0, 1) := by decide +kernel
theorem dX0_holds_19 : decode cX0_holds 19 = .ok (.iload_n 1, 1) := by decide +kernel
theorem dX0_holds_20 : decode cX0_holds 20 = .ok (.iload_n 3, 1) := by decide +kernel
theorem dX0_holds_21 : decode cX0_holds 21 = .ok (.invokevirtual 102, 3) := by decide +kernel
theorem dX0_holds_24 : decode cX0_holds 24 = .ok (.aload_n 0, 1) := by decide +kernel
theorem dX0_holds_25 : decode cX0_holds 25 = .ok (.iload_n 2, 1) := by decide +kernel
theorem dX0_holds_26 : decode cX0_holds 26 = .ok (.iload_n 3, 1) := by decide +kernel
theorem dX0_holds_27 : decode cX0_holds 27 = .ok (.invokevirtual 102, 3) := by decide +kernel
theorem dX0_holds_30 : decode cX0_holds 30 = .ok (.iload 4, 2) := by decide +kernel
theorem dX0_holds_32 : decode cX0_holds 32 = .ok (.invokevirtual 98, 3) := by decide +kernel
theorem dX0_holds_35 : decode cX0_holds 35 = .ok (.ireturn, 1) := by decide +kernel
set_option maxRecDepth 20000 in
theorem ggX0_pick_X0_needGauge : GoodIn wsX0_pick wsX0_needGauge := goodIn_ca (goodIn_r _ [4, 5, 6] (by decide +kernel) (by decide +kernel)) (goodIn_sub (fun _ h => List.mem_cons_of_mem _ (List.mem_append_right _ h)) (by decide +kernel))
set_option maxRecDepth 20000 in
theorem gX0_pick_X0_needGauge : GoodIn wsX0_pick (va_wsS RX0 29 yX0_needGauge wsX0_needGauge) := goodIn_app (goodIn_of _ (by decide +kernel)) ggX0_pick_X0_needGauge
set_option maxRecDepth 20000 in
theorem ggX0_pick_X0_needWhat : GoodIn wsX0_pick wsX0_needWhat := goodIn_ca (goodIn_r _ [9, 5, 6] (by decide +kernel) (by decide +kernel)) (goodIn_sub (fun _ h => List.mem_cons_of_mem _ (List.mem_append_right _ h)) (by decide +kernel))
set_option maxRecDepth 20000 in
theorem gX0_pick_X0_needWhat : GoodIn wsX0_pick (va_wsS RX0 49 yX0_needWhat wsX0_needWhat) := goodIn_app (goodIn_of _ (by decide +kernel)) ggX0_pick_X0_needWhat
set_option maxRecDepth 20000 in
theorem ggX0_pick_X0_needRelation : GoodIn wsX0_pick wsX0_needRelation := goodIn_ca (goodIn_r _ [12, 5, 6] (by decide +kernel) (by decide +kernel)) (goodIn_sub (fun _ h => List.mem_cons_of_mem _ (List.mem_append_right _ h)) (by decide +kernel))
set_option maxRecDepth 20000 in
theorem gX0_pick_X0_needRelation : GoodIn wsX0_pick (va_wsS RX0 85 yX0_needRelation wsX0_needRelation) := goodIn_app (goodIn_of _ (by decide +kernel)) ggX0_pick_X0_needRelation
set_option maxRecDepth 20000 in
theorem ggX0_pick_X0_latestPlace : GoodIn wsX0_pick wsX0_latestPlace := goodIn_r _ [16, 17, 18, 19, 3, 20, 21, 22, 23, 30, 31, 32, 33, 34] (by decide +kernel) (by decide +kernel)
set_option maxRecDepth 20000 in
theorem gX0_pick_X0_latestPlace : GoodIn wsX0_pick (wsV RX0 102 RX0 yX0_latestPlace wsX0_latestPlace) := goodIn_app (goodIn_of _ (by decide +kernel)) ggX0_pick_X0_latestPlace
set_option maxRecDepth 20000 in
theorem ggX0_pick_X0_isRelated : GoodIn wsX0_pick wsX0_isRelated := goodIn_r _ [27, 28, 29, 30, 31, 32, 33, 34] (by decide +kernel) (by decide +kernel)
set_option maxRecDepth 20000 in
theorem gX0_pick_X0_isRelated : GoodIn wsX0_pick (wsV RX0 98 RX0 yX0_isRelated wsX0_isRelated) := goodIn_app (goodIn_of _ (by decide +kernel)) ggX0_pick_X0_isRelated
theorem dX0_pick_0 : decode cX0_pick 0 = .ok (.iload_n 1, 1) := by decide +kernel
theorem dX0_pick_1 : decode cX0_pick 1 = .ok (.invokestatic 29, 3) := by decide +kernel
theorem dX0_pick_4 : decode cX0_pick 4 = .ok (.iload_n 2, 1) := by decide +kernel
theorem dX0_pick_5 : decode cX0_pick 5 = .ok (.invokestatic 29, 3) := by decide +kernel
theorem dX0_pick_8 : decode cX0_pick 8 = .ok (.iload_n 3, 1) := by decide +kernel
theorem dX0_pick_9 : decode cX0_pick 9 = .ok (.invokestatic 49, 3) := by decide +kernel
theorem dX0_pick_12 : decode cX0_pick 12 = .ok (.iload 4, 2) := by decide +kernel
theorem dX0_pick_14 : decode cX0_pick 14 = .ok (.invokestatic 85, 3) := by decide +kernel
theorem dX0_pick_17 : decode cX0_pick 17 = .ok (.aload_n 0, 1) := by decide +kernel
theorem dX0_pick_18 : decode cX0_pick 18 = .ok (.iload_n 1, 1) := by decide +kernel
theorem dX0_pick_19 : decode cX0_pick 19 = .ok (.iload_n 3, 1) := by decide +kernel
theorem dX0_pick_20 : decode cX0_pick 20 = .ok (.invokevirtual 102, 3) := by decide +kernel
theorem dX0_pick_23 : decode cX0_pick 23 = .ok (.istore 5, 2) := by decide +kernel
theorem dX0_pick_25 : decode cX0_pick 25 = .ok (.aload_n 0, 1) := by decide +kernel
theorem dX0_pick_26 : decode cX0_pick 26 = .ok (.iload_n 2, 1) := by decide +kernel
theorem dX0_pick_27 : decode cX0_pick 27 = .ok (.iload_n 3, 1) := by decide +kernel
theorem dX0_pick_28 : decode cX0_pick 28 = .ok (.invokevirtual 102, 3) := by decide +kernel
theorem dX0_pick_31 : decode cX0_pick 31 = .ok (.istore 6, 2) := by decide +kernel
theorem dX0_pick_33 : decode cX0_pick 33 = .ok (.aload_n 0, 1) := by decide +kernel
theorem dX0_pick_34 : decode cX0_pick 34 = .ok (.iload 5, 2) := by decide +kernel
theorem dX0_pick_36 : decode cX0_pick 36 = .ok (.iload 6, 2) := by decide +kernel
theorem dX0_pick_38 : decode cX0_pick 38 = .ok (.iload 4, 2) := by decide +kernel
theorem dX0_pick_40 : decode cX0_pick 40 = .ok (.invokevirtual 98, 3) := by decide +kernel
theorem dX0_pick_43 : decode cX0_pick 43 = .ok (.ifCond .eq 5, 3) := by decide +kernel
theorem dX0_pick_46 : decode cX0_pick 46 = .ok (.iload_n 1, 1) := by decide +kernel
theorem dX0_pick_47 : decode cX0_pick 47 = .ok (.ireturn, 1) := by decide +kernel
theorem dX0_pick_48 : decode cX0_pick 48 = .ok (.aload_n 0, 1) := by decide +kernel
theorem dX0_pick_49 : decode cX0_pick 49 = .ok (.iload 6, 2) := by decide +kernel
theorem dX0_pick_51 : decode cX0_pick 51 = .ok (.iload 5, 2) := by decide +kernel
theorem dX0_pick_53 : decode cX0_pick 53 = .ok (.iload 4, 2) := by decide +kernel
theorem dX0_pick_55 : decode cX0_pick 55 = .ok (.invokevirtual 98, 3) := by decide +kernel
theorem dX0_pick_58 : decode cX0_pick 58 = .ok (.ifCond .eq 7, 3) := by decide +kernel
theorem dX0_pick_61 : decode cX0_pick 61 = .ok (.iload_n 2, 1) := by decide +kernel
theorem dX0_pick_62 : decode cX0_pick 62 = .ok (.goto 4, 3) := by decide +kernel
theorem dX0_pick_65 : decode cX0_pick 65 = .ok (.iconst (-1), 1) := by decide +kernel
theorem dX0_pick_66 : decode cX0_pick 66 = .ok (.ireturn, 1) := by decide +kernel
set_option maxRecDepth 20000 in
theorem ggX0_stand_X0_needGauge : GoodIn wsX0_stand wsX0_needGauge := goodIn_ca (goodIn_r _ [4, 5, 6] (by decide +kernel) (by decide +kernel)) (goodIn_sub (fun _ h => List.mem_cons_of_mem _ (List.mem_append_right _ h)) (by decide +kernel))
set_option maxRecDepth 20000 in
theorem gX0_stand_X0_needGauge : GoodIn wsX0_stand (va_wsS RX0 29 yX0_needGauge wsX0_needGauge) := goodIn_app (goodIn_of _ (by decide +kernel)) ggX0_stand_X0_needGauge
set_option maxRecDepth 20000 in
theorem ggX0_stand_X0_standOfLevel : GoodIn wsX0_stand wsX0_standOfLevel := goodIn_r _ [10, 11, 12, 13, 14, 3, 15, 16, 17, 18, 19, 20, 21, 22, 23, 24, 25, 26, 27, 28, 29, 30, 35, 36, 37, 38, 39] (by decide +kernel) (by decide +kernel)
set_option maxRecDepth 20000 in
theorem gX0_stand_X0_standOfLevel : GoodIn wsX0_stand (wsV RX0 105 RX0 yX0_standOfLevel wsX0_standOfLevel) := goodIn_app (goodIn_of _ (by decide +kernel)) ggX0_stand_X0_standOfLevel
set_option maxRecDepth 20000 in
theorem ggX0_stand_X0_standOfWind : GoodIn wsX0_stand wsX0_standOfWind := goodIn_r _ [34, 12, 16, 17, 18, 3, 19, 11, 13, 14, 15, 20, 21, 22, 23, 24, 25, 26, 27, 28, 29, 30, 35, 36, 37, 38, 39] (by decide +kernel) (by decide +kernel)
set_option maxRecDepth 20000 in
theorem gX0_stand_X0_standOfWind : GoodIn wsX0_stand (wsV RX0 108 RX0 yX0_standOfWind wsX0_standOfWind) := goodIn_app (goodIn_of _ (by decide +kernel)) ggX0_stand_X0_standOfWind
theorem dX0_stand_0 : decode cX0_stand 0 = .ok (.iload_n 1, 1) := by decide +kernel
theorem dX0_stand_1 : decode cX0_stand 1 = .ok (.invokestatic 29, 3) := by decide +kernel
theorem dX0_stand_4 : decode cX0_stand 4 = .ok (.aload_n 0, 1) := by decide +kernel
theorem dX0_stand_5 : decode cX0_stand 5 = .ok (.iload_n 1, 1) := by decide +kernel
theorem dX0_stand_6 : decode cX0_stand 6 = .ok (.invokevirtual 105, 3) := by decide +kernel
theorem dX0_stand_9 : decode cX0_stand 9 = .ok (.aload_n 0, 1) := by decide +kernel
theorem dX0_stand_10 : decode cX0_stand 10 = .ok (.iload_n 1, 1) := by decide +kernel
theorem dX0_stand_11 : decode cX0_stand 11 = .ok (.invokevirtual 108, 3) := by decide +kernel
theorem dX0_stand_14 : decode cX0_stand 14 = .ok (.iadd, 1) := by decide +kernel
theorem dX0_stand_15 : decode cX0_stand 15 = .ok (.ireturn, 1) := by decide +kernel
set_option maxRecDepth 20000 in
theorem ggX0_order_X0_gaugesAheadOf : GoodIn wsX0_order wsX0_gaugesAheadOf := goodIn_r _ [7, 8, 9, 10, 6, 11, 12, 13, 14, 15, 16, 17, 18, 19, 20, 21, 22, 23, 24, 25, 26, 27, 28, 29, 30, 31, 32, 33, 34, 35, 36, 37] (by decide +kernel) (by decide +kernel)
set_option maxRecDepth 20000 in
theorem gX0_order_X0_gaugesAheadOf : GoodIn wsX0_order (wsV RX0 113 RX0 yX0_gaugesAheadOf wsX0_gaugesAheadOf) := goodIn_app (goodIn_of _ (by decide +kernel)) ggX0_order_X0_gaugesAheadOf
theorem dX0_order_0 : decode cX0_order 0 = .ok (.iload_n 1, 1) := by decide +kernel
theorem dX0_order_1 : decode cX0_order 1 = .ok (.ifCond .lt 9, 3) := by decide +kernel
theorem dX0_order_4 : decode cX0_order 4 = .ok (.iload_n 1, 1) := by decide +kernel
theorem dX0_order_5 : decode cX0_order 5 = .ok (.bipush 6, 2) := by decide +kernel
theorem dX0_order_7 : decode cX0_order 7 = .ok (.if_icmp .lt 13, 3) := by decide +kernel
theorem dX0_order_10 : decode cX0_order 10 = .ok (.new 59, 3) := by decide +kernel
theorem dX0_order_13 : decode cX0_order 13 = .ok (.dup, 1) := by decide +kernel
theorem dX0_order_14 : decode cX0_order 14 = .ok (.ldc 111, 2) := by decide +kernel
theorem dX0_order_16 : decode cX0_order 16 = .ok (.invokespecial 63, 3) := by decide +kernel
theorem dX0_order_19 : decode cX0_order 19 = .ok (.athrow, 1) := by decide +kernel
theorem dX0_order_20 : decode cX0_order 20 = .ok (.iconst (-1), 1) := by decide +kernel
theorem dX0_order_21 : decode cX0_order 21 = .ok (.istore_n 2, 1) := by decide +kernel
theorem dX0_order_22 : decode cX0_order 22 = .ok (.iconst 0, 1) := by decide +kernel
theorem dX0_order_23 : decode cX0_order 23 = .ok (.istore_n 3, 1) := by decide +kernel
theorem dX0_order_24 : decode cX0_order 24 = .ok (.iload_n 3, 1) := by decide +kernel
theorem dX0_order_25 : decode cX0_order 25 = .ok (.bipush 6, 2) := by decide +kernel
theorem dX0_order_27 : decode cX0_order 27 = .ok (.if_icmp .ge 20, 3) := by decide +kernel
theorem dX0_order_30 : decode cX0_order 30 = .ok (.aload_n 0, 1) := by decide +kernel
theorem dX0_order_31 : decode cX0_order 31 = .ok (.iload_n 3, 1) := by decide +kernel
theorem dX0_order_32 : decode cX0_order 32 = .ok (.invokevirtual 113, 3) := by decide +kernel
theorem dX0_order_35 : decode cX0_order 35 = .ok (.iload_n 1, 1) := by decide +kernel
theorem dX0_order_36 : decode cX0_order 36 = .ok (.if_icmp .ne 5, 3) := by decide +kernel
theorem dX0_order_39 : decode cX0_order 39 = .ok (.iload_n 3, 1) := by decide +kernel
theorem dX0_order_40 : decode cX0_order 40 = .ok (.istore_n 2, 1) := by decide +kernel
theorem dX0_order_41 : decode cX0_order 41 = .ok (.iinc 3 1, 3) := by decide +kernel
theorem dX0_order_44 : decode cX0_order 44 = .ok (.goto (-20), 3) := by decide +kernel
theorem dX0_order_47 : decode cX0_order 47 = .ok (.iload_n 2, 1) := by decide +kernel
theorem dX0_order_48 : decode cX0_order 48 = .ok (.ireturn, 1) := by decide +kernel
set_option maxRecDepth 20000 in
theorem ggX0_highest_X0_needGauge : GoodIn wsX0_highest wsX0_needGauge := goodIn_ca (goodIn_r _ [5, 6, 7] (by decide +kernel) (by decide +kernel)) (goodIn_sub (fun _ h => List.mem_cons_of_mem _ (List.mem_append_left _ (List.mem_append_right _ h))) (by decide +kernel))
set_option maxRecDepth 20000 in
theorem gX0_highest_X0_needGauge : GoodIn wsX0_highest (va_wsS RX0 29 yX0_needGauge wsX0_needGauge) := goodIn_app (goodIn_of _ (by decide +kernel)) ggX0_highest_X0_needGauge
set_option maxRecDepth 20000 in
theorem ggX0_highest_X0_stripOf : GoodIn wsX0_highest wsX0_stripOf := goodIn_r _ [10] (by decide +kernel) (by decide +kernel)
set_option maxRecDepth 20000 in
theorem gX0_highest_X0_stripOf : GoodIn wsX0_highest (va_wsS RX0 37 yX0_stripOf wsX0_stripOf) := goodIn_app (goodIn_of _ (by decide +kernel)) ggX0_highest_X0_stripOf
set_option maxRecDepth 20000 in
theorem ggX0_highest_X0_extremePlace : GoodIn wsX0_highest wsX0_extremePlace := goodIn_ca (goodIn_r _ [14, 15, 16, 17, 18, 19, 20, 4, 21, 22, 23, 24, 25, 1, 26, 27, 28, 29, 30] (by decide +kernel) (by decide +kernel)) (goodIn_sub (fun _ h => List.mem_cons_of_mem _ (List.mem_append_right _ h)) (by decide +kernel))
set_option maxRecDepth 20000 in
theorem gX0_highest_X0_extremePlace : GoodIn wsX0_highest (wsV RX0 116 RX0 yX0_extremePlace wsX0_extremePlace) := goodIn_app (goodIn_of _ (by decide +kernel)) ggX0_highest_X0_extremePlace
theorem dX0_highest_0 : decode cX0_highest 0 = .ok (.iload_n 1, 1) := by decide +kernel
theorem dX0_highest_1 : decode cX0_highest 1 = .ok (.invokestatic 29, 3) := by decide +kernel
theorem dX0_highest_4 : decode cX0_highest 4 = .ok (.aload_n 0, 1) := by decide +kernel
theorem dX0_highest_5 : decode cX0_highest 5 = .ok (.getfield 13, 3) := by decide +kernel
theorem dX0_highest_8 : decode cX0_highest 8 = .ok (.aload_n 0, 1) := by decide +kernel
theorem dX0_highest_9 : decode cX0_highest 9 = .ok (.iload_n 1, 1) := by decide +kernel
theorem dX0_highest_10 : decode cX0_highest 10 = .ok (.iconst 0, 1) := by decide +kernel
theorem dX0_highest_11 : decode cX0_highest 11 = .ok (.invokestatic 37, 3) := by decide +kernel
theorem dX0_highest_14 : decode cX0_highest 14 = .ok (.iconst 2, 1) := by decide +kernel
theorem dX0_highest_15 : decode cX0_highest 15 = .ok (.invokevirtual 116, 3) := by decide +kernel
theorem dX0_highest_18 : decode cX0_highest 18 = .ok (.daload, 1) := by decide +kernel
theorem dX0_highest_19 : decode cX0_highest 19 = .ok (.dreturn, 1) := by decide +kernel
set_option maxRecDepth 20000 in
theorem ggX0_calmest_X0_needGauge : GoodIn wsX0_calmest wsX0_needGauge := goodIn_ca (goodIn_r _ [5, 6, 7] (by decide +kernel) (by decide +kernel)) (goodIn_sub (fun _ h => List.mem_cons_of_mem _ (List.mem_append_left _ (List.mem_append_right _ h))) (by decide +kernel))
set_option maxRecDepth 20000 in
theorem gX0_calmest_X0_needGauge : GoodIn wsX0_calmest (va_wsS RX0 29 yX0_needGauge wsX0_needGauge) := goodIn_app (goodIn_of _ (by decide +kernel)) ggX0_calmest_X0_needGauge
set_option maxRecDepth 20000 in
theorem ggX0_calmest_X0_stripOf : GoodIn wsX0_calmest wsX0_stripOf := goodIn_r _ [10] (by decide +kernel) (by decide +kernel)
set_option maxRecDepth 20000 in
theorem gX0_calmest_X0_stripOf : GoodIn wsX0_calmest (va_wsS RX0 37 yX0_stripOf wsX0_stripOf) := goodIn_app (goodIn_of _ (by decide +kernel)) ggX0_calmest_X0_stripOf
set_option maxRecDepth 20000 in
theorem ggX0_calmest_X0_extremePlace : GoodIn wsX0_calmest wsX0_extremePlace := goodIn_ca (goodIn_r _ [14, 15, 16, 17, 18, 19, 20, 4, 21, 22, 23, 24, 25, 1, 26, 27, 28, 29, 30] (by decide +kernel) (by decide +kernel)) (goodIn_sub (fun _ h => List.mem_cons_of_mem _ (List.mem_append_right _ h)) (by decide +kernel))
set_option maxRecDepth 20000 in
theorem gX0_calmest_X0_extremePlace : GoodIn wsX0_calmest (wsV RX0 116 RX0 yX0_extremePlace wsX0_extremePlace) := goodIn_app (goodIn_of _ (by decide +kernel)) ggX0_calmest_X0_extremePlace
theorem dX0_calmest_0 : decode cX0_calmest 0 = .ok (.iload_n 1, 1) := by decide +kernel
theorem dX0_calmest_1 : decode cX0_calmest 1 = .ok (.invokestatic 29, 3) := by decide +kernel
theorem dX0_calmest_4 : decode cX0_calmest 4 = .ok (.aload_n 0, 1) := by decide +kernel
theorem dX0_calmest_5 : decode cX0_calmest 5 = .ok (.getfield 13, 3) := by decide +kernel
theorem dX0_calmest_8 : decode cX0_calmest 8 = .ok (.aload_n 0, 1) := by decide +kernel
theorem dX0_calmest_9 : decode cX0_calmest 9 = .ok (.iload_n 1, 1) := by decide +kernel
theorem dX0_calmest_10 : decode cX0_calmest 10 = .ok (.iconst 1, 1) := by decide +kernel
theorem dX0_calmest_11 : decode cX0_calmest 11 = .ok (.invokestatic 37, 3) := by decide +kernel
theorem dX0_calmest_14 : decode cX0_calmest 14 = .ok (.iconst 0, 1) := by decide +kernel
theorem dX0_calmest_15 : decode cX0_calmest 15 = .ok (.invokevirtual 116, 3) := by decide +kernel
theorem dX0_calmest_18 : decode cX0_calmest 18 = .ok (.daload, 1) := by decide +kernel
theorem dX0_calmest_19 : decode cX0_calmest 19 = .ok (.d2f, 1) := by decide +kernel
theorem dX0_calmest_20 : decode cX0_calmest 20 = .ok (.freturn, 1) := by decide +kernel
set_option maxRecDepth 20000 in
theorem ggX0_same_X0_needGauge : GoodIn wsX0_same wsX0_needGauge := goodIn_ca (goodIn_r _ [9, 10, 11] (by decide +kernel) (by decide +kernel)) (goodIn_sub (fun _ h => List.mem_cons_of_mem _ (List.mem_append_right _ h)) (by decide +kernel))
set_option maxRecDepth 20000 in
theorem gX0_same_X0_needGauge : GoodIn wsX0_same (va_wsS RX0 29 yX0_needGauge wsX0_needGauge) := goodIn_app (goodIn_of _ (by decide +kernel)) ggX0_same_X0_needGauge
set_option maxRecDepth 20000 in
theorem ggX0_same_X0_stripOf : GoodIn wsX0_same wsX0_stripOf := goodIn_r _ [14] (by decide +kernel) (by decide +kernel)
set_option maxRecDepth 20000 in
theorem gX0_same_X0_stripOf : GoodIn wsX0_same (va_wsS RX0 37 yX0_stripOf wsX0_stripOf) := goodIn_app (goodIn_of _ (by decide +kernel)) ggX0_same_X0_stripOf
set_option maxRecDepth 20000 in
theorem ggX0_same_X0_stripPlace : GoodIn wsX0_same wsX0_stripPlace := goodIn_r _ [17] (by decide +kernel) (by decide +kernel)
set_option maxRecDepth 20000 in
theorem gX0_same_X0_stripPlace : GoodIn wsX0_same (va_wsS RX0 95 yX0_stripPlace wsX0_stripPlace) := goodIn_app (goodIn_of _ (by decide +kernel)) ggX0_same_X0_stripPlace
set_option maxRecDepth 20000 in
theorem ggX0_same_X0_likenessOf : GoodIn wsX0_same wsX0_likenessOf := goodIn_r _ [21, 22, 23, 24, 25, 8, 26, 27, 28, 29, 30, 31, 32] (by decide +kernel) (by decide +kernel)
set_option maxRecDepth 20000 in
theorem gX0_same_X0_likenessOf : GoodIn wsX0_same (wsV RX0 119 RX0 yX0_likenessOf wsX0_likenessOf) := goodIn_app (goodIn_of _ (by decide +kernel)) ggX0_same_X0_likenessOf
theorem dX0_same_0 : decode cX0_same 0 = .ok (.iload_n 1, 1) := by decide +kernel
theorem dX0_same_1 : decode cX0_same 1 = .ok (.invokestatic 29, 3) := by decide +kernel
theorem dX0_same_4 : decode cX0_same 4 = .ok (.iload_n 2, 1) := by decide +kernel
theorem dX0_same_5 : decode cX0_same 5 = .ok (.invokestatic 29, 3) := by decide +kernel
theorem dX0_same_8 : decode cX0_same 8 = .ok (.iload_n 1, 1) := by decide +kernel
theorem dX0_same_9 : decode cX0_same 9 = .ok (.iconst 0, 1) := by decide +kernel
theorem dX0_same_10 : decode cX0_same 10 = .ok (.invokestatic 37, 3) := by decide +kernel
theorem dX0_same_13 : decode cX0_same 13 = .ok (.istore_n 3, 1) := by decide +kernel
theorem dX0_same_14 : decode cX0_same 14 = .ok (.iload_n 2, 1) := by decide +kernel
theorem dX0_same_15 : decode cX0_same 15 = .ok (.iconst 0, 1) := by decide +kernel
theorem dX0_same_16 : decode cX0_same 16 = .ok (.invokestatic 37, 3) := by decide +kernel
theorem dX0_same_19 : decode cX0_same 19 = .ok (.istore 4, 2) := by decide +kernel
theorem dX0_same_21 : decode cX0_same 21 = .ok (.aload_n 0, 1) := by decide +kernel
theorem dX0_same_22 : decode cX0_same 22 = .ok (.getfield 17, 3) := by decide +kernel
theorem dX0_same_25 : decode cX0_same 25 = .ok (.iload_n 3, 1) := by decide +kernel
theorem dX0_same_26 : decode cX0_same 26 = .ok (.iaload, 1) := by decide +kernel
theorem dX0_same_27 : decode cX0_same 27 = .ok (.aload_n 0, 1) := by decide +kernel
theorem dX0_same_28 : decode cX0_same 28 = .ok (.getfield 17, 3) := by decide +kernel
theorem dX0_same_31 : decode cX0_same 31 = .ok (.iload 4, 2) := by decide +kernel
theorem dX0_same_33 : decode cX0_same 33 = .ok (.iaload, 1) := by decide +kernel
theorem dX0_same_34 : decode cX0_same 34 = .ok (.if_icmp .eq 5, 3) := by decide +kernel
theorem dX0_same_37 : decode cX0_same 37 = .ok (.iconst 0, 1) := by decide +kernel
theorem dX0_same_38 : decode cX0_same 38 = .ok (.ireturn, 1) := by decide +kernel
theorem dX0_same_39 : decode cX0_same 39 = .ok (.iconst 2, 1) := by decide +kernel
theorem dX0_same_40 : decode cX0_same 40 = .ok (.istore 5, 2) := by decide +kernel
theorem dX0_same_42 : decode cX0_same 42 = .ok (.iconst 0, 1) := by decide +kernel
theorem dX0_same_43 : decode cX0_same 43 = .ok (.istore 6, 2) := by decide +kernel
theorem dX0_same_45 : decode cX0_same 45 = .ok (.iload 6, 2) := by decide +kernel
theorem dX0_same_47 : decode cX0_same 47 = .ok (.aload_n 0, 1) := by decide +kernel
theorem dX0_same_48 : decode cX0_same 48 = .ok (.getfield 17, 3) := by decide +kernel
theorem dX0_same_51 : decode cX0_same 51 = .ok (.iload_n 3, 1) := by decide +kernel
theorem dX0_same_52 : decode cX0_same 52 = .ok (.iaload, 1) := by decide +kernel
theorem dX0_same_53 : decode cX0_same 53 = .ok (.if_icmp .ge 33, 3) := by decide +kernel
theorem dX0_same_56 : decode cX0_same 56 = .ok (.iload 5, 2) := by decide +kernel
theorem dX0_same_58 : decode cX0_same 58 = .ok (.aload_n 0, 1) := by decide +kernel
theorem dX0_same_59 : decode cX0_same 59 = .ok (.iload_n 3, 1) := by decide +kernel
theorem dX0_same_60 : decode cX0_same 60 = .ok (.iload 6, 2) := by decide +kernel
theorem dX0_same_62 : decode cX0_same 62 = .ok (.invokestatic 95, 3) := by decide +kernel
theorem dX0_same_65 : decode cX0_same 65 = .ok (.iload 4, 2) := by decide +kernel
theorem dX0_same_67 : decode cX0_same 67 = .ok (.iload 6, 2) := by decide +kernel
theorem dX0_same_69 : decode cX0_same 69 = .ok (.invokestatic 95, 3) := by decide +kernel
theorem dX0_same_72 : decode cX0_same 72 = .ok (.invokevirtual 119, 3) := by decide +kernel
theorem dX0_same_75 : decode cX0_same 75 = .ok (.invokestatic 122, 3) := by decide +kernel
theorem dX0_same_78 : decode cX0_same 78 = .ok (.istore 5, 2) := by decide +kernel
theorem dX0_same_80 : decode cX0_same 80 = .ok (.iinc 6 1, 3) := by decide +kernel
theorem dX0_same_83 : decode cX0_same 83 = .ok (.goto (-38), 3) := by decide +kernel
theorem dX0_same_86 : decode cX0_same 86 = .ok (.iload 5, 2) := by decide +kernel
theorem dX0_same_88 : decode cX0_same 88 = .ok (.ireturn, 1) := by decide +kernel
set_option maxRecDepth 20000 in
theorem ggX0_move_X0_needMayOpen : GoodIn wsX0_move wsX0_needMayOpen := goodIn_ca (goodIn_ca (goodIn_r _ [9, 10, 11, 12, 13, 14, 15, 16, 17, 8, 18, 19, 20, 21, 22, 23, 24, 25, 26, 27, 28, 29, 30, 31, 32, 33, 38, 39, 40, 41, 42] (by decide +kernel) (by decide +kernel)) (goodIn_sub (fun _ h => List.mem_cons_of_mem _ (List.mem_append_left _ (List.mem_append_right _ h))) (by decide +kernel))) (goodIn_sub (fun _ h => List.mem_cons_of_mem _ (List.mem_append_right _ h)) (by decide +kernel))
set_option maxRecDepth 20000 in
theorem gX0_move_X0_needMayOpen : GoodIn wsX0_move (wsV RX0 132 RX0 yX0_needMayOpen wsX0_needMayOpen) := goodIn_app (goodIn_of _ (by decide +kernel)) ggX0_move_X0_needMayOpen
set_option maxRecDepth 20000 in
theorem ggX0_move_X0_needMayShut : GoodIn wsX0_move wsX0_needMayShut := goodIn_ca (goodIn_ca (goodIn_r _ [37, 10, 11, 12, 13, 15, 16, 17, 8, 18, 19, 20, 21, 22, 23, 24, 25, 31, 32, 33, 26, 27, 28, 29, 14, 30, 38, 39, 40, 41, 42] (by decide +kernel) (by decide +kernel)) (goodIn_sub (fun _ h => List.mem_cons_of_mem _ (List.mem_append_left _ (List.mem_append_right _ h))) (by decide +kernel))) (goodIn_sub (fun _ h => List.mem_cons_of_mem _ (List.mem_append_right _ h)) (by decide +kernel))
set_option maxRecDepth 20000 in
theorem gX0_move_X0_needMayShut : GoodIn wsX0_move (wsV RX0 135 RX0 yX0_needMayShut wsX0_needMayShut) := goodIn_app (goodIn_of _ (by decide +kernel)) ggX0_move_X0_needMayShut
theorem dX0_move_0 : decode cX0_move 0 = .ok (.iload_n 1, 1) := by decide +kernel
theorem dX0_move_1 : decode cX0_move 1 = .ok (.aload_n 0, 1) := by decide +kernel
theorem dX0_move_2 : decode cX0_move 2 = .ok (.getfield 21, 3) := by decide +kernel
theorem dX0_move_5 : decode cX0_move 5 = .ok (.if_icmp .ne 13, 3) := by decide +kernel
theorem dX0_move_8 : decode cX0_move 8 = .ok (.new 127, 3) := by decide +kernel
theorem dX0_move_11 : decode cX0_move 11 = .ok (.dup, 1) := by decide +kernel
theorem dX0_move_12 : decode cX0_move 12 = .ok (.ldc 129, 2) := by decide +kernel
theorem dX0_move_14 : decode cX0_move 14 = .ok (.invokespecial 131, 3) := by decide +kernel
theorem dX0_move_17 : decode cX0_move 17 = .ok (.athrow, 1) := by decide +kernel
theorem dX0_move_18 : decode cX0_move 18 = .ok (.iload_n 1, 1) := by decide +kernel
theorem dX0_move_19 : decode cX0_move 19 = .ok (.ifCond .eq 10, 3) := by decide +kernel
theorem dX0_move_22 : decode cX0_move 22 = .ok (.aload_n 0, 1) := by decide +kernel
theorem dX0_move_23 : decode cX0_move 23 = .ok (.invokevirtual 132, 3) := by decide +kernel
theorem dX0_move_26 : decode cX0_move 26 = .ok (.goto 7, 3) := by decide +kernel
theorem dX0_move_29 : decode cX0_move 29 = .ok (.aload_n 0, 1) := by decide +kernel
theorem dX0_move_30 : decode cX0_move 30 = .ok (.invokevirtual 135, 3) := by decide +kernel
theorem dX0_move_33 : decode cX0_move 33 = .ok (.aload_n 0, 1) := by decide +kernel
theorem dX0_move_34 : decode cX0_move 34 = .ok (.iload_n 1, 1) := by decide +kernel
theorem dX0_move_35 : decode cX0_move 35 = .ok (.putfield 21, 3) := by decide +kernel
theorem dX0_move_38 : decode cX0_move 38 = .ok (.aload_n 0, 1) := by decide +kernel
theorem dX0_move_39 : decode cX0_move 39 = .ok (.dup, 1) := by decide +kernel
theorem dX0_move_40 : decode cX0_move 40 = .ok (.getfield 25, 3) := by decide +kernel
theorem dX0_move_43 : decode cX0_move 43 = .ok (.iconst 1, 1) := by decide +kernel
theorem dX0_move_44 : decode cX0_move 44 = .ok (.iadd, 1) := by decide +kernel
theorem dX0_move_45 : decode cX0_move 45 = .ok (.putfield 25, 3) := by decide +kernel
theorem dX0_move_48 : decode cX0_move 48 = .ok (.aload_n 0, 1) := by decide +kernel
theorem dX0_move_49 : decode cX0_move 49 = .ok (.getfield 25, 3) := by decide +kernel
theorem dX0_move_52 : decode cX0_move 52 = .ok (.ireturn, 1) := by decide +kernel
set_option maxRecDepth 20000 in
theorem ggX0_size_X0_needGauge : GoodIn wsX0_size wsX0_needGauge := goodIn_ca (goodIn_r _ [5, 6, 7] (by decide +kernel) (by decide +kernel)) (goodIn_sub (fun _ h => List.mem_cons_of_mem _ (List.mem_append_right _ h)) (by decide +kernel))
set_option maxRecDepth 20000 in
theorem gX0_size_X0_needGauge : GoodIn wsX0_size (va_wsS RX0 29 yX0_needGauge wsX0_needGauge) := goodIn_app (goodIn_of _ (by decide +kernel)) ggX0_size_X0_needGauge
set_option maxRecDepth 20000 in
theorem ggX0_size_X0_needWhat : GoodIn wsX0_size wsX0_needWhat := goodIn_ca (goodIn_r _ [10, 6, 7] (by decide +kernel) (by decide +kernel)) (goodIn_sub (fun _ h => List.mem_cons_of_mem _ (List.mem_append_right _ h)) (by decide +kernel))
set_option maxRecDepth 20000 in
theorem gX0_size_X0_needWhat : GoodIn wsX0_size (va_wsS RX0 49 yX0_needWhat wsX0_needWhat) := goodIn_app (goodIn_of _ (by decide +kernel)) ggX0_size_X0_needWhat
set_option maxRecDepth 20000 in
theorem ggX0_size_X0_stripOf : GoodIn wsX0_size wsX0_stripOf := goodIn_r _ [13] (by decide +kernel) (by decide +kernel)
set_option maxRecDepth 20000 in
theorem gX0_size_X0_stripOf : GoodIn wsX0_size (va_wsS RX0 37 yX0_stripOf wsX0_stripOf) := goodIn_app (goodIn_of _ (by decide +kernel)) ggX0_size_X0_stripOf
theorem dX0_size_0 : decode cX0_size 0 = .ok (.iload_n 1, 1) := by decide +kernel
theorem dX0_size_1 : decode cX0_size 1 = .ok (.invokestatic 29, 3) := by decide +kernel
theorem dX0_size_4 : decode cX0_size 4 = .ok (.iload_n 2, 1) := by decide +kernel
theorem dX0_size_5 : decode cX0_size 5 = .ok (.invokestatic 49, 3) := by decide +kernel
theorem dX0_size_8 : decode cX0_size 8 = .ok (.aload_n 0, 1) := by decide +kernel
theorem dX0_size_9 : decode cX0_size 9 = .ok (.getfield 17, 3) := by decide +kernel
theorem dX0_size_12 : decode cX0_size 12 = .ok (.iload_n 1, 1) := by decide +kernel
theorem dX0_size_13 : decode cX0_size 13 = .ok (.iload_n 2, 1) := by decide +kernel
theorem dX0_size_14 : decode cX0_size 14 = .ok (.invokestatic 37, 3) := by decide +kernel
theorem dX0_size_17 : decode cX0_size 17 = .ok (.iaload, 1) := by decide +kernel
theorem dX0_size_18 : decode cX0_size 18 = .ok (.ireturn, 1) := by decide +kernel
theorem dX0_needGauge_0 : decode cX0_needGauge 0 = .ok (.iload_n 0, 1) := by decide +kernel
theorem dX0_needGauge_1 : decode cX0_needGauge 1 = .ok (.ifCond .lt 9, 3) := by decide +kernel
theorem dX0_needGauge_4 : decode cX0_needGauge 4 = .ok (.iload_n 0, 1) := by decide +kernel
theorem dX0_needGauge_5 : decode cX0_needGauge 5 = .ok (.bipush 6, 2) := by decide +kernel
theorem dX0_needGauge_7 : decode cX0_needGauge 7 = .ok (.if_icmp .lt 13, 3) := by decide +kernel
theorem dX0_needGauge_10 : decode cX0_needGauge 10 = .ok (.new 59, 3) := by decide +kernel
theorem dX0_needGauge_13 : decode cX0_needGauge 13 = .ok (.dup, 1) := by decide +kernel
theorem dX0_needGauge_14 : decode cX0_needGauge 14 = .ok (.ldc 138, 2) := by decide +kernel
theorem dX0_needGauge_16 : decode cX0_needGauge 16 = .ok (.invokespecial 63, 3) := by decide +kernel
theorem dX0_needGauge_19 : decode cX0_needGauge 19 = .ok (.athrow, 1) := by decide +kernel
theorem dX0_needGauge_20 : decode cX0_needGauge 20 = .ok (.return_, 1) := by decide +kernel
theorem dX0_needWhat_0 : decode cX0_needWhat 0 = .ok (.iload_n 0, 1) := by decide +kernel
theorem dX0_needWhat_1 : decode cX0_needWhat 1 = .ok (.ifCond .lt 8, 3) := by decide +kernel
theorem dX0_needWhat_4 : decode cX0_needWhat 4 = .ok (.iload_n 0, 1) := by decide +kernel
theorem dX0_needWhat_5 : decode cX0_needWhat 5 = .ok (.iconst 2, 1) := by decide +kernel
theorem dX0_needWhat_6 : decode cX0_needWhat 6 = .ok (.if_icmp .lt 13, 3) := by decide +kernel
theorem dX0_needWhat_9 : decode cX0_needWhat 9 = .ok (.new 59, 3) := by decide +kernel
theorem dX0_needWhat_12 : decode cX0_needWhat 12 = .ok (.dup, 1) := by decide +kernel
theorem dX0_needWhat_13 : decode cX0_needWhat 13 = .ok (.ldc 140, 2) := by decide +kernel
theorem dX0_needWhat_15 : decode cX0_needWhat 15 = .ok (.invokespecial 63, 3) := by decide +kernel
theorem dX0_needWhat_18 : decode cX0_needWhat 18 = .ok (.athrow, 1) := by decide +kernel
theorem dX0_needWhat_19 : decode cX0_needWhat 19 = .ok (.return_, 1) := by decide +kernel
theorem dX0_needRelation_0 : decode cX0_needRelation 0 = .ok (.iload_n 0, 1) := by decide +kernel
theorem dX0_needRelation_1 : decode cX0_needRelation 1 = .ok (.ifCond .lt 9, 3) := by decide +kernel
theorem dX0_needRelation_4 : decode cX0_needRelation 4 = .ok (.iload_n 0, 1) := by decide +kernel
theorem dX0_needRelation_5 : decode cX0_needRelation 5 = .ok (.bipush 6, 2) := by decide +kernel
theorem dX0_needRelation_7 : decode cX0_needRelation 7 = .ok (.if_icmp .lt 13, 3) := by decide +kernel
theorem dX0_needRelation_10 : decode cX0_needRelation 10 = .ok (.new 59, 3) := by decide +kernel
theorem dX0_needRelation_13 : decode cX0_needRelation 13 = .ok (.dup, 1) := by decide +kernel
theorem dX0_needRelation_14 : decode cX0_needRelation 14 = .ok (.ldc 142, 2) := by decide +kernel
theorem dX0_needRelation_16 : decode cX0_needRelation 16 = .ok (.invokespecial 63, 3) := by decide +kernel
theorem dX0_needRelation_19 : decode cX0_needRelation 19 = .ok (.athrow, 1) := by decide +kernel
theorem dX0_needRelation_20 : decode cX0_needRelation 20 = .ok (.return_, 1) := by decide +kernel
theorem dX0_needLevel_0 : decode cX0_needLevel 0 = .ok (.dload_n 0, 1) := by decide +kernel
theorem dX0_needLevel_1 : decode cX0_needLevel 1 = .ok (.ldc2_w 144, 3) := by decide +kernel
theorem dX0_needLevel_4 : decode cX0_needLevel 4 = .ok (.dcmp .l, 1) := by decide +kernel
theorem dX0_needLevel_5 : decode cX0_needLevel 5 = .ok (.ifCond .lt 11, 3) := by decide +kernel
theorem dX0_needLevel_8 : decode cX0_needLevel 8 = .ok (.dload_n 0, 1) := by decide +kernel
theorem dX0_needLevel_9 : decode cX0_needLevel 9 = .ok (.ldc2_w 146, 3) := by decide +kernel
theorem dX0_needLevel_12 : decode cX0_needLevel 12 = .ok (.dcmp .g, 1) := by decide +kernel
theorem dX0_needLevel_13 : decode cX0_needLevel 13 = .ok (.ifCond .le 13, 3) := by decide +kernel
theorem dX0_needLevel_16 : decode cX0_needLevel 16 = .ok (.new 59, 3) := by decide +kernel
theorem dX0_needLevel_19 : decode cX0_needLevel 19 = .ok (.dup, 1) := by decide +kernel
theorem dX0_needLevel_20 : decode cX0_needLevel 20 = .ok (.ldc 148, 2) := by decide +kernel
theorem dX0_needLevel_22 : decode cX0_needLevel 22 = .ok (.invokespecial 63, 3) := by decide +kernel
theorem dX0_needLevel_25 : decode cX0_needLevel 25 = .ok (.athrow, 1) := by decide +kernel
theorem dX0_needLevel_26 : decode cX0_needLevel 26 = .ok (.return_, 1) := by decide +kernel
theorem dX0_needWind_0 : decode cX0_needWind 0 = .ok (.fload_n 0, 1) := by decide +kernel
theorem dX0_needWind_1 : decode cX0_needWind 1 = .ok (.fconst 0, 1) := by decide +kernel
theorem dX0_needWind_2 : decode cX0_needWind 2 = .ok (.fcmp .l, 1) := by decide +kernel
theorem dX0_needWind_3 : decode cX0_needWind 3 = .ok (.ifCond .lt 10, 3) := by decide +kernel
theorem dX0_needWind_6 : decode cX0_needWind 6 = .ok (.fload_n 0, 1) := by decide +kernel
theorem dX0_needWind_7 : decode cX0_needWind 7 = .ok (.ldc 150, 2) := by decide +kernel
theorem dX0_needWind_9 : decode cX0_needWind 9 = .ok (.fcmp .g, 1) := by decide +kernel
theorem dX0_needWind_10 : decode cX0_needWind 10 = .ok (.ifCond .le 13, 3) := by decide +kernel
theorem dX0_needWind_13 : decode cX0_needWind 13 = .ok (.new 59, 3) := by decide +kernel
theorem dX0_needWind_16 : decode cX0_needWind 16 = .ok (.dup, 1) := by decide +kernel
theorem dX0_needWind_17 : decode cX0_needWind 17 = .ok (.ldc 151, 2) := by decide +kernel
theorem dX0_needWind_19 : decode cX0_needWind 19 = .ok (.invokespecial 63, 3) := by decide +kernel
theorem dX0_needWind_22 : decode cX0_needWind 22 = .ok (.athrow, 1) := by decide +kernel
theorem dX0_needWind_23 : decode cX0_needWind 23 = .ok (.return_, 1) := by decide +kernel
theorem dX0_needRoom_0 : decode cX0_needRoom 0 = .ok (.aload_n 0, 1) := by decide +kernel
theorem dX0_needRoom_1 : decode cX0_needRoom 1 = .ok (.getfield 17, 3) := by decide +kernel
theorem dX0_needRoom_4 : decode cX0_needRoom 4 = .ok (.iload_n 1, 1) := by decide +kernel
theorem dX0_needRoom_5 : decode cX0_needRoom 5 = .ok (.iaload, 1) := by decide +kernel
theorem dX0_needRoom_6 : decode cX0_needRoom 6 = .ok (.bipush 12, 2) := by decide +kernel
theorem dX0_needRoom_8 : decode cX0_needRoom 8 = .ok (.if_icmp .lt 13, 3) := by decide +kernel
theorem dX0_needRoom_11 : decode cX0_needRoom 11 = .ok (.new 127, 3) := by decide +kernel
theorem dX0_needRoom_14 : decode cX0_needRoom 14 = .ok (.dup, 1) := by decide +kernel
theorem dX0_needRoom_15 : decode cX0_needRoom 15 = .ok (.ldc 153, 2) := by decide +kernel
theorem dX0_needRoom_17 : decode cX0_needRoom 17 = .ok (.invokespecial 131, 3) := by decide +kernel
theorem dX0_needRoom_20 : decode cX0_needRoom 20 = .ok (.athrow, 1) := by decide +kernel
theorem dX0_needRoom_21 : decode cX0_needRoom 21 = .ok (.return_, 1) := by decide +kernel
set_option maxRecDepth 20000 in
theorem ggX0_needMayOpen_X0_latestPlace : GoodIn wsX0_needMayOpen wsX0_latestPlace := goodIn_r _ [10, 11, 12, 13, 9, 14, 15, 16, 17, 26, 27, 28, 29, 30] (by decide +kernel) (by decide +kernel)
set_option maxRecDepth 20000 in
theorem gX0_needMayOpen_X0_latestPlace : GoodIn wsX0_needMayOpen (wsV RX0 102 RX0 yX0_latestPlace wsX0_latestPlace) := goodIn_app (goodIn_of _ (by decide +kernel)) ggX0_needMayOpen_X0_latestPlace
set_option maxRecDepth 20000 in
theorem ggX0_needMayOpen_X0_isRelated : GoodIn wsX0_needMayOpen wsX0_isRelated := goodIn_r _ [21, 5, 22, 26, 27, 28, 29, 30] (by decide +kernel) (by decide +kernel)
set_option maxRecDepth 20000 in
theorem gX0_needMayOpen_X0_isRelated : GoodIn wsX0_needMayOpen (wsV RX0 98 RX0 yX0_isRelated wsX0_isRelated) := goodIn_app (goodIn_of _ (by decide +kernel)) ggX0_needMayOpen_X0_isRelated
set_option maxRecDepth 20000 in
theorem ggX0_needMayOpen_X0_markPlace : GoodIn wsX0_needMayOpen wsX0_markPlace := goodIn_r _ [25] (by decide +kernel) (by decide +kernel)
set_option maxRecDepth 20000 in
theorem gX0_needMayOpen_X0_markPlace : GoodIn wsX0_needMayOpen (va_wsS RX0 66 yX0_markPlace wsX0_markPlace) := goodIn_app (goodIn_of _ (by decide +kernel)) ggX0_needMayOpen_X0_markPlace
theorem dX0_needMayOpen_0 : decode cX0_needMayOpen 0 = .ok (.aload_n 0, 1) := by decide +kernel
theorem dX0_needMayOpen_1 : decode cX0_needMayOpen 1 = .ok (.aload_n 0, 1) := by decide +kernel
theorem dX0_needMayOpen_2 : decode cX0_needMayOpen 2 = .ok (.iconst 0, 1) := by decide +kernel
theorem dX0_needMayOpen_3 : decode cX0_needMayOpen 3 = .ok (.iconst 0, 1) := by decide +kernel
theorem dX0_needMayOpen_4 : decode cX0_needMayOpen 4 = .ok (.invokevirtual 102, 3) := by decide +kernel
theorem dX0_needMayOpen_7 : decode cX0_needMayOpen 7 = .ok (.aload_n 0, 1) := by decide +kernel
theorem dX0_needMayOpen_8 : decode cX0_needMayOpen 8 = .ok (.iconst 1, 1) := by decide +kernel
theorem dX0_needMayOpen_9 : decode cX0_needMayOpen 9 = .ok (.iconst 0, 1) := by decide +kernel
theorem dX0_needMayOpen_10 : decode cX0_needMayOpen 10 = .ok (.invokevirtual 102, 3) := by decide +kernel
theorem dX0_needMayOpen_13 : decode cX0_needMayOpen 13 = .ok (.iconst 2, 1) := by decide +kernel
theorem dX0_needMayOpen_14 : decode cX0_needMayOpen 14 = .ok (.invokevirtual 98, 3) := by decide +kernel
theorem dX0_needMayOpen_17 : decode cX0_needMayOpen 17 = .ok (.ifCond .ne 13, 3) := by decide +kernel
theorem dX0_needMayOpen_20 : decode cX0_needMayOpen 20 = .ok (.new 155, 3) := by decide +kernel
theorem dX0_needMayOpen_23 : decode cX0_needMayOpen 23 = .ok (.dup, 1) := by decide +kernel
theorem dX0_needMayOpen_24 : decode cX0_needMayOpen 24 = .ok (.ldc 157, 2) := by decide +kernel
theorem dX0_needMayOpen_26 : decode cX0_needMayOpen 26 = .ok (.invokespecial 159, 3) := by decide +kernel
theorem dX0_needMayOpen_29 : decode cX0_needMayOpen 29 = .ok (.athrow, 1) := by decide +kernel
theorem dX0_needMayOpen_30 : decode cX0_needMayOpen 30 = .ok (.iconst 1, 1) := by decide +kernel
theorem dX0_needMayOpen_31 : decode cX0_needMayOpen 31 = .ok (.iconst 2, 1) := by decide +kernel
theorem dX0_needMayOpen_32 : decode cX0_needMayOpen 32 = .ok (.invokestatic 66, 3) := by decide +kernel
theorem dX0_needMayOpen_35 : decode cX0_needMayOpen 35 = .ok (.istore_n 1, 1) := by decide +kernel
theorem dX0_needMayOpen_36 : decode cX0_needMayOpen 36 = .ok (.aload_n 0, 1) := by decide +kernel
theorem dX0_needMayOpen_37 : decode cX0_needMayOpen 37 = .ok (.getfield 9, 3) := by decide +kernel
theorem dX0_needMayOpen_40 : decode cX0_needMayOpen 40 = .ok (.iload_n 1, 1) := by decide +kernel
theorem dX0_needMayOpen_41 : decode cX0_needMayOpen 41 = .ok (.baload, 1) := by decide +kernel
theorem dX0_needMayOpen_42 : decode cX0_needMayOpen 42 = .ok (.ifCond .eq 28, 3) := by decide +kernel
theorem dX0_needMayOpen_45 : decode cX0_needMayOpen 45 = .ok (.aload_n 0, 1) := by decide +kernel
theorem dX0_needMayOpen_46 : decode cX0_needMayOpen 46 = .ok (.aload_n 0, 1) := by decide +kernel
theorem dX0_needMayOpen_47 : decode cX0_needMayOpen 47 = .ok (.iconst 1, 1) := by decide +kernel
theorem dX0_needMayOpen_48 : decode cX0_needMayOpen 48 = .ok (.iconst 1, 1) := by decide +kernel
theorem dX0_needMayOpen_49 : decode cX0_needMayOpen 49 = .ok (.invokevirtual 102, 3) := by decide +kernel
theorem dX0_needMayOpen_52 : decode cX0_needMayOpen 52 = .ok (.iload_n 1, 1) := by decide +kernel
theorem dX0_needMayOpen_53 : decode cX0_needMayOpen 53 = .ok (.iconst 0, 1) := by decide +kernel
theorem dX0_needMayOpen_54 : decode cX0_needMayOpen 54 = .ok (.invokevirtual 98, 3) := by decide +kernel
theorem dX0_needMayOpen_57 : decode cX0_needMayOpen 57 = .ok (.ifCond .ne 13, 3) := by decide +kernel
theorem dX0_needMayOpen_60 : decode cX0_needMayOpen 60 = .ok (.new 160, 3) := by decide +kernel
theorem dX0_needMayOpen_63 : decode cX0_needMayOpen 63 = .ok (.dup, 1) := by decide +kernel
theorem dX0_needMayOpen_64 : decode cX0_needMayOpen 64 = .ok (.ldc 162, 2) := by decide +kernel
theorem dX0_needMayOpen_66 : decode cX0_needMayOpen 66 = .ok (.invokespecial 164, 3) := by decide +kernel
theorem dX0_needMayOpen_69 : decode cX0_needMayOpen 69 = .ok (.athrow, 1) := by decide +kernel
theorem dX0_needMayOpen_70 : decode cX0_needMayOpen 70 = .ok (.return_, 1) := by decide +kernel
set_option maxRecDepth 20000 in
theorem ggX0_needMayShut_X0_latestPlace : GoodIn wsX0_needMayShut wsX0_latestPlace := goodIn_r _ [9, 10, 11, 12, 8, 13, 14, 15, 16, 26, 27, 28, 29, 30] (by decide +kernel) (by decide +kernel)
set_option maxRecDepth 20000 in
theorem gX0_needMayShut_X0_latestPlace : GoodIn wsX0_needMayShut (wsV RX0 102 RX0 yX0_latestPlace wsX0_latestPlace) := goodIn_app (goodIn_of _ (by decide +kernel)) ggX0_needMayShut_X0_latestPlace
set_option maxRecDepth 20000 in
theorem ggX0_needMayShut_X0_markPlace : GoodIn wsX0_needMayShut wsX0_markPlace := goodIn_r _ [19] (by decide +kernel) (by decide +kernel)
set_option maxRecDepth 20000 in
theorem gX0_needMayShut_X0_markPlace : GoodIn wsX0_needMayShut (va_wsS RX0 66 yX0_markPlace wsX0_markPlace) := goodIn_app (goodIn_of _ (by decide +kernel)) ggX0_needMayShut_X0_markPlace
set_option maxRecDepth 20000 in
theorem ggX0_needMayShut_X0_isRelated : GoodIn wsX0_needMayShut wsX0_isRelated := goodIn_r _ [23, 24, 25, 26, 27, 28, 29, 30] (by decide +kernel) (by decide +kernel)
set_option maxRecDepth 20000 in
theorem gX0_needMayShut_X0_isRelated : GoodIn wsX0_needMayShut (wsV RX0 98 RX0 yX0_isRelated wsX0_isRelated) := goodIn_app (goodIn_of _ (by decide +kernel)) ggX0_needMayShut_X0_isRelated
theorem dX0_needMayShut_0 : decode cX0_needMayShut 0 = .ok (.aload_n 0, 1) := by decide +kernel
theorem dX0_needMayShut_1 : decode cX0_needMayShut 1 = .ok (.aload_n 0, 1) := by decide +kernel
theorem dX0_needMayShut_2 : decode cX0_needMayShut 2 = .ok (.iconst 0, 1) := by decide +kernel
theorem dX0_needMayShut_3 : decode cX0_needMayShut 3 = .ok (.iconst 0, 1) := by decide +kernel
