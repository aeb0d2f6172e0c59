theorem dX0_init_0 : decode cX0_init 0 = .ok (.aload_n 0, 1) := by decide +kernel
theorem dX0_init_1 : decode cX0_init 1 = .ok (.invokespecial 3, 3) := by decide +kernel
theorem dX0_init_4 : decode cX0_init 4 = .ok (.aload_n 0, 1) := by decide +kernel
theorem dX0_init_5 : decode cX0_init 5 = .ok (.iconst 0, 1) := by decide +kernel
theorem dX0_init_6 : decode cX0_init 6 = .ok (.putfield 11, 3) := by decide +kernel
theorem dX0_init_9 : decode cX0_init 9 = .ok (.aload_n 0, 1) := by decide +kernel
theorem dX0_init_10 : decode cX0_init 10 = .ok (.iconst 0, 1) := by decide +kernel
theorem dX0_init_11 : decode cX0_init 11 = .ok (.putfield 15, 3) := by decide +kernel
theorem dX0_init_14 : decode cX0_init 14 = .ok (.aload_n 0, 1) := by decide +kernel
theorem dX0_init_15 : decode cX0_init 15 = .ok (.iconst 0, 1) := by decide +kernel
theorem dX0_init_16 : decode cX0_init 16 = .ok (.putfield 18, 3) := by decide +kernel
theorem dX0_init_19 : decode cX0_init 19 = .ok (.aload_n 0, 1) := by decide +kernel
theorem dX0_init_20 : decode cX0_init 20 = .ok (.iconst 0, 1) := by decide +kernel
theorem dX0_init_21 : decode cX0_init 21 = .ok (.putfield 21, 3) := by decide +kernel
theorem dX0_init_24 : decode cX0_init 24 = .ok (.aload_n 0, 1) := by decide +kernel
theorem dX0_init_25 : decode cX0_init 25 = .ok (.iconst 0, 1) := by decide +kernel
theorem dX0_init_26 : decode cX0_init 26 = .ok (.putfield 24, 3) := by decide +kernel
theorem dX0_init_29 : decode cX0_init 29 = .ok (.aload_n 0, 1) := by decide +kernel
theorem dX0_init_30 : decode cX0_init 30 = .ok (.iconst 0, 1) := by decide +kernel
theorem dX0_init_31 : decode cX0_init 31 = .ok (.putfield 27, 3) := by decide +kernel
theorem dX0_init_34 : decode cX0_init 34 = .ok (.return_, 1) := by decide +kernel
theorem dX1_init_0 : decode cX1_init 0 = .ok (.aload_n 0, 1) := by decide +kernel
theorem dX1_init_1 : decode cX1_init 1 = .ok (.invokespecial 3, 3) := by decide +kernel
theorem dX1_init_4 : decode cX1_init 4 = .ok (.aload_n 0, 1) := by decide +kernel
theorem dX1_init_5 : decode cX1_init 5 = .ok (.iconst 0, 1) := by decide +kernel
theorem dX1_init_6 : decode cX1_init 6 = .ok (.putfield 9, 3) := by decide +kernel
theorem dX1_init_9 : decode cX1_init 9 = .ok (.aload_n 0, 1) := by decide +kernel
theorem dX1_init_10 : decode cX1_init 10 = .ok (.iconst 0, 1) := by decide +kernel
theorem dX1_init_11 : decode cX1_init 11 = .ok (.putfield 15, 3) := by decide +kernel
theorem dX1_init_14 : decode cX1_init 14 = .ok (.return_, 1) := by decide +kernel
set_option maxRecDepth 20000 in
theorem ggX1_remembers_X10_isWithin : GoodIn wsX1_remembers wsX10_isWithin := goodIn_r _ [8] (by decide +kernel) (by decide +kernel)
set_option maxRecDepth 20000 in
theorem gX1_remembers_X10_isWithin_n24 : GoodIn wsX1_remembers (wsX10_isWithin) := ggX1_remembers_X10_isWithin
theorem dX1_remembers_0 : decode cX1_remembers 0 = .ok (.iload_n 1, 1) := by decide +kernel
theorem dX1_remembers_1 : decode cX1_remembers 1 = .ok (.iconst 1, 1) := by decide +kernel
theorem dX1_remembers_2 : decode cX1_remembers 2 = .ok (.bipush 32, 2) := by decide +kernel
theorem dX1_remembers_4 : decode cX1_remembers 4 = .ok (.aload_n 0, 1) := by decide +kernel
theorem dX1_remembers_5 : decode cX1_remembers 5 = .ok (.getfield 9, 3) := by decide +kernel
theorem dX1_remembers_8 : decode cX1_remembers 8 = .ok (.invokestatic 18, 3) := by decide +kernel
theorem dX1_remembers_11 : decode cX1_remembers 11 = .ok (.invokestatic 24, 3) := by decide +kernel
theorem dX1_remembers_14 : decode cX1_remembers 14 = .ok (.ireturn, 1) := by decide +kernel
theorem dX1_findBit_0 : decode cX1_findBit 0 = .ok (.aload_n 0, 1) := by decide +kernel
theorem dX1_findBit_1 : decode cX1_findBit 1 = .ok (.getfield 15, 3) := by decide +kernel
theorem dX1_findBit_4 : decode cX1_findBit 4 = .ok (.iload_n 1, 1) := by decide +kernel
theorem dX1_findBit_5 : decode cX1_findBit 5 = .ok (.iconst 1, 1) := by decide +kernel
theorem dX1_findBit_6 : decode cX1_findBit 6 = .ok (.isub, 1) := by decide +kernel
theorem dX1_findBit_7 : decode cX1_findBit 7 = .ok (.iushr, 1) := by decide +kernel
theorem dX1_findBit_8 : decode cX1_findBit 8 = .ok (.iconst 1, 1) := by decide +kernel
theorem dX1_findBit_9 : decode cX1_findBit 9 = .ok (.iand, 1) := by decide +kernel
theorem dX1_findBit_10 : decode cX1_findBit 10 = .ok (.ireturn, 1) := by decide +kernel
theorem dX2_init_0 : decode cX2_init 0 = .ok (.aload_n 0, 1) := by decide +kernel
theorem dX2_init_1 : decode cX2_init 1 = .ok (.invokespecial 1, 3) := by decide +kernel
theorem dX2_init_4 : decode cX2_init 4 = .ok (.aload_n 0, 1) := by decide +kernel
theorem dX2_init_5 : decode cX2_init 5 = .ok (.iconst 0, 1) := by decide +kernel
theorem dX2_init_6 : decode cX2_init 6 = .ok (.putfield 7, 3) := by decide +kernel
theorem dX2_init_9 : decode cX2_init 9 = .ok (.aload_n 0, 1) := by decide +kernel
theorem dX2_init_10 : decode cX2_init 10 = .ok (.sipush 256, 3) := by decide +kernel
theorem dX2_init_13 : decode cX2_init 13 = .ok (.newarray .boolean, 2) := by decide +kernel
theorem dX2_init_15 : decode cX2_init 15 = .ok (.putfield 13, 3) := by decide +kernel
theorem dX2_init_18 : decode cX2_init 18 = .ok (.return_, 1) := by decide +kernel
set_option maxRecDepth 20000 in
theorem ggX2_sumCosts_X2_findDistance : GoodIn wsX2_sumCosts wsX2_findDistance := goodIn_r _ [5, 6, 7, 8, 9] (by decide +kernel) (by decide +kernel)
set_option maxRecDepth 20000 in
theorem gX2_sumCosts_X2_findDistance : GoodIn wsX2_sumCosts (va_wsS RX2 17 yX2_findDistance wsX2_findDistance) := goodIn_app (goodIn_of _ (by decide +kernel)) ggX2_sumCosts_X2_findDistance
theorem dX2_sumCosts_0 : decode cX2_sumCosts 0 = .ok (.iconst 0, 1) := by decide +kernel
theorem dX2_sumCosts_1 : decode cX2_sumCosts 1 = .ok (.istore_n 2, 1) := by decide +kernel
theorem dX2_sumCosts_2 : decode cX2_sumCosts 2 = .ok (.iconst 0, 1) := by decide +kernel
theorem dX2_sumCosts_3 : decode cX2_sumCosts 3 = .ok (.istore_n 3, 1) := by decide +kernel
theorem dX2_sumCosts_4 : decode cX2_sumCosts 4 = .ok (.iload_n 3, 1) := by decide +kernel
theorem dX2_sumCosts_5 : decode cX2_sumCosts 5 = .ok (.sipush 256, 3) := by decide +kernel
theorem dX2_sumCosts_8 : decode cX2_sumCosts 8 = .ok (.if_icmp .ge 29, 3) := by decide +kernel
theorem dX2_sumCosts_11 : decode cX2_sumCosts 11 = .ok (.aload_n 0, 1) := by decide +kernel
theorem dX2_sumCosts_12 : decode cX2_sumCosts 12 = .ok (.getfield 13, 3) := by decide +kernel
theorem dX2_sumCosts_15 : decode cX2_sumCosts 15 = .ok (.iload_n 3, 1) := by decide +kernel
theorem dX2_sumCosts_16 : decode cX2_sumCosts 16 = .ok (.baload, 1) := by decide +kernel
theorem dX2_sumCosts_17 : decode cX2_sumCosts 17 = .ok (.ifCond .eq 14, 3) := by decide +kernel
theorem dX2_sumCosts_20 : decode cX2_sumCosts 20 = .ok (.iload_n 2, 1) := by decide +kernel
theorem dX2_sumCosts_21 : decode cX2_sumCosts 21 = .ok (.bipush 8, 2) := by decide +kernel
theorem dX2_sumCosts_23 : decode cX2_sumCosts 23 = .ok (.iload_n 1, 1) := by decide +kernel
theorem dX2_sumCosts_24 : decode cX2_sumCosts 24 = .ok (.iload_n 3, 1) := by decide +kernel
theorem dX2_sumCosts_25 : decode cX2_sumCosts 25 = .ok (.invokestatic 17, 3) := by decide +kernel
theorem dX2_sumCosts_28 : decode cX2_sumCosts 28 = .ok (.isub, 1) := by decide +kernel
theorem dX2_sumCosts_29 : decode cX2_sumCosts 29 = .ok (.iadd, 1) := by decide +kernel
theorem dX2_sumCosts_30 : decode cX2_sumCosts 30 = .ok (.istore_n 2, 1) := by decide +kernel
theorem dX2_sumCosts_31 : decode cX2_sumCosts 31 = .ok (.iinc 3 1, 3) := by decide +kernel
theorem dX2_sumCosts_34 : decode cX2_sumCosts 34 = .ok (.goto (-30), 3) := by decide +kernel
theorem dX2_sumCosts_37 : decode cX2_sumCosts 37 = .ok (.iload_n 2, 1) := by decide +kernel
theorem dX2_sumCosts_38 : decode cX2_sumCosts 38 = .ok (.ireturn, 1) := by decide +kernel
theorem dX2_findDistance_0 : decode cX2_findDistance 0 = .ok (.iload_n 0, 1) := by decide +kernel
theorem dX2_findDistance_1 : decode cX2_findDistance 1 = .ok (.iload_n 1, 1) := by decide +kernel
theorem dX2_findDistance_2 : decode cX2_findDistance 2 = .ok (.isub, 1) := by decide +kernel
theorem dX2_findDistance_3 : decode cX2_findDistance 3 = .ok (.bipush 15, 2) := by decide +kernel
theorem dX2_findDistance_5 : decode cX2_findDistance 5 = .ok (.iand, 1) := by decide +kernel
theorem dX2_findDistance_6 : decode cX2_findDistance 6 = .ok (.istore_n 2, 1) := by decide +kernel
theorem dX2_findDistance_7 : decode cX2_findDistance 7 = .ok (.iload_n 1, 1) := by decide +kernel
theorem dX2_findDistance_8 : decode cX2_findDistance 8 = .ok (.iload_n 0, 1) := by decide +kernel
theorem dX2_findDistance_9 : decode cX2_findDistance 9 = .ok (.isub, 1) := by decide +kernel
theorem dX2_findDistance_10 : decode cX2_findDistance 10 = .ok (.bipush 15, 2) := by decide +kernel
theorem dX2_findDistance_12 : decode cX2_findDistance 12 = .ok (.iand, 1) := by decide +kernel
theorem dX2_findDistance_13 : decode cX2_findDistance 13 = .ok (.istore_n 3, 1) := by decide +kernel
theorem dX2_findDistance_14 : decode cX2_findDistance 14 = .ok (.iload_n 2, 1) := by decide +kernel
theorem dX2_findDistance_15 : decode cX2_findDistance 15 = .ok (.iload_n 3, 1) := by decide +kernel
theorem dX2_findDistance_16 : decode cX2_findDistance 16 = .ok (.invokestatic 21, 3) := by decide +kernel
theorem dX2_findDistance_19 : decode cX2_findDistance 19 = .ok (.ireturn, 1) := by decide +kernel
theorem dX3_init_0 : decode cX3_init 0 = .ok (.aload_n 0, 1) := by decide +kernel
theorem dX3_init_1 : decode cX3_init 1 = .ok (.invokespecial 1, 3) := by decide +kernel
theorem dX3_init_4 : decode cX3_init 4 = .ok (.aload_n 0, 1) := by decide +kernel
theorem dX3_init_5 : decode cX3_init 5 = .ok (.ldc 7, 2) := by decide +kernel
theorem dX3_init_7 : decode cX3_init 7 = .ok (.putfield 8, 3) := by decide +kernel
theorem dX3_init_10 : decode cX3_init 10 = .ok (.return_, 1) := by decide +kernel
set_option maxRecDepth 20000 in
theorem ggX3_findLevel_J6_bitCount_0f7a4 : GoodIn wsX3_findLevel wsJ6_bitCount_0f7a4 := goodIn_r _ [5, 6, 7, 8] (by decide +kernel) (by decide +kernel)
set_option maxRecDepth 20000 in
theorem gX3_findLevel_J6_bitCount_0f7a4 : GoodIn wsX3_findLevel (va_wsS RX3 14 yJ6_bitCount_0f7a4 wsJ6_bitCount_0f7a4) := goodIn_app (goodIn_of _ (by decide +kernel)) ggX3_findLevel_J6_bitCount_0f7a4
theorem dX3_findLevel_0 : decode cX3_findLevel 0 = .ok (.iconst 2, 1) := by decide +kernel
theorem dX3_findLevel_1 : decode cX3_findLevel 1 = .ok (.aload_n 0, 1) := by decide +kernel
theorem dX3_findLevel_2 : decode cX3_findLevel 2 = .ok (.getfield 8, 3) := by decide +kernel
theorem dX3_findLevel_5 : decode cX3_findLevel 5 = .ok (.sipush 255, 3) := by decide +kernel
theorem dX3_findLevel_8 : decode cX3_findLevel 8 = .ok (.iand, 1) := by decide +kernel
theorem dX3_findLevel_9 : decode cX3_findLevel 9 = .ok (.invokestatic 14, 3) := by decide +kernel
theorem dX3_findLevel_12 : decode cX3_findLevel 12 = .ok (.imul, 1) := by decide +kernel
theorem dX3_findLevel_13 : decode cX3_findLevel 13 = .ok (.bipush 8, 2) := by decide +kernel
theorem dX3_findLevel_15 : decode cX3_findLevel 15 = .ok (.isub, 1) := by decide +kernel
theorem dX3_findLevel_16 : decode cX3_findLevel 16 = .ok (.ireturn, 1) := by decide +kernel
theorem dX4_init_0 : decode cX4_init 0 = .ok (.aload_n 0, 1) := by decide +kernel
theorem dX4_init_1 : decode cX4_init 1 = .ok (.invokespecial 1, 3) := by decide +kernel
theorem dX4_init_4 : decode cX4_init 4 = .ok (.aload_n 0, 1) := by decide +kernel
theorem dX4_init_5 : decode cX4_init 5 = .ok (.bipush 8, 2) := by decide +kernel
theorem dX4_init_7 : decode cX4_init 7 = .ok (.putfield 7, 3) := by decide +kernel
theorem dX4_init_10 : decode cX4_init 10 = .ok (.aload_n 0, 1) := by decide +kernel
theorem dX4_init_11 : decode cX4_init 11 = .ok (.iconst 1, 1) := by decide +kernel
theorem dX4_init_12 : decode cX4_init 12 = .ok (.putfield 13, 3) := by decide +kernel
theorem dX4_init_15 : decode cX4_init 15 = .ok (.aload_n 0, 1) := by decide +kernel
theorem dX4_init_16 : decode cX4_init 16 = .ok (.iconst 0, 1) := by decide +kernel
theorem dX4_init_17 : decode cX4_init 17 = .ok (.putfield 16, 3) := by decide +kernel
theorem dX4_init_20 : decode cX4_init 20 = .ok (.aload_n 0, 1) := by decide +kernel
theorem dX4_init_21 : decode cX4_init 21 = .ok (.iconst 0, 1) := by decide +kernel
theorem dX4_init_22 : decode cX4_init 22 = .ok (.putfield 19, 3) := by decide +kernel
theorem dX4_init_25 : decode cX4_init 25 = .ok (.aload_n 0, 1) := by decide +kernel
theorem dX4_init_26 : decode cX4_init 26 = .ok (.iconst 0, 1) := by decide +kernel
theorem dX4_init_27 : decode cX4_init 27 = .ok (.putfield 22, 3) := by decide +kernel
theorem dX4_init_30 : decode cX4_init 30 = .ok (.return_, 1) := by decide +kernel
theorem dX5_init_0 : decode cX5_init 0 = .ok (.aload_n 0, 1) := by decide +kernel
theorem dX5_init_1 : decode cX5_init 1 = .ok (.invokespecial 3, 3) := by decide +kernel
theorem dX5_init_4 : decode cX5_init 4 = .ok (.aload_n 0, 1) := by decide +kernel
theorem dX5_init_5 : decode cX5_init 5 = .ok (.iconst 0, 1) := by decide +kernel
theorem dX5_init_6 : decode cX5_init 6 = .ok (.putfield 9, 3) := by decide +kernel
theorem dX5_init_9 : decode cX5_init 9 = .ok (.return_, 1) := by decide +kernel
theorem dX6_init_0 : decode cX6_init 0 = .ok (.aload_n 0, 1) := by decide +kernel
theorem dX6_init_1 : decode cX6_init 1 = .ok (.invokespecial 3, 3) := by decide +kernel
theorem dX6_init_4 : decode cX6_init 4 = .ok (.aload_n 0, 1) := by decide +kernel
theorem dX6_init_5 : decode cX6_init 5 = .ok (.iconst 0, 1) := by decide +kernel
theorem dX6_init_6 : decode cX6_init 6 = .ok (.putfield 9, 3) := by decide +kernel
theorem dX6_init_9 : decode cX6_init 9 = .ok (.aload_n 0, 1) := by decide +kernel
theorem dX6_init_10 : decode cX6_init 10 = .ok (.iconst 0, 1) := by decide +kernel
theorem dX6_init_11 : decode cX6_init 11 = .ok (.putfield 15, 3) := by decide +kernel
theorem dX6_init_14 : decode cX6_init 14 = .ok (.aload_n 0, 1) := by decide +kernel
theorem dX6_init_15 : decode cX6_init 15 = .ok (.iconst 0, 1) := by decide +kernel
theorem dX6_init_16 : decode cX6_init 16 = .ok (.putfield 18, 3) := by decide +kernel
theorem dX6_init_19 : decode cX6_init 19 = .ok (.aload_n 0, 1) := by decide +kernel
theorem dX6_init_20 : decode cX6_init 20 = .ok (.iconst 0, 1) := by decide +kernel
theorem dX6_init_21 : decode cX6_init 21 = .ok (.putfield 21, 3) := by decide +kernel
theorem dX6_init_24 : decode cX6_init 24 = .ok (.aload_n 0, 1) := by decide +kernel
theorem dX6_init_25 : decode cX6_init 25 = .ok (.iconst 0, 1) := by decide +kernel
theorem dX6_init_26 : decode cX6_init 26 = .ok (.putfield 24, 3) := by decide +kernel
theorem dX6_init_29 : decode cX6_init 29 = .ok (.aload_n 0, 1) := by decide +kernel
theorem dX6_init_30 : decode cX6_init 30 = .ok (.iconst 0, 1) := by decide +kernel
theorem dX6_init_31 : decode cX6_init 31 = .ok (.putfield 27, 3) := by decide +kernel
theorem dX6_init_34 : decode cX6_init 34 = .ok (.aload_n 0, 1) := by decide +kernel
theorem dX6_init_35 : decode cX6_init 35 = .ok (.iconst 0, 1) := by decide +kernel
theorem dX6_init_36 : decode cX6_init 36 = .ok (.putfield 30, 3) := by decide +kernel
theorem dX6_init_39 : decode cX6_init 39 = .ok (.return_, 1) := by decide +kernel
theorem dX7_init_0 : decode cX7_init 0 = .ok (.aload_n 0, 1) := by decide +kernel
theorem dX7_init_1 : decode cX7_init 1 = .ok (.invokespecial 3, 3) := by decide +kernel
theorem dX7_init_4 : decode cX7_init 4 = .ok (.aload_n 0, 1) := by decide +kernel
theorem dX7_init_5 : decode cX7_init 5 = .ok (.iconst 0, 1) := by decide +kernel
theorem dX7_init_6 : decode cX7_init 6 = .ok (.putfield 9, 3) := by decide +kernel
theorem dX7_init_9 : decode cX7_init 9 = .ok (.aload_n 0, 1) := by decide +kernel
theorem dX7_init_10 : decode cX7_init 10 = .ok (.iconst 0, 1) := by decide +kernel
theorem dX7_init_11 : decode cX7_init 11 = .ok (.putfield 15, 3) := by decide +kernel
theorem dX7_init_14 : decode cX7_init 14 = .ok (.aload_n 0, 1) := by decide +kernel
theorem dX7_init_15 : decode cX7_init 15 = .ok (.iconst 0, 1) := by decide +kernel
theorem dX7_init_16 : decode cX7_init 16 = .ok (.putfield 18, 3) := by decide +kernel
theorem dX7_init_19 : decode cX7_init 19 = .ok (.aload_n 0, 1) := by decide +kernel
theorem dX7_init_20 : decode cX7_init 20 = .ok (.bipush 32, 2) := by decide +kernel
theorem dX7_init_22 : decode cX7_init 22 = .ok (.newarray .int, 2) := by decide +kernel
theorem dX7_init_24 : decode cX7_init 24 = .ok (.putfield 21, 3) := by decide +kernel
theorem dX7_init_27 : decode cX7_init 27 = .ok (.return_, 1) := by decide +kernel
theorem dX7_isSteady_0 : decode cX7_isSteady 0 = .ok (.aload_n 0, 1) := by decide +kernel
theorem dX7_isSteady_1 : decode cX7_isSteady 1 = .ok (.getfield 18, 3) := by decide +kernel
theorem dX7_isSteady_4 : decode cX7_isSteady 4 = .ok (.bipush 32, 2) := by decide +kernel
theorem dX7_isSteady_6 : decode cX7_isSteady 6 = .ok (.if_icmp .lt 7, 3) := by decide +kernel
theorem dX7_isSteady_9 : decode cX7_isSteady 9 = .ok (.iconst 1, 1) := by decide +kernel
theorem dX7_isSteady_10 : decode cX7_isSteady 10 = .ok (.goto 4, 3) := by decide +kernel
theorem dX7_isSteady_13 : decode cX7_isSteady 13 = .ok (.iconst 0, 1) := by decide +kernel
theorem dX7_isSteady_14 : decode cX7_isSteady 14 = .ok (.ireturn, 1) := by decide +kernel
theorem dX7_sumAbsolutes_0 : decode cX7_sumAbsolutes 0 = .ok (.iconst 0, 1) := by decide +kernel
theorem dX7_sumAbsolutes_1 : decode cX7_sumAbsolutes 1 = .ok (.istore_n 1, 1) := by decide +kernel
theorem dX7_sumAbsolutes_2 : decode cX7_sumAbsolutes 2 = .ok (.iconst 0, 1) := by decide +kernel
theorem dX7_sumAbsolutes_3 : decode cX7_sumAbsolutes 3 = .ok (.istore_n 2, 1) := by decide +kernel
theorem dX7_sumAbsolutes_4 : decode cX7_sumAbsolutes 4 = .ok (.iload_n 2, 1) := by decide +kernel
theorem dX7_sumAbsolutes_5 : decode cX7_sumAbsolutes 5 = .ok (.bipush 32, 2) := by decide +kernel
theorem dX7_sumAbsolutes_7 : decode cX7_sumAbsolutes 7 = .ok (.if_icmp .ge 21, 3) := by decide +kernel
theorem dX7_sumAbsolutes_10 : decode cX7_sumAbsolutes 10 = .ok (.iload_n 1, 1) := by decide +kernel
theorem dX7_sumAbsolutes_11 : decode cX7_sumAbsolutes 11 = .ok (.aload_n 0, 1) := by decide +kernel
theorem dX7_sumAbsolutes_12 : decode cX7_sumAbsolutes 12 = .ok (.getfield 21, 3) := by decide +kernel
theorem dX7_sumAbsolutes_15 : decode cX7_sumAbsolutes 15 = .ok (.iload_n 2, 1) := by decide +kernel
theorem dX7_sumAbsolutes_16 : decode cX7_sumAbsolutes 16 = .ok (.iaload, 1) := by decide +kernel
theorem dX7_sumAbsolutes_17 : decode cX7_sumAbsolutes 17 = .ok (.invokestatic 29, 3) := by decide +kernel
theorem dX7_sumAbsolutes_20 : decode cX7_sumAbsolutes 20 = .ok (.iadd, 1) := by decide +kernel
theorem dX7_sumAbsolutes_21 : decode cX7_sumAbsolutes 21 = .ok (.istore_n 1, 1) := by decide +kernel
theorem dX7_sumAbsolutes_22 : decode cX7_sumAbsolutes 22 = .ok (.iinc 2 1, 3) := by decide +kernel
theorem dX7_sumAbsolutes_25 : decode cX7_sumAbsolutes 25 = .ok (.goto (-21), 3) := by decide +kernel
theorem dX7_sumAbsolutes_28 : decode cX7_sumAbsolutes 28 = .ok (.iload_n 1, 1) := by decide +kernel
theorem dX7_sumAbsolutes_29 : decode cX7_sumAbsolutes 29 = .ok (.ireturn, 1) := by decide +kernel
theorem dX8_init_0 : decode cX8_init 0 = .ok (.aload_n 0, 1) := by decide +kernel
theorem dX8_init_1 : decode cX8_init 1 = .ok (.invokespecial 1, 3) := by decide +kernel
theorem dX8_init_4 : decode cX8_init 4 = .ok (.aload_n 0, 1) := by decide +kernel
theorem dX8_init_5 : decode cX8_init 5 = .ok (.iconst 0, 1) := by decide +kernel
theorem dX8_init_6 : decode cX8_init 6 = .ok (.putfield 7, 3) := by decide +kernel
theorem dX8_init_9 : decode cX8_init 9 = .ok (.aload_n 0, 1) := by decide +kernel
theorem dX8_init_10 : decode cX8_init 10 = .ok (.iconst 0, 1) := by decide +kernel
theorem dX8_init_11 : decode cX8_init 11 = .ok (.putfield 13, 3) := by decide +kernel
theorem dX8_init_14 : decode cX8_init 14 = .ok (.aload_n 0, 1) := by decide +kernel
theorem dX8_init_15 : decode cX8_init 15 = .ok (.iconst 0, 1) := by decide +kernel
theorem dX8_init_16 : decode cX8_init 16 = .ok (.putfield 16, 3) := by decide +kernel
theorem dX8_init_19 : decode cX8_init 19 = .ok (.aload_n 0, 1) := by decide +kernel
theorem dX8_init_20 : decode cX8_init 20 = .ok (.iconst 0, 1) := by decide +kernel
theorem dX8_init_21 : decode cX8_init 21 = .ok (.putfield 20, 3) := by decide +kernel
theorem dX8_init_24 : decode cX8_init 24 = .ok (.return_, 1) := by decide +kernel
theorem dX9_init_0 : decode cX9_init 0 = .ok (.aload_n 0, 1) := by decide +kernel
theorem dX9_init_1 : decode cX9_init 1 = .ok (.invokespecial 3, 3) := by decide +kernel
theorem dX9_init_4 : decode cX9_init 4 = .ok (.aload_n 0, 1) := by decide +kernel
theorem dX9_init_5 : decode cX9_init 5 = .ok (.iconst 0, 1) := by decide +kernel
theorem dX9_init_6 : decode cX9_init 6 = .ok (.putfield 9, 3) := by decide +kernel
theorem dX9_init_9 : decode cX9_init 9 = .ok (.aload_n 0, 1) := by decide +kernel
theorem dX9_init_10 : decode cX9_init 10 = .ok (.sipush 4096, 3) := by decide +kernel
theorem dX9_init_13 : decode cX9_init 13 = .ok (.putfield 15, 3) := by decide +kernel
theorem dX9_init_16 : decode cX9_init 16 = .ok (.aload_n 0, 1) := by decide +kernel
theorem dX9_init_17 : decode cX9_init 17 = .ok (.iconst 0, 1) := by decide +kernel
theorem dX9_init_18 : decode cX9_init 18 = .ok (.putfield 18, 3) := by decide +kernel
theorem dX9_init_21 : decode cX9_init 21 = .ok (.aload_n 0, 1) := by decide +kernel
theorem dX9_init_22 : decode cX9_init 22 = .ok (.lconst 1, 1) := by decide +kernel
theorem dX9_init_23 : decode cX9_init 23 = .ok (.putfield 21, 3) := by decide +kernel
theorem dX9_init_26 : decode cX9_init 26 = .ok (.aload_n 0, 1) := by decide +kernel
theorem dX9_init_27 : decode cX9_init 27 = .ok (.iconst 0, 1) := by decide +kernel
theorem dX9_init_28 : decode cX9_init 28 = .ok (.putfield 25, 3) := by decide +kernel
theorem dX9_init_31 : decode cX9_init 31 = .ok (.aload_n 0, 1) := by decide +kernel
theorem dX9_init_32 : decode cX9_init 32 = .ok (.iconst 1, 1) := by decide +kernel
theorem dX9_init_33 : decode cX9_init 33 = .ok (.putfield 28, 3) := by decide +kernel
theorem dX9_init_36 : decode cX9_init 36 = .ok (.aload_n 0, 1) := by decide +kernel
theorem dX9_init_37 : decode cX9_init 37 = .ok (.bipush 127, 2) := by decide +kernel
theorem dX9_init_39 : decode cX9_init 39 = .ok (.putfield 31, 3) := by decide +kernel
theorem dX9_init_42 : decode cX9_init 42 = .ok (.return_, 1) := by decide +kernel
set_option maxRecDepth 20000 in
theorem ggX10_init_X9_init : GoodIn wsX10_init wsX9_init := goodIn_r _ [45, 46, 2, 3, 47, 48, 49, 50, 51, 52, 53, 116, 117, 118, 119, 120, 121, 122] (by decide +kernel) (by decide +kernel)
set_option maxRecDepth 20000 in
theorem gX10_init_X9_init_n9 : GoodIn wsX10_init (wsX9_init) := ggX10_init_X9_init
set_option maxRecDepth 20000 in
theorem ggX10_init_X3_init : GoodIn wsX10_init wsX3_init := goodIn_r _ [55, 56, 2, 3, 57, 58, 133] (by decide +kernel) (by decide +kernel)
set_option maxRecDepth 20000 in
theorem gX10_init_X3_init_n18 : GoodIn wsX10_init (wsX3_init) := ggX10_init_X3_init
set_option maxRecDepth 20000 in
theorem ggX10_init_X2_init : GoodIn wsX10_init wsX2_init := goodIn_r _ [60, 61, 2, 3, 62, 63, 64, 134, 135] (by decide +kernel) (by decide +kernel)
set_option maxRecDepth 20000 in
theorem gX10_init_X2_init_n25 : GoodIn wsX10_init (wsX2_init) := ggX10_init_X2_init
set_option maxRecDepth 20000 in
theorem ggX10_init_X5_init : GoodIn wsX10_init wsX5_init := goodIn_r _ [66, 67, 2, 3, 68, 136] (by decide +kernel) (by decide +kernel)
set_option maxRecDepth 20000 in
theorem gX10_init_X5_init_n32 : GoodIn wsX10_init (wsX5_init) := ggX10_init_X5_init
set_option maxRecDepth 20000 in
theorem ggX10_init_X6_init : GoodIn wsX10_init wsX6_init := goodIn_r _ [70, 71, 2, 3, 72, 73, 74, 75, 76, 77, 78, 137, 138, 139, 140, 141, 142, 143] (by decide +kernel) (by decide +kernel)
set_option maxRecDepth 20000 in
theorem gX10_init_X6_init_n39 : GoodIn wsX10_init (wsX6_init) := ggX10_init_X6_init
set_option maxRecDepth 20000 in
theorem ggX10_init_X4_init : GoodIn wsX10_init wsX4_init := goodIn_r _ [80, 81, 2, 3, 82, 83, 84, 85, 86, 144, 145, 146, 147, 148] (by decide +kernel) (by decide +kernel)
set_option maxRecDepth 20000 in
theorem gX10_init_X4_init_n46 : GoodIn wsX10_init (wsX4_init) := ggX10_init_X4_init
set_option maxRecDepth 20000 in
theorem ggX10_init_X1_init : GoodIn wsX10_init wsX1_init := goodIn_r _ [88, 89, 2, 3, 90, 91, 149, 150] (by decide +kernel) (by decide +kernel)
set_option maxRecDepth 20000 in
theorem gX10_init_X1_init_n53 : GoodIn wsX10_init (wsX1_init) := ggX10_init_X1_init
set_option maxRecDepth 20000 in
theorem ggX10_init_X8_init : GoodIn wsX10_init wsX8_init := goodIn_r _ [93, 94, 2, 3, 95, 96, 97, 98, 151, 152, 153, 154] (by decide +kernel) (by decide +kernel)
set_option maxRecDepth 20000 in
theorem gX10_init_X8_init_n60 : GoodIn wsX10_init (wsX8_init) := ggX10_init_X8_init
set_option maxRecDepth 20000 in
theorem ggX10_init_X7_init : GoodIn wsX10_init wsX7_init := goodIn_r _ [100, 101, 2, 3, 102, 103, 104, 105, 106, 155, 156, 157, 158] (by decide +kernel) (by decide +kernel)
set_option maxRecDepth 20000 in
theorem gX10_init_X7_init_n67 : GoodIn wsX10_init (wsX7_init) := ggX10_init_X7_init
set_option maxRecDepth 20000 in
theorem ggX10_init_X0_init : GoodIn wsX10_init wsX0_init := goodIn_r _ [108, 109, 2, 3, 110, 111, 112, 113, 114, 115, 159, 160, 161, 162, 163, 164] (by decide +kernel) (by decide +kernel)
set_option maxRecDepth 20000 in
theorem gX10_init_X0_init_n74 : GoodIn wsX10_init (wsX0_init) := ggX10_init_X0_init
theorem dX10_init_0 : decode cX10_init 0 = .ok (.aload_n 0, 1) := by decide +kernel
theorem dX10_init_1 : decode cX10_init 1 = .ok (.invokespecial 1, 3) := by decide +kernel
theorem dX10_init_4 : decode cX10_init 4 = .ok (.aload_n 0, 1) := by decide +kernel
theorem dX10_init_5 : decode cX10_init 5 = .ok (.new 7, 3) := by decide +kernel
theorem dX10_init_8 : decode cX10_init 8 = .ok (.dup, 1) := by decide +kernel
theorem dX10_init_9 : decode cX10_init 9 = .ok (.invokespecial 9, 3) := by decide +kernel
theorem dX10_init_12 : decode cX10_init 12 = .ok (.putfield 10, 3) := by decide +kernel
theorem dX10_init_15 : decode cX10_init 15 = .ok (.aload_n 0, 1) := by decide +kernel
theorem dX10_init_16 : decode cX10_init 16 = .ok (.new 16, 3) := by decide +kernel
theorem dX10_init_19 : decode cX10_init 19 = .ok (.dup, 1) := by decide +kernel
theorem dX10_init_20 : decode cX10_init 20 = .ok (.invokespecial 18, 3) := by decide +kernel
theorem dX10_init_23 : decode cX10_init 23 = .ok (.putfield 19, 3) := by decide +kernel
theorem dX10_init_26 : decode cX10_init 26 = .ok (.aload_n 0, 1) := by decide +kernel
theorem dX10_init_27 : decode cX10_init 27 = .ok (.new 23, 3) := by decide +kernel
theorem dX10_init_30 : decode cX10_init 30 = .ok (.dup, 1) := by decide +kernel
theorem dX10_init_31 : decode cX10_init 31 = .ok (.invokespecial 25, 3) := by decide +kernel
theorem dX10_init_34 : decode cX10_init 34 = .ok (.putfield 26, 3) := by decide +kernel
theorem dX10_init_37 : decode cX10_init 37 = .ok (.aload_n 0, 1) := by decide +kernel
theorem dX10_init_38 : decode cX10_init 38 = .ok (.new 30, 3) := by decide +kernel
theorem dX10_init_41 : decode cX10_init 41 = .ok (.dup, 1) := by decide +kernel
theorem dX10_init_42 : decode cX10_init 42 = .ok (.invokespecial 32, 3) := by decide +kernel
theorem dX10_init_45 : decode cX10_init 45 = .ok (.putfield 33, 3) := by decide +kernel
theorem dX10_init_48 : decode cX10_init 48 = .ok (.aload_n 0, 1) := by decide +kernel
theorem dX10_init_49 : decode cX10_init 49 = .ok (.new 37, 3) := by decide +kernel
theorem dX10_init_52 : decode cX10_init 52 = .ok (.dup, 1) := by decide +kernel
theorem dX10_init_53 : decode cX10_init 53 = .ok (.invokespecial 39, 3) := by decide +kernel
theorem dX10_init_56 : decode cX10_init 56 = .ok (.putfield 40, 3) := by decide +kernel
theorem dX10_init_59 : decode cX10_init 59 = .ok (.aload_n 0, 1) := by decide +kernel
theorem dX10_init_60 : decode cX10_init 60 = .ok (.new 44, 3) := by decide +kernel
theorem dX10_init_63 : decode cX10_init 63 = .ok (.dup, 1) := by decide +kernel
theorem dX10_init_64 : decode cX10_init 64 = .ok (.invokespecial 46, 3) := by decide +kernel
theorem dX10_init_67 : decode cX10_init 67 = .ok (.putfield 47, 3) := by decide +kernel
theorem dX10_init_70 : decode cX10_init 70 = .ok (.aload_n 0, 1) := by decide +kernel
theorem dX10_init_71 : decode cX10_init 71 = .ok (.new 51, 3) := by decide +kernel
theorem dX10_init_74 : decode cX10_init 74 = .ok (.dup, 1) := by decide +kernel
theorem dX10_init_75 : decode cX10_init 75 = .ok (.invokespecial 53, 3) := by decide +kernel
theorem dX10_init_78 : decode cX10_init 78 = .ok (.putfield 54, 3) := by decide +kernel
theorem dX10_init_81 : decode cX10_init 81 = .ok (.aload_n 0, 1) := by decide +kernel
theorem dX10_init_82 : decode cX10_init 82 = .ok (.new 58, 3) := by decide +kernel
theorem dX10_init_85 : decode cX10_init 85 = .ok (.dup, 1) := by decide +kernel
theorem dX10_init_86 : decode cX10_init 86 = .ok (.invokespecial 60, 3) := by decide +kernel
theorem dX10_init_89 : decode cX10_init 89 = .ok (.putfield 61, 3) := by decide +kernel
theorem dX10_init_92 : decode cX10_init 92 = .ok (.aload_n 0, 1) := by decide +kernel
theorem dX10_init_93 : decode cX10_init 93 = .ok (.new 65, 3) := by decide +kernel
theorem dX10_init_96 : decode cX10_init 96 = .ok (.dup, 1) := by decide +kernel
theorem dX10_init_97 : decode cX10_init 97 = .ok (.invokespecial 67, 3) := by decide +kernel
theorem dX10_init_100 : decode cX10_init 100 = .ok (.putfield 68, 3) := by decide +kernel
theorem dX10_init_103 : decode cX10_init 103 = .ok (.aload_n 0, 1) := by decide +kernel
theorem dX10_init_104 : decode cX10_init 104 = .ok (.new 72, 3) := by decide +kernel
theorem dX10_init_107 : decode cX10_init 107 = .ok (.dup, 1) := by decide +kernel
theorem dX10_init_108 : decode cX10_init 108 = .ok (.invokespecial 74, 3) := by decide +kernel
theorem dX10_init_111 : decode cX10_init 111 = .ok (.putfield 75, 3) := by decide +kernel
theorem dX10_init_114 : decode cX10_init 114 = .ok (.return_, 1) := by decide +kernel
theorem dX10_release_0 : decode cX10_release 0 = .ok (.aload_n 0, 1) := by decide +kernel
theorem dX10_release_1 : decode cX10_release 1 = .ok (.getfield 47, 3) := by decide +kernel
theorem dX10_release_4 : decode cX10_release 4 = .ok (.iconst 0, 1) := by decide +kernel
theorem dX10_release_5 : decode cX10_release 5 = .ok (.putfield 126, 3) := by decide +kernel
theorem dX10_release_8 : decode cX10_release 8 = .ok (.aload_n 0, 1) := by decide +kernel
theorem dX10_release_9 : decode cX10_release 9 = .ok (.getfield 47, 3) := by decide +kernel
theorem dX10_release_12 : decode cX10_release 12 = .ok (.iconst 0, 1) := by decide +kernel
theorem dX10_release_13 : decode cX10_release 13 = .ok (.putfield 129, 3) := by decide +kernel
theorem dX10_release_16 : decode cX10_release 16 = .ok (.return_, 1) := by decide +kernel
theorem dX10_ticks_0 : decode cX10_ticks 0 = .ok (.aload_n 0, 1) := by decide +kernel
theorem dX10_ticks_1 : decode cX10_ticks 1 = .ok (.getfield 26, 3) := by decide +kernel
theorem dX10_ticks_4 : decode cX10_ticks 4 = .ok (.getfield 140, 3) := by decide +kernel
theorem dX10_ticks_7 : decode cX10_ticks 7 = .ok (.ireturn, 1) := by decide +kernel
theorem dX10_sent_0 : decode cX10_sent 0 = .ok (.aload_n 0, 1) := by decide +kernel
theorem dX10_sent_1 : decode cX10_sent 1 = .ok (.getfield 10, 3) := by decide +kernel
theorem dX10_sent_4 : decode cX10_sent 4 = .ok (.getfield 143, 3) := by decide +kernel
theorem dX10_sent_7 : decode cX10_sent 7 = .ok (.ireturn, 1) := by decide +kernel
theorem dX10_line_0 : decode cX10_line 0 = .ok (.aload_n 0, 1) := by decide +kernel
theorem dX10_line_1 : decode cX10_line 1 = .ok (.getfield 10, 3) := by decide +kernel
theorem dX10_line_4 : decode cX10_line 4 = .ok (.getfield 146, 3) := by decide +kernel
theorem dX10_line_7 : decode cX10_line 7 = .ok (.ireturn, 1) := by decide +kernel
set_option maxRecDepth 20000 in
theorem ggX10_level_X3_findLevel : GoodIn wsX10_level wsX3_findLevel := goodIn_r _ [6, 7, 8, 9, 10, 11, 12, 13, 14, 25] (by decide +kernel) (by decide +kernel)
set_option maxRecDepth 20000 in
theorem gX10_level_X3_findLevel : GoodIn wsX10_level (wsV RX10 149 RX3 yX3_findLevel wsX3_findLevel) := goodIn_app (goodIn_of _ (by decide +kernel)) ggX10_level_X3_findLevel
theorem dX10_level_0 : decode cX10_level 0 = .ok (.aload_n 0, 1) := by decide +kernel
theorem dX10_level_1 : decode cX10_level 1 = .ok (.getfield 19, 3) := by decide +kernel
theorem dX10_level_4 : decode cX10_level 4 = .ok (.invokevirtual 149, 3) := by decide +kernel
theorem dX10_level_7 : decode cX10_level 7 = .ok (.ireturn, 1) := by decide +kernel
theorem dX10_sender_0 : decode cX10_sender 0 = .ok (.aload_n 0, 1) := by decide +kernel
theorem dX10_sender_1 : decode cX10_sender 1 = .ok (.getfield 10, 3) := by decide +kernel
theorem dX10_sender_4 : decode cX10_sender 4 = .ok (.getfield 153, 3) := by decide +kernel
theorem dX10_sender_7 : decode cX10_sender 7 = .ok (.ireturn, 1) := by decide +kernel
theorem dX10_receiver_0 : decode cX10_receiver 0 = .ok (.aload_n 0, 1) := by decide +kernel
theorem dX10_receiver_1 : decode cX10_receiver 1 = .ok (.getfield 33, 3) := by decide +kernel
theorem dX10_receiver_4 : decode cX10_receiver 4 = .ok (.getfield 123, 3) := by decide +kernel
theorem dX10_receiver_7 : decode cX10_receiver 7 = .ok (.ireturn, 1) := by decide +kernel
theorem dX10_error_0 : decode cX10_error 0 = .ok (.aload_n 0, 1) := by decide +kernel
theorem dX10_error_1 : decode cX10_error 1 = .ok (.getfield 47, 3) := by decide +kernel
theorem dX10_error_4 : decode cX10_error 4 = .ok (.getfield 154, 3) := by decide +kernel
theorem dX10_error_7 : decode cX10_error 7 = .ok (.ireturn, 1) := by decide +kernel
theorem dX10_integral_0 : decode cX10_integral 0 = .ok (.aload_n 0, 1) := by decide +kernel
theorem dX10_integral_1 : decode cX10_integral 1 = .ok (.getfield 47, 3) := by decide +kernel
theorem dX10_integral_4 : decode cX10_integral 4 = .ok (.getfield 126, 3) := by decide +kernel
theorem dX10_integral_7 : decode cX10_integral 7 = .ok (.ireturn, 1) := by decide +kernel
theorem dX10_control_0 : decode cX10_control 0 = .ok (.aload_n 0, 1) := by decide +kernel
theorem dX10_control_1 : decode cX10_control 1 = .ok (.getfield 47, 3) := by decide +kernel
theorem dX10_control_4 : decode cX10_control 4 = .ok (.getfield 129, 3) := by decide +kernel
theorem dX10_control_7 : decode cX10_control 7 = .ok (.ireturn, 1) := by decide +kernel
theorem dX10_received_0 : decode cX10_received 0 = .ok (.aload_n 0, 1) := by decide +kernel
theorem dX10_received_1 : decode cX10_received 1 = .ok (.getfield 54, 3) := by decide +kernel
theorem dX10_received_4 : decode cX10_received 4 = .ok (.getfield 134, 3) := by decide +kernel
theorem dX10_received_7 : decode cX10_received 7 = .ok (.ireturn, 1) := by decide +kernel
set_option maxRecDepth 20000 in
theorem ggX10_bit_X1_remembers : GoodIn wsX10_bit wsX1_remembers := goodIn_r _ [8, 9, 10, 11, 12, 13, 14, 15, 16, 32, 33] (by decide +kernel) (by decide +kernel)
set_option maxRecDepth 20000 in
theorem gX10_bit_X1_remembers : GoodIn wsX10_bit (wsV RX10 157 RX1 yX1_remembers wsX1_remembers) := goodIn_app (goodIn_of _ (by decide +kernel)) ggX10_bit_X1_remembers
set_option maxRecDepth 20000 in
theorem ggX10_bit_X1_findBit : GoodIn wsX10_bit wsX1_findBit := goodIn_r _ [20, 21, 32, 33] (by decide +kernel) (by decide +kernel)
set_option maxRecDepth 20000 in
theorem gX10_bit_X1_findBit : GoodIn wsX10_bit (wsV RX10 166 RX1 yX1_findBit wsX1_findBit) := goodIn_app (goodIn_of _ (by decide +kernel)) ggX10_bit_X1_findBit
theorem dX10_bit_0 : decode cX10_bit 0 = .ok (.aload_n 0, 1) := by decide +kernel
theorem dX10_bit_1 : decode cX10_bit 1 = .ok (.getfield 54, 3) := by decide +kernel
theorem dX10_bit_4 : decode cX10_bit 4 = .ok (.iload_n 1, 1) := by decide +kernel
theorem dX10_bit_5 : decode cX10_bit 5 = .ok (.invokevirtual 157, 3) := by decide +kernel
theorem dX10_bit_8 : decode cX10_bit 8 = .ok (.ifCond .ne 13, 3) := by decide +kernel
theorem dX10_bit_11 : decode cX10_bit 11 = .ok (.new 161, 3) := by decide +kernel
theorem dX10_bit_14 : decode cX10_bit 14 = .ok (.dup, 1) := by decide +kernel
theorem dX10_bit_15 : decode cX10_bit 15 = .ok (.ldc 163, 2) := by decide +kernel
theorem dX10_bit_17 : decode cX10_bit 17 = .ok (.invokespecial 165, 3) := by decide +kernel
theorem dX10_bit_20 : decode cX10_bit 20 = .ok (.athrow, 1) := by decide +kernel
theorem dX10_bit_21 : decode cX10_bit 21 = .ok (.aload_n 0, 1) := by decide +kernel
theorem dX10_bit_22 : decode cX10_bit 22 = .ok (.getfield 54, 3) := by decide +kernel
theorem dX10_bit_25 : decode cX10_bit 25 = .ok (.iload_n 1, 1) := by decide +kernel
theorem dX10_bit_26 : decode cX10_bit 26 = .ok (.invokevirtual 166, 3) := by decide +kernel
theorem dX10_bit_29 : decode cX10_bit 29 = .ok (.ireturn, 1) := by decide +kernel
theorem dX10_phase_0 : decode cX10_phase 0 = .ok (.aload_n 0, 1) := by decide +kernel
theorem dX10_phase_1 : decode cX10_phase 1 = .ok (.getfield 68, 3) := by decide +kernel
theorem dX10_phase_4 : decode cX10_phase 4 = .ok (.getfield 170, 3) := by decide +kernel
theorem dX10_phase_7 : decode cX10_phase 7 = .ok (.ifCond .ne 13, 3) := by decide +kernel
theorem dX10_phase_10 : decode cX10_phase 10 = .ok (.new 171, 3) := by decide +kernel
theorem dX10_phase_13 : decode cX10_phase 13 = .ok (.dup, 1) := by decide +kernel
theorem dX10_phase_14 : decode cX10_phase 14 = .ok (.ldc 173, 2) := by decide +kernel
theorem dX10_phase_16 : decode cX10_phase 16 = .ok (.invokespecial 175, 3) := by decide +kernel
theorem dX10_phase_19 : decode cX10_phase 19 = .ok (.athrow, 1) := by decide +kernel
theorem dX10_phase_20 : decode cX10_phase 20 = .ok (.aload_n 0, 1) := by decide +kernel
theorem dX10_phase_21 : decode cX10_phase 21 = .ok (.getfield 68, 3) := by decide +kernel
theorem dX10_phase_24 : decode cX10_phase 24 = .ok (.getfield 176, 3) := by decide +kernel
theorem dX10_phase_27 : decode cX10_phase 27 = .ok (.ireturn, 1) := by decide +kernel
theorem dX10_repeated_0 : decode cX10_repeated 0 = .ok (.aload_n 0, 1) := by decide +kernel
theorem dX10_repeated_1 : decode cX10_repeated 1 = .ok (.getfield 61, 3) := by decide +kernel
theorem dX10_repeated_4 : decode cX10_repeated 4 = .ok (.getfield 179, 3) := by decide +kernel
theorem dX10_repeated_7 : decode cX10_repeated 7 = .ok (.ireturn, 1) := by decide +kernel
theorem dX10_skipped_0 : decode cX10_skipped 0 = .ok (.aload_n 0, 1) := by decide +kernel
theorem dX10_skipped_1 : decode cX10_skipped 1 = .ok (.getfield 61, 3) := by decide +kernel
theorem dX10_skipped_4 : decode cX10_skipped 4 = .ok (.getfield 182, 3) := by decide +kernel
theorem dX10_skipped_7 : decode cX10_skipped 7 = .ok (.ireturn, 1) := by decide +kernel
set_option maxRecDepth 20000 in
theorem ggX10_isLocked_X7_isSteady : GoodIn wsX10_isLocked wsX7_isSteady := goodIn_r _ [6, 7, 18, 19, 20, 21] (by decide +kernel) (by decide +kernel)
set_option maxRecDepth 20000 in
theorem gX10_isLocked_X7_isSteady : GoodIn wsX10_isLocked (wsV RX10 185 RX7 yX7_isSteady wsX7_isSteady) := goodIn_app (goodIn_of _ (by decide +kernel)) ggX10_isLocked_X7_isSteady
theorem dX10_isLocked_0 : decode cX10_isLocked 0 = .ok (.aload_n 0, 1) := by decide +kernel
theorem dX10_isLocked_1 : decode cX10_isLocked 1 = .ok (.getfield 68, 3) := by decide +kernel
theorem dX10_isLocked_4 : decode cX10_isLocked 4 = .ok (.invokevirtual 185, 3) := by decide +kernel
theorem dX10_isLocked_7 : decode cX10_isLocked 7 = .ok (.ireturn, 1) := by decide +kernel
set_option maxRecDepth 20000 in
theorem ggX10_wander_X7_sumAbsolutes : GoodIn wsX10_wander wsX7_sumAbsolutes := goodIn_r _ [6, 7, 8, 9, 10, 11, 22, 23, 24, 25] (by decide +kernel) (by decide +kernel)
set_option maxRecDepth 20000 in
theorem gX10_wander_X7_sumAbsolutes : GoodIn wsX10_wander (wsV RX10 189 RX7 yX7_sumAbsolutes wsX7_sumAbsolutes) := goodIn_app (goodIn_of _ (by decide +kernel)) ggX10_wander_X7_sumAbsolutes
theorem dX10_wander_0 : decode cX10_wander 0 = .ok (.aload_n 0, 1) := by decide +kernel
theorem dX10_wander_1 : decode cX10_wander 1 = .ok (.getfield 68, 3) := by decide +kernel
theorem dX10_wander_4 : decode cX10_wander 4 = .ok (.invokevirtual 189, 3) := by decide +kernel
theorem dX10_wander_7 : decode cX10_wander 7 = .ok (.ireturn, 1) := by decide +kernel
theorem dX10_alignment_0 : decode cX10_alignment 0 = .ok (.aload_n 0, 1) := by decide +kernel
theorem dX10_alignment_1 : decode cX10_alignment 1 = .ok (.getfield 75, 3) := by decide +kernel
theorem dX10_alignment_4 : decode cX10_alignment 4 = .ok (.getfield 192, 3) := by decide +kernel
theorem dX10_alignment_7 : decode cX10_alignment 7 = .ok (.ireturn, 1) := by decide +kernel
theorem dX10_frames_0 : decode cX10_frames 0 = .ok (.aload_n 0, 1) := by decide +kernel
theorem dX10_frames_1 : decode cX10_frames 1 = .ok (.getfield 75, 3) := by decide +kernel
theorem dX10_frames_4 : decode cX10_frames 4 = .ok (.getfield 195, 3) := by decide +kernel
theorem dX10_frames_7 : decode cX10_frames 7 = .ok (.ireturn, 1) := by decide +kernel
theorem dX10_losses_0 : decode cX10_losses 0 = .ok (.aload_n 0, 1) := by decide +kernel
theorem dX10_losses_1 : decode cX10_losses 1 = .ok (.getfield 75, 3) := by decide +kernel
theorem dX10_losses_4 : decode cX10_losses 4 = .ok (.getfield 198, 3) := by decide +kernel
theorem dX10_losses_7 : decode cX10_losses 7 = .ok (.ireturn, 1) := by decide +kernel
set_option maxRecDepth 20000 in
theorem ggX10_bestPhase_X2_sumCosts : GoodIn wsX10_bestPhase wsX2_sumCosts := goodIn_r _ [6, 7, 8, 9, 5, 10, 11, 12, 13, 14, 25, 26] (by decide +kernel) (by decide +kernel)
set_option maxRecDepth 20000 in
theorem gX10_bestPhase_X2_sumCosts : GoodIn wsX10_bestPhase (wsV RX10 201 RX2 yX2_sumCosts wsX2_sumCosts) := goodIn_app (goodIn_of _ (by decide +kernel)) ggX10_bestPhase_X2_sumCosts
theorem dX10_bestPhase_0 : decode cX10_bestPhase 0 = .ok (.iconst 0, 1) := by decide +kernel
theorem dX10_bestPhase_1 : decode cX10_bestPhase 1 = .ok (.istore_n 1, 1) := by decide +kernel
theorem dX10_bestPhase_2 : decode cX10_bestPhase 2 = .ok (.aload_n 0, 1) := by decide +kernel
theorem dX10_bestPhase_3 : decode cX10_bestPhase 3 = .ok (.getfield 26, 3) := by decide +kernel
theorem dX10_bestPhase_6 : decode cX10_bestPhase 6 = .ok (.iconst 0, 1) := by decide +kernel
theorem dX10_bestPhase_7 : decode cX10_bestPhase 7 = .ok (.invokevirtual 201, 3) := by decide +kernel
theorem dX10_bestPhase_10 : decode cX10_bestPhase 10 = .ok (.istore_n 2, 1) := by decide +kernel
theorem dX10_bestPhase_11 : decode cX10_bestPhase 11 = .ok (.iconst 1, 1) := by decide +kernel
theorem dX10_bestPhase_12 : decode cX10_bestPhase 12 = .ok (.istore_n 3, 1) := by decide +kernel
theorem dX10_bestPhase_13 : decode cX10_bestPhase 13 = .ok (.iload_n 3, 1) := by decide +kernel
theorem dX10_bestPhase_14 : decode cX10_bestPhase 14 = .ok (.bipush 16, 2) := by decide +kernel
theorem dX10_bestPhase_16 : decode cX10_bestPhase 16 = .ok (.if_icmp .ge 30, 3) := by decide +kernel
theorem dX10_bestPhase_19 : decode cX10_bestPhase 19 = .ok (.aload_n 0, 1) := by decide +kernel
theorem dX10_bestPhase_20 : decode cX10_bestPhase 20 = .ok (.getfield 26, 3) := by decide +kernel
theorem dX10_bestPhase_23 : decode cX10_bestPhase 23 = .ok (.iload_n 3, 1) := by decide +kernel
theorem dX10_bestPhase_24 : decode cX10_bestPhase 24 = .ok (.invokevirtual 201, 3) := by decide +kernel
theorem dX10_bestPhase_27 : decode cX10_bestPhase 27 = .ok (.istore 4, 2) := by decide +kernel
theorem dX10_bestPhase_29 : decode cX10_bestPhase 29 = .ok (.iload 4, 2) := by decide +kernel
theorem dX10_bestPhase_31 : decode cX10_bestPhase 31 = .ok (.iload_n 2, 1) := by decide +kernel
theorem dX10_bestPhase_32 : decode cX10_bestPhase 32 = .ok (.if_icmp .ge 8, 3) := by decide +kernel
theorem dX10_bestPhase_35 : decode cX10_bestPhase 35 = .ok (.iload 4, 2) := by decide +kernel
theorem dX10_bestPhase_37 : decode cX10_bestPhase 37 = .ok (.istore_n 2, 1) := by decide +kernel
theorem dX10_bestPhase_38 : decode cX10_bestPhase 38 = .ok (.iload_n 3, 1) := by decide +kernel
theorem dX10_bestPhase_39 : decode cX10_bestPhase 39 = .ok (.istore_n 1, 1) := by decide +kernel
theorem dX10_bestPhase_40 : decode cX10_bestPhase 40 = .ok (.iinc 3 1, 3) := by decide +kernel
theorem dX10_bestPhase_43 : decode cX10_bestPhase 43 = .ok (.goto (-30), 3) := by decide +kernel
theorem dX10_bestPhase_46 : decode cX10_bestPhase 46 = .ok (.iload_n 1, 1) := by decide +kernel
theorem dX10_bestPhase_47 : decode cX10_bestPhase 47 = .ok (.ireturn, 1) := by decide +kernel
set_option maxRecDepth 20000 in
theorem ggX10_cost_X10_isWithin : GoodIn wsX10_cost wsX10_isWithin := goodIn_r _ [7] (by decide +kernel) (by decide +kernel)
set_option maxRecDepth 20000 in
theorem gX10_cost_X10_isWithin : GoodIn wsX10_cost (va_wsS RX10 79 yX10_isWithin wsX10_isWithin) := goodIn_app (goodIn_of _ (by decide +kernel)) ggX10_cost_X10_isWithin
set_option maxRecDepth 20000 in
theorem ggX10_cost_X2_sumCosts : GoodIn wsX10_cost wsX2_sumCosts := goodIn_r _ [12, 13, 14, 15, 11, 16, 17, 18, 19, 20, 31, 32] (by decide +kernel) (by decide +kernel)
set_option maxRecDepth 20000 in
theorem gX10_cost_X2_sumCosts : GoodIn wsX10_cost (wsV RX10 201 RX2 yX2_sumCosts wsX2_sumCosts) := goodIn_app (goodIn_of _ (by decide +kernel)) ggX10_cost_X2_sumCosts
theorem dX10_cost_0 : decode cX10_cost 0 = .ok (.iload_n 1, 1) := by decide +kernel
theorem dX10_cost_1 : decode cX10_cost 1 = .ok (.iconst 0, 1) := by decide +kernel
theorem dX10_cost_2 : decode cX10_cost 2 = .ok (.bipush 15, 2) := by decide +kernel
theorem dX10_cost_4 : decode cX10_cost 4 = .ok (.invokestatic 79, 3) := by decide +kernel
theorem dX10_cost_7 : decode cX10_cost 7 = .ok (.ifCond .ne 13, 3) := by decide +kernel
theorem dX10_cost_10 : decode cX10_cost 10 = .ok (.new 83, 3) := by decide +kernel
theorem dX10_cost_13 : decode cX10_cost 13 = .ok (.dup, 1) := by decide +kernel
theorem dX10_cost_14 : decode cX10_cost 14 = .ok (.ldc 204, 2) := by decide +kernel
theorem dX10_cost_16 : decode cX10_cost 16 = .ok (.invokespecial 87, 3) := by decide +kernel
theorem dX10_cost_19 : decode cX10_cost 19 = .ok (.athrow, 1) := by decide +kernel
theorem dX10_cost_20 : decode cX10_cost 20 = .ok (.aload_n 0, 1) := by decide +kernel
theorem dX10_cost_21 : decode cX10_cost 21 = .ok (.getfield 26, 3) := by decide +kernel
theorem dX10_cost_24 : decode cX10_cost 24 = .ok (.iload_n 1, 1) := by decide +kernel
theorem dX10_cost_25 : decode cX10_cost 25 = .ok (.invokevirtual 201, 3) := by decide +kernel
theorem dX10_cost_28 : decode cX10_cost 28 = .ok (.ireturn, 1) := by decide +kernel
theorem dX10_isWithin_0 : decode cX10_isWithin 0 = .ok (.iload_n 0, 1) := by decide +kernel
theorem dX10_isWithin_1 : decode cX10_isWithin 1 = .ok (.iload_n 1, 1) := by decide +kernel
theorem dX10_isWithin_2 : decode cX10_isWithin 2 = .ok (.if_icmp .lt 12, 3) := by decide +kernel
theorem dX10_isWithin_5 : decode cX10_isWithin 5 = .ok (.iload_n 0, 1) := by decide +kernel
theorem dX10_isWithin_6 : decode cX10_isWithin 6 = .ok (.iload_n 2, 1) := by decide +kernel
theorem dX10_isWithin_7 : decode cX10_isWithin 7 = .ok (.if_icmp .gt 7, 3) := by decide +kernel
theorem dX10_isWithin_10 : decode cX10_isWithin 10 = .ok (.iconst 1, 1) := by decide +kernel
theorem dX10_isWithin_11 : decode cX10_isWithin 11 = .ok (.goto 4, 3) := by decide +kernel
theorem dX10_isWithin_14 : decode cX10_isWithin 14 = .ok (.iconst 0, 1) := by decide +kernel
theorem dX10_isWithin_15 : decode cX10_isWithin 15 = .ok (.ireturn, 1) := by decide +kernel
theorem dJ6_bitCount_0f7a4_0 : decode cJ6_bitCount_0f7a4 0 = .ok (.iload_n 0, 1) := by decide +kernel
theorem dJ6_bitCount_0f7a4_1 : decode cJ6_bitCount_0f7a4 1 = .ok (.iload_n 0, 1) := by decide +kernel
theorem dJ6_bitCount_0f7a4_2 : decode cJ6_bitCount_0f7a4 2 = .ok (.iconst 1, 1) := by decide +kernel
theorem dJ6_bitCount_0f7a4_3 : decode cJ6_bitCount_0f7a4 3 = .ok (.iushr, 1) := by decide +kernel
theorem dJ6_bitCount_0f7a4_4 : decode cJ6_bitCount_0f7a4 4 = .ok (.ldc_w 265, 3) := by decide +kernel
theorem dJ6_bitCount_0f7a4_7 : decode cJ6_bitCount_0f7a4 7 = .ok (.iand, 1) := by decide +kernel
theorem dJ6_bitCount_0f7a4_8 : decode cJ6_bitCount_0f7a4 8 = .ok (.isub, 1) := by decide +kernel
theorem dJ6_bitCount_0f7a4_9 : decode cJ6_bitCount_0f7a4 9 = .ok (.istore_n 0, 1) := by decide +kernel
theorem dJ6_bitCount_0f7a4_10 : decode cJ6_bitCount_0f7a4 10 = .ok (.iload_n 0, 1) := by decide +kernel
theorem dJ6_bitCount_0f7a4_11 : decode cJ6_bitCount_0f7a4 11 = .ok (.ldc_w 266, 3) := by decide +kernel
theorem dJ6_bitCount_0f7a4_14 : decode cJ6_bitCount_0f7a4 14 = .ok (.iand, 1) := by decide +kernel
theorem dJ6_bitCount_0f7a4_15 : decode cJ6_bitCount_0f7a4 15 = .ok (.iload_n 0, 1) := by decide +kernel
theorem dJ6_bitCount_0f7a4_16 : decode cJ6_bitCount_0f7a4 16 = .ok (.iconst 2, 1) := by decide +kernel
theorem dJ6_bitCount_0f7a4_17 : decode cJ6_bitCount_0f7a4 17 = .ok (.iushr, 1) := by decide +kernel
theorem dJ6_bitCount_0f7a4_18 : decode cJ6_bitCount_0f7a4 18 = .ok (.ldc_w 266, 3) := by decide +kernel
theorem dJ6_bitCount_0f7a4_21 : decode cJ6_bitCount_0f7a4 21 = .ok (.iand, 1) := by decide +kernel
theorem dJ6_bitCount_0f7a4_22 : decode cJ6_bitCount_0f7a4 22 = .ok (.iadd, 1) := by decide +kernel
theorem dJ6_bitCount_0f7a4_23 : decode cJ6_bitCount_0f7a4 23 = .ok (.istore_n 0, 1) := by decide +kernel
theorem dJ6_bitCount_0f7a4_24 : decode cJ6_bitCount_0f7a4 24 = .ok (.iload_n 0, 1) := by decide +kernel
theorem dJ6_bitCount_0f7a4_25 : decode cJ6_bitCount_0f7a4 25 = .ok (.iload_n 0, 1) := by decide +kernel
theorem dJ6_bitCount_0f7a4_26 : decode cJ6_bitCount_0f7a4 26 = .ok (.iconst 4, 1) := by decide +kernel
theorem dJ6_bitCount_0f7a4_27 : decode cJ6_bitCount_0f7a4 27 = .ok (.iushr, 1) := by decide +kernel
theorem dJ6_bitCount_0f7a4_28 : decode cJ6_bitCount_0f7a4 28 = .ok (.iadd, 1) := by decide +kernel
theorem dJ6_bitCount_0f7a4_29 : decode cJ6_bitCount_0f7a4 29 = .ok (.ldc_w 267, 3) := by decide +kernel
theorem dJ6_bitCount_0f7a4_32 : decode cJ6_bitCount_0f7a4 32 = .ok (.iand, 1) := by decide +kernel
theorem dJ6_bitCount_0f7a4_33 : decode cJ6_bitCount_0f7a4 33 = .ok (.istore_n 0, 1) := by decide +kernel
theorem dJ6_bitCount_0f7a4_34 : decode cJ6_bitCount_0f7a4 34 = .ok (.iload_n 0, 1) := by decide +kernel
theorem dJ6_bitCount_0f7a4_35 : decode cJ6_bitCount_0f7a4 35 = .ok (.iload_n 0, 1) := by decide +kernel
theorem dJ6_bitCount_0f7a4_36 : decode cJ6_bitCount_0f7a4 36 = .ok (.bipush 8, 2) := by decide +kernel
theorem dJ6_bitCount_0f7a4_38 : decode cJ6_bitCount_0f7a4 38 = .ok (.iushr, 1) := by decide +kernel
theorem dJ6_bitCount_0f7a4_39 : decode cJ6_bitCount_0f7a4 39 = .ok (.iadd, 1) := by decide +kernel
theorem dJ6_bitCount_0f7a4_40 : decode cJ6_bitCount_0f7a4 40 = .ok (.istore_n 0, 1) := by decide +kernel
theorem dJ6_bitCount_0f7a4_41 : decode cJ6_bitCount_0f7a4 41 = .ok (.iload_n 0, 1) := by decide +kernel
theorem dJ6_bitCount_0f7a4_42 : decode cJ6_bitCount_0f7a4 42 = .ok (.iload_n 0, 1) := by decide +kernel
theorem dJ6_bitCount_0f7a4_43 : decode cJ6_bitCount_0f7a4 43 = .ok (.bipush 16, 2) := by decide +kernel
theorem dJ6_bitCount_0f7a4_45 : decode cJ6_bitCount_0f7a4 45 = .ok (.iushr, 1) := by decide +kernel
theorem dJ6_bitCount_0f7a4_46 : decode cJ6_bitCount_0f7a4 46 = .ok (.iadd, 1) := by decide +kernel
theorem dJ6_bitCount_0f7a4_47 : decode cJ6_bitCount_0f7a4 47 = .ok (.istore_n 0, 1) := by decide +kernel
theorem dJ6_bitCount_0f7a4_48 : decode cJ6_bitCount_0f7a4 48 = .ok (.iload_n 0, 1) := by decide +kernel
theorem dJ6_bitCount_0f7a4_49 : decode cJ6_bitCount_0f7a4 49 = .ok (.bipush 63, 2) := by decide +kernel
theorem dJ6_bitCount_0f7a4_51 : decode cJ6_bitCount_0f7a4 51 = .ok (.iand, 1) := by decide +kernel
theorem dJ6_bitCount_0f7a4_52 : decode cJ6_bitCount_0f7a4 52 = .ok (.ireturn, 1) := by decide +kernel
theorem dJ9_floorDiv_7cf53_0 : decode cJ9_floorDiv_7cf53 0 = .ok (.iload_n 0, 1) := by decide +kernel
theorem dJ9_floorDiv_7cf53_1 : decode cJ9_floorDiv_7cf53 1 = .ok (.iload_n 1, 1) := by decide +kernel
theorem dJ9_floorDiv_7cf53_2 : decode cJ9_floorDiv_7cf53 2 = .ok (.idiv, 1) := by decide +kernel
theorem dJ9_floorDiv_7cf53_3 : decode cJ9_floorDiv_7cf53 3 = .ok (.istore_n 2, 1) := by decide +kernel
theorem dJ9_floorDiv_7cf53_4 : decode cJ9_floorDiv_7cf53 4 = .ok (.iload_n 0, 1) := by decide +kernel
theorem dJ9_floorDiv_7cf53_5 : decode cJ9_floorDiv_7cf53 5 = .ok (.iload_n 1, 1) := by decide +kernel
theorem dJ9_floorDiv_7cf53_6 : decode cJ9_floorDiv_7cf53 6 = .ok (.ixor, 1) := by decide +kernel
theorem dJ9_floorDiv_7cf53_7 : decode cJ9_floorDiv_7cf53 7 = .ok (.ifCond .ge 14, 3) := by decide +kernel
theorem dJ9_floorDiv_7cf53_10 : decode cJ9_floorDiv_7cf53 10 = .ok (.iload_n 2, 1) := by decide +kernel
theorem dJ9_floorDiv_7cf53_11 : decode cJ9_floorDiv_7cf53 11 = .ok (.iload_n 1, 1) := by decide +kernel
theorem dJ9_floorDiv_7cf53_12 : decode cJ9_floorDiv_7cf53 12 = .ok (.imul, 1) := by decide +kernel
theorem dJ9_floorDiv_7cf53_13 : decode cJ9_floorDiv_7cf53 13 = .ok (.iload_n 0, 1) := by decide +kernel
theorem dJ9_floorDiv_7cf53_14 : decode cJ9_floorDiv_7cf53 14 = .ok (.if_icmp .eq 7, 3) := by decide +kernel
theorem dJ9_floorDiv_7cf53_17 : decode cJ9_floorDiv_7cf53 17 = .ok (.iload_n 2, 1) := by decide +kernel
theorem dJ9_floorDiv_7cf53_18 : decode cJ9_floorDiv_7cf53 18 = .ok (.iconst 1, 1) := by decide +kernel
theorem dJ9_floorDiv_7cf53_19 : decode cJ9_floorDiv_7cf53 19 = .ok (.isub, 1) := by decide +kernel
theorem dJ9_floorDiv_7cf53_20 : decode cJ9_floorDiv_7cf53 20 = .ok (.ireturn, 1) := by decide +kernel
theorem dJ9_floorDiv_7cf53_21 : decode cJ9_floorDiv_7cf53 21 = .ok (.iload_n 2, 1) := by decide +kernel
theorem dJ9_floorDiv_7cf53_22 : decode cJ9_floorDiv_7cf53 22 = .ok (.ireturn, 1) := by decide +kernel
theorem dJ9_abs_0f7a4_0 : decode cJ9_abs_0f7a4 0 = .ok (.iload_n 0, 1) := by decide +kernel
theorem dJ9_abs_0f7a4_1 : decode cJ9_abs_0f7a4 1 = .ok (.ifCond .ge 8, 3) := by decide +kernel
theorem dJ9_abs_0f7a4_4 : decode cJ9_abs_0f7a4 4 = .ok (.iload_n 0, 1) := by decide +kernel
theorem dJ9_abs_0f7a4_5 : decode cJ9_abs_0f7a4 5 = .ok (.ineg, 1) := by decide +kernel
theorem dJ9_abs_0f7a4_6 : decode cJ9_abs_0f7a4 6 = .ok (.goto 4, 3) := by decide +kernel
theorem dJ9_abs_0f7a4_9 : decode cJ9_abs_0f7a4 9 = .ok (.iload_n 0, 1) := by decide +kernel
theorem dJ9_abs_0f7a4_10 : decode cJ9_abs_0f7a4 10 = .ok (.ireturn, 1) := by decide +kernel
theorem dJ9_max_7cf53_0 : decode cJ9_max_7cf53 0 = .ok (.iload_n 0, 1) := by decide +kernel
theorem dJ9_max_7cf53_1 : decode cJ9_max_7cf53 1 = .ok (.iload_n 1, 1) := by decide +kernel
theorem dJ9_max_7cf53_2 : decode cJ9_max_7cf53 2 = .ok (.if_icmp .lt 7, 3) := by decide +kernel
theorem dJ9_max_7cf53_5 : decode cJ9_max_7cf53 5 = .ok (.iload_n 0, 1) := by decide +kernel
theorem dJ9_max_7cf53_6 : decode cJ9_max_7cf53 6 = .ok (.goto 4, 3) := by decide +kernel
theorem dJ9_max_7cf53_9 : decode cJ9_max_7cf53 9 = .ok (.iload_n 1, 1) := by decide +kernel
theorem dJ9_max_7cf53_10 : decode cJ9_max_7cf53 10 = .ok (.ireturn, 1) := by decide +kernel
theorem dJ9_min_7cf53_0 : decode cJ9_min_7cf53 0 = .ok (.iload_n 0, 1) := by decide +kernel
theorem dJ9_min_7cf53_1 : decode cJ9_min_7cf53 1 = .ok (.iload_n 1, 1) := by decide +kernel
theorem dJ9_min_7cf53_2 : decode cJ9_min_7cf53 2 = .ok (.if_icmp .gt 7, 3) := by decide +kernel
theorem dJ9_min_7cf53_5 : decode cJ9_min_7cf53 5 = .ok (.iload_n 0, 1) := by decide +kernel
theorem dJ9_min_7cf53_6 : decode cJ9_min_7cf53 6 = .ok (.goto 4, 3) := by decide +kernel
theorem dJ9_min_7cf53_9 : decode cJ9_min_7cf53 9 = .ok (.iload_n 1, 1) := by decide +kernel
theorem dJ9_min_7cf53_10 : decode cJ9_min_7cf53 10 = .ok (.ireturn, 1) := by decide +kernel
theorem dL_cell_0 : decode cL_cell 0 = .ok (.iload_n 1, 1) := by decide +kernel
theorem dL_cell_1 : decode cL_cell 1 = .ok (.aload_n 0, 1) := by decide +kernel
theorem dL_cell_2 : decode cL_cell 2 = .ok (.arraylength, 1) := by decide +kernel
theorem dL_cell_3 : decode cL_cell 3 = .ok (.if_icmp .ge 9, 3) := by decide +kernel
theorem dL_cell_6 : decode cL_cell 6 = .ok (.aload_n 0, 1) := by decide +kernel
theorem dL_cell_7 : decode cL_cell 7 = .ok (.iload_n 1, 1) := by decide +kernel
theorem dL_cell_8 : decode cL_cell 8 = .ok (.iaload, 1) := by decide +kernel
theorem dL_cell_9 : decode cL_cell 9 = .ok (.goto 18, 3) := by decide +kernel
theorem dL_cell_12 : decode cL_cell 12 = .ok (.sipush 7919, 3) := by decide +kernel
theorem dL_cell_15 : decode cL_cell 15 = .ok (.iload_n 1, 1) := by decide +kernel
theorem dL_cell_16 : decode cL_cell 16 = .ok (.sipush 167, 3) := by decide +kernel
theorem dL_cell_19 : decode cL_cell 19 = .ok (.iadd, 1) := by decide +kernel
theorem dL_cell_20 : decode cL_cell 20 = .ok (.imul, 1) := by decide +kernel
theorem dL_cell_21 : decode cL_cell 21 = .ok (.iload_n 1, 1) := by decide +kernel
theorem dL_cell_22 : decode cL_cell 22 = .ok (.sipush 2371, 3) := by decide +kernel
theorem dL_cell_25 : decode cL_cell 25 = .ok (.iadd, 1) := by decide +kernel
theorem dL_cell_26 : decode cL_cell 26 = .ok (.imul, 1) := by decide +kernel
theorem dL_cell_27 : decode cL_cell 27 = .ok (.ireturn, 1) := by decide +kernel
theorem dL_low_0 : decode cL_low 0 = .ok (.iload_n 0, 1) := by decide +kernel
theorem dL_low_1 : decode cL_low 1 = .ok (.ldc 7, 2) := by decide +kernel
theorem dL_low_3 : decode cL_low 3 = .ok (.iand, 1) := by decide +kernel
theorem dL_low_4 : decode cL_low 4 = .ok (.iload_n 1, 1) := by decide +kernel
theorem dL_low_5 : decode cL_low 5 = .ok (.irem, 1) := by decide +kernel
theorem dL_low_6 : decode cL_low 6 = .ok (.ireturn, 1) := by decide +kernel
set_option maxRecDepth 20000 in
theorem ggL_bit_X10_bit : GoodIn wsL_bit wsX10_bit := goodIn_ca (goodIn_r _ [7, 8, 9, 10, 11, 12, 13, 14, 15, 16, 17, 18, 19, 20, 21, 6, 22, 23, 24, 25, 26, 27, 28, 29, 30, 31, 32, 33, 34, 35, 36, 37, 38, 39] (by decide +kernel) (by decide +kernel)) (goodIn_sub (fun _ h => List.mem_cons_of_mem _ (List.mem_append_right _ h)) (by decide +kernel))
set_option maxRecDepth 20000 in
theorem gL_bit_X10_bit : GoodIn wsL_bit (wsV RL 33 RX10 yX10_bit wsX10_bit) := goodIn_app (goodIn_of _ (by decide +kernel)) ggL_bit_X10_bit
theorem dL_bit_0 : decode cL_bit 0 = .ok (.aload_n 0, 1) := by decide +kernel
theorem dL_bit_1 : decode cL_bit 1 = .ok (.iload_n 1, 1) := by decide +kernel
theorem dL_bit_2 : decode cL_bit 2 = .ok (.invokevirtual 33, 3) := by decide +kernel
theorem dL_bit_5 : decode cL_bit 5 = .ok (.ireturn, 1) := by decide +kernel
theorem dL_bit_6 : decode cL_bit 6 = .ok (.astore_n 2, 1) := by decide +kernel
theorem dL_bit_7 : decode cL_bit 7 = .ok (.ldc 25, 2) := by decide +kernel
theorem dL_bit_9 : decode cL_bit 9 = .ok (.ireturn, 1) := by decide +kernel
set_option maxRecDepth 20000 in
theorem ggL_phase_X10_phase : GoodIn wsL_phase wsX10_phase := goodIn_ca (goodIn_r _ [7, 8, 9, 10, 11, 12, 13, 14, 15, 16, 17, 18, 19, 20, 21, 22, 23, 24, 25, 26] (by decide +kernel) (by decide +kernel)) (goodIn_sub (fun _ h => List.mem_cons_of_mem _ (List.mem_append_right _ h)) (by decide +kernel))
set_option maxRecDepth 20000 in
theorem gL_phase_X10_phase : GoodIn wsL_phase (wsV RL 38 RX10 yX10_phase wsX10_phase) := goodIn_app (goodIn_of _ (by decide +kernel)) ggL_phase_X10_phase
theorem dL_phase_0 : decode cL_phase 0 = .ok (.aload_n 0, 1) := by decide +kernel
theorem dL_phase_1 : decode cL_phase 1 = .ok (.invokevirtual 38, 3) := by decide +kernel
theorem dL_phase_4 : decode cL_phase 4 = .ok (.ireturn, 1) := by decide +kernel
theorem dL_phase_5 : decode cL_phase 5 = .ok (.astore_n 1, 1) := by decide +kernel
theorem dL_phase_6 : decode cL_phase 6 = .ok (.ldc 25, 2) := by decide +kernel
theorem dL_phase_8 : decode cL_phase 8 = .ok (.ireturn, 1) := by decide +kernel
set_option maxRecDepth 20000 in
theorem ggL_act_L_low : GoodIn wsL_act wsL_low := goodIn_r _ [7, 1] (by decide +kernel) (by decide +kernel)
set_option maxRecDepth 20000 in
theorem gL_act_L_low : GoodIn wsL_act (va_wsS RL 44 yL_low wsL_low) := goodIn_app (goodIn_of _ (by decide +kernel)) ggL_act_L_low
set_option maxRecDepth 20000 in
theorem ggL_act_X10_release : GoodIn wsL_act wsX10_release := goodIn_r _ [279, 51, 280, 52, 281, 282, 283, 284, 285, 286, 287, 288, 289, 290, 308, 309, 310, 311, 312] (by decide +kernel) (by decide +kernel)
set_option maxRecDepth 20000 in
theorem gL_act_X10_release : GoodIn wsL_act (wsV RL 62 RX10 yX10_release wsX10_release) := goodIn_app (goodIn_of _ (by decide +kernel)) ggL_act_X10_release
theorem dL_act_0 : decode cL_act 0 = .ok (.iload_n 1, 1) := by decide +kernel
theorem dL_act_1 : decode cL_act 1 = .ok (.bipush 24, 2) := by decide +kernel
theorem dL_act_3 : decode cL_act 3 = .ok (.ishr, 1) := by decide +kernel
theorem dL_act_4 : decode cL_act 4 = .ok (.bipush 8, 2) := by decide +kernel
theorem dL_act_6 : decode cL_act 6 = .ok (.invokestatic 44, 3) := by decide +kernel
theorem dL_act_9 : decode cL_act 9 = .ok (.ifCond .ne 7, 3) := by decide +kernel
theorem dL_act_12 : decode cL_act 12 = .ok (.iconst 1, 1) := by decide +kernel
theorem dL_act_13 : decode cL_act 13 = .ok (.goto 4, 3) := by decide +kernel
theorem dL_act_16 : decode cL_act 16 = .ok (.iconst 0, 1) := by decide +kernel
theorem dL_act_17 : decode cL_act 17 = .ok (.istore_n 2, 1) := by decide +kernel
theorem dL_act_18 : decode cL_act 18 = .ok (.iload_n 1, 1) := by decide +kernel
theorem dL_act_19 : decode cL_act 19 = .ok (.bipush 14, 2) := by decide +kernel
theorem dL_act_21 : decode cL_act 21 = .ok (.invokestatic 44, 3) := by decide +kernel
theorem dL_act_24 : decode cL_act 24 = .ok (.istore_n 3, 1) := by decide +kernel
theorem dL_act_25 : decode cL_act 25 = .ok (.iload_n 3, 1) := by decide +kernel
theorem dL_act_26 : decode cL_act 26 = .ok (.ifCond .ne 42, 3) := by decide +kernel
theorem dL_act_29 : decode cL_act 29 = .ok (.aload_n 0, 1) := by decide +kernel
theorem dL_act_30 : decode cL_act 30 = .ok (.iconst 0, 1) := by decide +kernel
theorem dL_act_31 : decode cL_act 31 = .ok (.iload_n 1, 1) := by decide +kernel
theorem dL_act_32 : decode cL_act 32 = .ok (.iconst 4, 1) := by decide +kernel
theorem dL_act_33 : decode cL_act 33 = .ok (.ishr, 1) := by decide +kernel
theorem dL_act_34 : decode cL_act 34 = .ok (.iload_n 2, 1) := by decide +kernel
theorem dL_act_35 : decode cL_act 35 = .ok (.ifCond .eq 9, 3) := by decide +kernel
theorem dL_act_38 : decode cL_act 38 = .ok (.sipush 1000, 3) := by decide +kernel
theorem dL_act_41 : decode cL_act 41 = .ok (.goto 6, 3) := by decide +kernel
theorem dL_act_44 : decode cL_act 44 = .ok (.sipush 601, 3) := by decide +kernel
theorem dL_act_47 : decode cL_act 47 = .ok (.invokestatic 44, 3) := by decide +kernel
theorem dL_act_50 : decode cL_act 50 = .ok (.iload_n 2, 1) := by decide +kernel
theorem dL_act_51 : decode cL_act 51 = .ok (.ifCond .eq 9, 3) := by decide +kernel
theorem dL_act_54 : decode cL_act 54 = .ok (.sipush 500, 3) := by decide +kernel
theorem dL_act_57 : decode cL_act 57 = .ok (.goto 6, 3) := by decide +kernel
theorem dL_act_60 : decode cL_act 60 = .ok (.sipush 300, 3) := by decide +kernel
theorem dL_act_63 : decode cL_act 63 = .ok (.isub, 1) := by decide +kernel
theorem dL_act_64 : decode cL_act 64 = .ok (.invokestatic 50, 3) := by decide +kernel
theorem dL_act_67 : decode cL_act 67 = .ok (.ireturn, 1) := by decide +kernel
theorem dL_act_68 : decode cL_act 68 = .ok (.iload_n 3, 1) := by decide +kernel
theorem dL_act_69 : decode cL_act 69 = .ok (.iconst 1, 1) := by decide +kernel
theorem dL_act_70 : decode cL_act 70 = .ok (.if_icmp .ne 53, 3) := by decide +kernel
theorem dL_act_73 : decode cL_act 73 = .ok (.aload_n 0, 1) := by decide +kernel
theorem dL_act_74 : decode cL_act 74 = .ok (.iload_n 1, 1) := by decide +kernel
theorem dL_act_75 : decode cL_act 75 = .ok (.iconst 4, 1) := by decide +kernel
theorem dL_act_76 : decode cL_act 76 = .ok (.ishr, 1) := by decide +kernel
theorem dL_act_77 : decode cL_act 77 = .ok (.iload_n 2, 1) := by decide +kernel
theorem dL_act_78 : decode cL_act 78 = .ok (.ifCond .eq 9, 3) := by decide +kernel
theorem dL_act_81 : decode cL_act 81 = .ok (.sipush 3000, 3) := by decide +kernel
theorem dL_act_84 : decode cL_act 84 = .ok (.goto 20, 3) := by decide +kernel
theorem dL_act_87 : decode cL_act 87 = .ok (.iload_n 1, 1) := by decide +kernel
theorem dL_act_88 : decode cL_act 88 = .ok (.bipush 15, 2) := by decide +kernel
theorem dL_act_90 : decode cL_act 90 = .ok (.ishr, 1) := by decide +kernel
theorem dL_act_91 : decode cL_act 91 = .ok (.iconst 1, 1) := by decide +kernel
theorem dL_act_92 : decode cL_act 92 = .ok (.iand, 1) := by decide +kernel
theorem dL_act_93 : decode cL_act 93 = .ok (.ifCond .ne 9, 3) := by decide +kernel
theorem dL_act_96 : decode cL_act 96 = .ok (.sipush 2001, 3) := by decide +kernel
theorem dL_act_99 : decode cL_act 99 = .ok (.goto 5, 3) := by decide +kernel
theorem dL_act_102 : decode cL_act 102 = .ok (.bipush 100, 2) := by decide +kernel
theorem dL_act_104 : decode cL_act 104 = .ok (.invokestatic 44, 3) := by decide +kernel
theorem dL_act_107 : decode cL_act 107 = .ok (.iload_n 2, 1) := by decide +kernel
theorem dL_act_108 : decode cL_act 108 = .ok (.ifCond .eq 7, 3) := by decide +kernel
theorem dL_act_111 : decode cL_act 111 = .ok (.iload_n 1, 1) := by decide +kernel
theorem dL_act_112 : decode cL_act 112 = .ok (.goto 7, 3) := by decide +kernel
theorem dL_act_115 : decode cL_act 115 = .ok (.iload_n 1, 1) := by decide +kernel
theorem dL_act_116 : decode cL_act 116 = .ok (.ldc 7, 2) := by decide +kernel
theorem dL_act_118 : decode cL_act 118 = .ok (.iand, 1) := by decide +kernel
theorem dL_act_119 : decode cL_act 119 = .ok (.invokestatic 54, 3) := by decide +kernel
theorem dL_act_122 : decode cL_act 122 = .ok (.ireturn, 1) := by decide +kernel
theorem dL_act_123 : decode cL_act 123 = .ok (.iload_n 3, 1) := by decide +kernel
theorem dL_act_124 : decode cL_act 124 = .ok (.iconst 2, 1) := by decide +kernel
theorem dL_act_125 : decode cL_act 125 = .ok (.if_icmp .ne 25, 3) := by decide +kernel
theorem dL_act_128 : decode cL_act 128 = .ok (.aload_n 0, 1) := by decide +kernel
theorem dL_act_129 : decode cL_act 129 = .ok (.iconst 1, 1) := by decide +kernel
theorem dL_act_130 : decode cL_act 130 = .ok (.iload_n 1, 1) := by decide +kernel
theorem dL_act_131 : decode cL_act 131 = .ok (.iconst 4, 1) := by decide +kernel
theorem dL_act_132 : decode cL_act 132 = .ok (.ishr, 1) := by decide +kernel
theorem dL_act_133 : decode cL_act 133 = .ok (.iload_n 2, 1) := by decide +kernel
theorem dL_act_134 : decode cL_act 134 = .ok (.ifCond .eq 8, 3) := by decide +kernel
theorem dL_act_137 : decode cL_act 137 = .ok (.bipush 8, 2) := by decide +kernel
theorem dL_act_139 : decode cL_act 139 = .ok (.goto 4, 3) := by decide +kernel
theorem dL_act_142 : decode cL_act 142 = .ok (.iconst 5, 1) := by decide +kernel
theorem dL_act_143 : decode cL_act 143 = .ok (.invokestatic 44, 3) := by decide +kernel
theorem dL_act_146 : decode cL_act 146 = .ok (.invokestatic 50, 3) := by decide +kernel
theorem dL_act_149 : decode cL_act 149 = .ok (.ireturn, 1) := by decide +kernel
theorem dL_act_150 : decode cL_act 150 = .ok (.iload_n 3, 1) := by decide +kernel
theorem dL_act_151 : decode cL_act 151 = .ok (.iconst 3, 1) := by decide +kernel
theorem dL_act_152 : decode cL_act 152 = .ok (.if_icmp .ne 43, 3) := by decide +kernel
theorem dL_act_155 : decode cL_act 155 = .ok (.aload_n 0, 1) := by decide +kernel
theorem dL_act_156 : decode cL_act 156 = .ok (.iload_n 1, 1) := by decide +kernel
theorem dL_act_157 : decode cL_act 157 = .ok (.iconst 4, 1) := by decide +kernel
theorem dL_act_158 : decode cL_act 158 = .ok (.ishr, 1) := by decide +kernel
theorem dL_act_159 : decode cL_act 159 = .ok (.iload_n 2, 1) := by decide +kernel
theorem dL_act_160 : decode cL_act 160 = .ok (.ifCond .eq 8, 3) := by decide +kernel
theorem dL_act_163 : decode cL_act 163 = .ok (.bipush 80, 2) := by decide +kernel
theorem dL_act_165 : decode cL_act 165 = .ok (.goto 5, 3) := by decide +kernel
theorem dL_act_168 : decode cL_act 168 = .ok (.bipush 65, 2) := by decide +kernel
theorem dL_act_170 : decode cL_act 170 = .ok (.invokestatic 44, 3) := by decide +kernel
theorem dL_act_173 : decode cL_act 173 = .ok (.iload_n 1, 1) := by decide +kernel
theorem dL_act_174 : decode cL_act 174 = .ok (.bipush 11, 2) := by decide +kernel
theorem dL_act_176 : decode cL_act 176 = .ok (.ishr, 1) := by decide +kernel
theorem dL_act_177 : decode cL_act 177 = .ok (.iload_n 2, 1) := by decide +kernel
theorem dL_act_178 : decode cL_act 178 = .ok (.ifCond .eq 8, 3) := by decide +kernel
theorem dL_act_181 : decode cL_act 181 = .ok (.bipush 80, 2) := by decide +kernel
theorem dL_act_183 : decode cL_act 183 = .ok (.goto 5, 3) := by decide +kernel
theorem dL_act_186 : decode cL_act 186 = .ok (.bipush 65, 2) := by decide +kernel
theorem dL_act_188 : decode cL_act 188 = .ok (.invokestatic 44, 3) := by decide +kernel
theorem dL_act_191 : decode cL_act 191 = .ok (.invokestatic 57, 3) := by decide +kernel
theorem dL_act_194 : decode cL_act 194 = .ok (.ireturn, 1) := by decide +kernel
theorem dL_act_195 : decode cL_act 195 = .ok (.iload_n 3, 1) := by decide +kernel
theorem dL_act_196 : decode cL_act 196 = .ok (.iconst 4, 1) := by decide +kernel
theorem dL_act_197 : decode cL_act 197 = .ok (.if_icmp .ne 26, 3) := by decide +kernel
theorem dL_act_200 : decode cL_act 200 = .ok (.aload_n 0, 1) := by decide +kernel
theorem dL_act_201 : decode cL_act 201 = .ok (.iconst 2, 1) := by decide +kernel
theorem dL_act_202 : decode cL_act 202 = .ok (.iload_n 1, 1) := by decide +kernel
theorem dL_act_203 : decode cL_act 203 = .ok (.iconst 4, 1) := by decide +kernel
theorem dL_act_204 : decode cL_act 204 = .ok (.ishr, 1) := by decide +kernel
theorem dL_act_205 : decode cL_act 205 = .ok (.iload_n 2, 1) := by decide +kernel
theorem dL_act_206 : decode cL_act 206 = .ok (.ifCond .eq 8, 3) := by decide +kernel
theorem dL_act_209 : decode cL_act 209 = .ok (.ldc 60, 2) := by decide +kernel
theorem dL_act_211 : decode cL_act 211 = .ok (.goto 5, 3) := by decide +kernel
theorem dL_act_214 : decode cL_act 214 = .ok (.ldc 61, 2) := by decide +kernel
theorem dL_act_216 : decode cL_act 216 = .ok (.invokestatic 44, 3) := by decide +kernel
theorem dL_act_219 : decode cL_act 219 = .ok (.invokestatic 50, 3) := by decide +kernel
theorem dL_act_222 : decode cL_act 222 = .ok (.ireturn, 1) := by decide +kernel
theorem dL_act_223 : decode cL_act 223 = .ok (.iload_n 3, 1) := by decide +kernel
theorem dL_act_224 : decode cL_act 224 = .ok (.iconst 5, 1) := by decide +kernel
theorem dL_act_225 : decode cL_act 225 = .ok (.if_icmp .ne 9, 3) := by decide +kernel
theorem dL_act_228 : decode cL_act 228 = .ok (.aload_n 0, 1) := by decide +kernel
theorem dL_act_229 : decode cL_act 229 = .ok (.invokevirtual 62, 3) := by decide +kernel
theorem dL_act_232 : decode cL_act 232 = .ok (.iconst 0, 1) := by decide +kernel
theorem dL_act_233 : decode cL_act 233 = .ok (.ireturn, 1) := by decide +kernel
theorem dL_act_234 : decode cL_act 234 = .ok (.aload_n 0, 1) := by decide +kernel
theorem dL_act_235 : decode cL_act 235 = .ok (.iconst 3, 1) := by decide +kernel
theorem dL_act_236 : decode cL_act 236 = .ok (.iload_n 2, 1) := by decide +kernel
theorem dL_act_237 : decode cL_act 237 = .ok (.ifCond .eq 17, 3) := by decide +kernel
theorem dL_act_240 : decode cL_act 240 = .ok (.iload_n 1, 1) := by decide +kernel
theorem dL_act_241 : decode cL_act 241 = .ok (.iconst 4, 1) := by decide +kernel
theorem dL_act_242 : decode cL_act 242 = .ok (.ishr, 1) := by decide +kernel
theorem dL_act_243 : decode cL_act 243 = .ok (.iconst 3, 1) := by decide +kernel
theorem dL_act_244 : decode cL_act 244 = .ok (.invokestatic 44, 3) := by decide +kernel
theorem dL_act_247 : decode cL_act 247 = .ok (.sipush 801, 3) := by decide +kernel
theorem dL_act_250 : decode cL_act 250 = .ok (.imul, 1) := by decide +kernel
theorem dL_act_251 : decode cL_act 251 = .ok (.goto 25, 3) := by decide +kernel
theorem dL_act_254 : decode cL_act 254 = .ok (.iconst 1, 1) := by decide +kernel
theorem dL_act_255 : decode cL_act 255 = .ok (.iload_n 1, 1) := by decide +kernel
theorem dL_act_256 : decode cL_act 256 = .ok (.iconst 4, 1) := by decide +kernel
theorem dL_act_257 : decode cL_act 257 = .ok (.ishr, 1) := by decide +kernel
theorem dL_act_258 : decode cL_act 258 = .ok (.iload_n 3, 1) := by decide +kernel
theorem dL_act_259 : decode cL_act 259 = .ok (.bipush 6, 2) := by decide +kernel
theorem dL_act_261 : decode cL_act 261 = .ok (.if_icmp .ne 9, 3) := by decide +kernel
theorem dL_act_264 : decode cL_act 264 = .ok (.sipush 500, 3) := by decide +kernel
theorem dL_act_267 : decode cL_act 267 = .ok (.goto 5, 3) := by decide +kernel
theorem dL_act_270 : decode cL_act 270 = .ok (.bipush 70, 2) := by decide +kernel
theorem dL_act_272 : decode cL_act 272 = .ok (.invokestatic 44, 3) := by decide +kernel
theorem dL_act_275 : decode cL_act 275 = .ok (.iadd, 1) := by decide +kernel
theorem dL_act_276 : decode cL_act 276 = .ok (.invokestatic 50, 3) := by decide +kernel
theorem dL_act_279 : decode cL_act 279 = .ok (.ireturn, 1) := by decide +kernel
set_option maxRecDepth 20000 in
theorem ggL_areAlike_X10_ticks : GoodIn wsL_areAlike wsX10_ticks := goodIn_r _ [5, 6, 7, 146, 147, 148, 149, 150, 151, 152, 153, 154, 155, 156, 157] (by decide +kernel) (by decide +kernel)
set_option maxRecDepth 20000 in
theorem gL_areAlike_X10_ticks : GoodIn wsL_areAlike (wsV RL 65 RX10 yX10_ticks wsX10_ticks) := goodIn_app (goodIn_of _ (by decide +kernel)) ggL_areAlike_X10_ticks
set_option maxRecDepth 20000 in
theorem ggL_areAlike_X10_sent : GoodIn wsL_areAlike wsX10_sent := goodIn_r _ [11, 12, 13, 146, 147, 148, 149, 150, 151, 152, 153, 154, 155, 158, 159, 160, 161, 162, 163, 164] (by decide +kernel) (by decide +kernel)
set_option maxRecDepth 20000 in
theorem gL_areAlike_X10_sent : GoodIn wsL_areAlike (wsV RL 68 RX10 yX10_sent wsX10_sent) := goodIn_app (goodIn_of _ (by decide +kernel)) ggL_areAlike_X10_sent
set_option maxRecDepth 20000 in
theorem ggL_areAlike_X10_sender : GoodIn wsL_areAlike wsX10_sender := goodIn_r _ [17, 12, 18, 146, 147, 148, 149, 150, 151, 152, 153, 154, 155, 158, 159, 160, 161, 162, 163, 164] (by decide +kernel) (by decide +kernel)
set_option maxRecDepth 20000 in
theorem gL_areAlike_X10_sender : GoodIn wsL_areAlike (wsV RL 71 RX10 yX10_sender wsX10_sender) := goodIn_app (goodIn_of _ (by decide +kernel)) ggL_areAlike_X10_sender
set_option maxRecDepth 20000 in
theorem ggL_areAlike_X10_receiver : GoodIn wsL_areAlike wsX10_receiver := goodIn_r _ [22, 23, 24, 146, 147, 148, 149, 150, 151, 152, 153, 154, 155, 165] (by decide +kernel) (by decide +kernel)
set_option maxRecDepth 20000 in
theorem gL_areAlike_X10_receiver : GoodIn wsL_areAlike (wsV RL 74 RX10 yX10_receiver wsX10_receiver) := goodIn_app (goodIn_of _ (by decide +kernel)) ggL_areAlike_X10_receiver
set_option maxRecDepth 20000 in
theorem ggL_areAlike_X10_error : GoodIn wsL_areAlike wsX10_error := goodIn_r _ [28, 29, 30, 146, 147, 148, 149, 150, 151, 152, 153, 154, 155, 166, 167, 168, 169, 170] (by decide +kernel) (by decide +kernel)
set_option maxRecDepth 20000 in
theorem gL_areAlike_X10_error : GoodIn wsL_areAlike (wsV RL 77 RX10 yX10_error wsX10_error) := goodIn_app (goodIn_of _ (by decide +kernel)) ggL_areAlike_X10_error
set_option maxRecDepth 20000 in
theorem ggL_areAlike_X10_integral : GoodIn wsL_areAlike wsX10_integral := goodIn_r _ [34, 29, 35, 146, 147, 148, 149, 150, 151, 152, 153, 154, 155, 166, 167, 168, 169, 170] (by decide +kernel) (by decide +kernel)
set_option maxRecDepth 20000 in
theorem gL_areAlike_X10_integral : GoodIn wsL_areAlike (wsV RL 80 RX10 yX10_integral wsX10_integral) := goodIn_app (goodIn_of _ (by decide +kernel)) ggL_areAlike_X10_integral
set_option maxRecDepth 20000 in
theorem ggL_areAlike_X10_control : GoodIn wsL_areAlike wsX10_control := goodIn_r _ [39, 29, 40, 146, 147, 148, 149, 150, 151, 152, 153, 154, 155, 166, 167, 168, 169, 170] (by decide +kernel) (by decide +kernel)
set_option maxRecDepth 20000 in
theorem gL_areAlike_X10_control : GoodIn wsL_areAlike (wsV RL 83 RX10 yX10_control wsX10_control) := goodIn_app (goodIn_of _ (by decide +kernel)) ggL_areAlike_X10_control
set_option maxRecDepth 20000 in
theorem ggL_areAlike_X10_received : GoodIn wsL_areAlike wsX10_received := goodIn_r _ [44, 45, 46, 146, 147, 148, 149, 150, 151, 152, 153, 154, 155, 171, 172] (by decide +kernel) (by decide +kernel)
set_option maxRecDepth 20000 in
theorem gL_areAlike_X10_received : GoodIn wsL_areAlike (wsV RL 86 RX10 yX10_received wsX10_received) := goodIn_app (goodIn_of _ (by decide +kernel)) ggL_areAlike_X10_received
set_option maxRecDepth 20000 in
theorem ggL_areAlike_X10_repeated : GoodIn wsL_areAlike wsX10_repeated := goodIn_r _ [50, 51, 52, 146, 147, 148, 149, 150, 151, 152, 153, 154, 155, 173, 174, 175, 176] (by decide +kernel) (by decide +kernel)
set_option maxRecDepth 20000 in
theorem gL_areAlike_X10_repeated : GoodIn wsL_areAlike (wsV RL 89 RX10 yX10_repeated wsX10_repeated) := goodIn_app (goodIn_of _ (by decide +kernel)) ggL_areAlike_X10_repeated
set_option maxRecDepth 20000 in
theorem ggL_areAlike_X10_skipped : GoodIn wsL_areAlike wsX10_skipped := goodIn_r _ [56, 51, 57, 146, 147, 148, 149, 150, 151, 152, 153, 154, 155, 173, 174, 175, 176] (by decide +kernel) (by decide +kernel)
set_option maxRecDepth 20000 in
theorem gL_areAlike_X10_skipped : GoodIn wsL_areAlike (wsV RL 92 RX10 yX10_skipped wsX10_skipped) := goodIn_app (goodIn_of _ (by decide +kernel)) ggL_areAlike_X10_skipped
set_option maxRecDepth 20000 in
theorem ggL_areAlike_X10_wander : GoodIn wsL_areAlike wsX10_wander := goodIn_r _ [61, 62, 63, 64, 65, 66, 67, 68, 69, 70, 71, 72, 146, 147, 148, 149, 150, 151, 152, 153, 154, 155, 177, 178, 179, 180] (by decide +kernel) (by decide +kernel)
set_option maxRecDepth 20000 in
theorem gL_areAlike_X10_wander : GoodIn wsL_areAlike (wsV RL 95 RX10 yX10_wander wsX10_wander) := goodIn_app (goodIn_of _ (by decide +kernel)) ggL_areAlike_X10_wander
set_option maxRecDepth 20000 in
theorem ggL_areAlike_X10_alignment : GoodIn wsL_areAlike wsX10_alignment := goodIn_r _ [76, 77, 78, 146, 147, 148, 149, 150, 151, 152, 153, 154, 155, 181, 182, 183, 184, 185, 186] (by decide +kernel) (by decide +kernel)
set_option maxRecDepth 20000 in
theorem gL_areAlike_X10_alignment : GoodIn wsL_areAlike (wsV RL 98 RX10 yX10_alignment wsX10_alignment) := goodIn_app (goodIn_of _ (by decide +kernel)) ggL_areAlike_X10_alignment
set_option maxRecDepth 20000 in
theorem ggL_areAlike_X10_frames : GoodIn wsL_areAlike wsX10_frames := goodIn_r _ [82, 77, 83, 146, 147, 148, 149, 150, 151, 152, 153, 154, 155, 181, 182, 183, 184, 185, 186] (by decide +kernel) (by decide +kernel)
set_option maxRecDepth 20000 in
theorem gL_areAlike_X10_frames : GoodIn wsL_areAlike (wsV RL 101 RX10 yX10_frames wsX10_frames) := goodIn_app (goodIn_of _ (by decide +kernel)) ggL_areAlike_X10_frames
set_option maxRecDepth 20000 in
theorem ggL_areAlike_X10_losses : GoodIn wsL_areAlike wsX10_losses := goodIn_r _ [87, 77, 88, 146, 147, 148, 149, 150, 151, 152, 153, 154, 155, 181, 182, 183, 184, 185, 186] (by decide +kernel) (by decide +kernel)
set_option maxRecDepth 20000 in
theorem gL_areAlike_X10_losses : GoodIn wsL_areAlike (wsV RL 104 RX10 yX10_losses wsX10_losses) := goodIn_app (goodIn_of _ (by decide +kernel)) ggL_areAlike_X10_losses
set_option maxRecDepth 20000 in
theorem ggL_areAlike_L_bit : GoodIn wsL_areAlike wsL_bit := goodIn_ca (goodIn_r _ [92, 93, 94, 95, 96, 97, 4, 98, 99, 100, 45, 101, 102, 103, 104, 105, 106, 107, 108, 71, 109, 110, 111, 112, 113, 114, 115, 116, 146, 147, 148, 149, 150, 151, 152, 153, 154, 155, 171, 172] (by decide +kernel) (by decide +kernel)) (goodIn_sub (fun _ h => List.mem_cons_of_mem _ (List.mem_append_left _ (List.mem_append_left _ (List.mem_append_right _ h)))) (by decide +kernel))
set_option maxRecDepth 20000 in
theorem gL_areAlike_L_bit : GoodIn wsL_areAlike (va_wsS RL 107 yL_bit wsL_bit) := goodIn_app (goodIn_of _ (by decide +kernel)) ggL_areAlike_L_bit
set_option maxRecDepth 20000 in
theorem ggL_areAlike_X10_cost : GoodIn wsL_areAlike wsX10_cost := goodIn_ca (goodIn_r _ [120, 121, 122, 6, 123, 110, 4, 111, 124, 125, 126, 127, 128, 129, 130, 131, 132, 133, 108, 71, 109, 146, 147, 148, 149, 150, 151, 152, 153, 154, 155, 156, 157] (by decide +kernel) (by decide +kernel)) (goodIn_sub (fun _ h => List.mem_cons_of_mem _ (List.mem_append_left _ (List.mem_append_right _ h))) (by decide +kernel))
set_option maxRecDepth 20000 in
theorem gL_areAlike_X10_cost : GoodIn wsL_areAlike (wsV RL 110 RX10 yX10_cost wsX10_cost) := goodIn_app (goodIn_of _ (by decide +kernel)) ggL_areAlike_X10_cost
set_option maxRecDepth 20000 in
theorem ggL_areAlike_L_phase : GoodIn wsL_areAlike wsL_phase := goodIn_ca (goodIn_r _ [136, 137, 94, 138, 139, 140, 4, 141, 142, 143, 62, 144, 145, 146, 147, 148, 149, 150, 151, 152, 153, 154, 155, 177, 178, 179, 180] (by decide +kernel) (by decide +kernel)) (goodIn_sub (fun _ h => List.mem_cons_of_mem _ (List.mem_append_right _ h)) (by decide +kernel))
set_option maxRecDepth 20000 in
theorem gL_areAlike_L_phase : GoodIn wsL_areAlike (va_wsS RL 113 yL_phase wsL_phase) := goodIn_app (goodIn_of _ (by decide +kernel)) ggL_areAlike_L_phase
theorem dL_areAlike_0 : decode cL_areAlike 0 = .ok (.aload_n 0, 1) := by decide +kernel
theorem dL_areAlike_1 : decode cL_areAlike 1 = .ok (.invokevirtual 65, 3) := by decide +kernel
theorem dL_areAlike_4 : decode cL_areAlike 4 = .ok (.aload_n 1, 1) := by decide +kernel
theorem dL_areAlike_5 : decode cL_areAlike 5 = .ok (.invokevirtual 65, 3) := by decide +kernel
theorem dL_areAlike_8 : decode cL_areAlike 8 = .ok (.if_icmp .ne 150, 3) := by decide +kernel
