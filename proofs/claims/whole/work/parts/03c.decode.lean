theorem dX0_init_0 : decode cX0_init 0 = .ok (.aload_n 0, 1) := by decide +kernel
theorem dX0_init_1 : decode cX0_init 1 = .ok (.invokespecial 3, 3) := by decide +kernel
theorem dX0_init_4 : decode cX0_init 4 = .ok (.aload_n 0, 1) := by decide +kernel
theorem dX0_init_5 : decode cX0_init 5 = .ok (.iconst 0, 1) := by decide +kernel
theorem dX0_init_6 : decode cX0_init 6 = .ok (.putfield 11, 3) := by decide +kernel
theorem dX0_init_9 : decode cX0_init 9 = .ok (.aload_n 0, 1) := by decide +kernel
theorem dX0_init_10 : decode cX0_init 10 = .ok (.iconst 0, 1) := by decide +kernel
theorem dX0_init_11 : decode cX0_init 11 = .ok (.putfield 15, 3) := by decide +kernel
theorem dX0_init_14 : decode cX0_init 14 = .ok (.aload_n 0, 1) := by decide +kernel
theorem dX0_init_15 : decode cX0_init 15 = .ok (.iconst 0, 1) := by decide +kernel
theorem dX0_init_16 : decode cX0_init 16 = .ok (.putfield 18, 3) := by decide +kernel
theorem dX0_init_19 : decode cX0_init 19 = .ok (.aload_n 0, 1) := by decide +kernel
theorem dX0_init_20 : decode cX0_init 20 = .ok (.iconst 0, 1) := by decide +kernel
theorem dX0_init_21 : decode cX0_init 21 = .ok (.putfield 21, 3) := by decide +kernel
theorem dX0_init_24 : decode cX0_init 24 = .ok (.aload_n 0, 1) := by decide +kernel
theorem dX0_init_25 : decode cX0_init 25 = .ok (.iconst 0, 1) := by decide +kernel
theorem dX0_init_26 : decode cX0_init 26 = .ok (.putfield 24, 3) := by decide +kernel
theorem dX0_init_29 : decode cX0_init 29 = .ok (.aload_n 0, 1) := by decide +kernel
theorem dX0_init_30 : decode cX0_init 30 = .ok (.iconst 0, 1) := by decide +kernel
theorem dX0_init_31 : decode cX0_init 31 = .ok (.putfield 27, 3) := by decide +kernel
theorem dX0_init_34 : decode cX0_init 34 = .ok (.return_, 1) := by decide +kernel
set_option maxRecDepth 20000 in
theorem ggX0_take_X0_verify : GoodIn wsX0_take wsX0_verify := goodIn_r _ [8, 1, 3, 9, 16, 17, 18, 19, 20, 21] (by decide +kernel) (by decide +kernel)
set_option maxRecDepth 20000 in
theorem gX0_take_X0_verify : GoodIn wsX0_take (wsV RX0 30 RX0 yX0_verify wsX0_verify) := goodIn_app (goodIn_of _ (by decide +kernel)) ggX0_take_X0_verify
set_option maxRecDepth 20000 in
theorem ggX0_take_X0_watchSync : GoodIn wsX0_take wsX0_watchSync := goodIn_r _ [13, 14, 9, 1, 15, 16, 17, 18, 19, 20, 21] (by decide +kernel) (by decide +kernel)
set_option maxRecDepth 20000 in
theorem gX0_take_X0_watchSync : GoodIn wsX0_take (wsV RX0 34 RX0 yX0_watchSync wsX0_watchSync) := goodIn_app (goodIn_of _ (by decide +kernel)) ggX0_take_X0_watchSync
theorem dX0_take_0 : decode cX0_take 0 = .ok (.aload_n 0, 1) := by decide +kernel
theorem dX0_take_1 : decode cX0_take 1 = .ok (.getfield 11, 3) := by decide +kernel
theorem dX0_take_4 : decode cX0_take 4 = .ok (.ifCond .ne 23, 3) := by decide +kernel
theorem dX0_take_7 : decode cX0_take 7 = .ok (.iload_n 1, 1) := by decide +kernel
theorem dX0_take_8 : decode cX0_take 8 = .ok (.ifCond .eq 18, 3) := by decide +kernel
theorem dX0_take_11 : decode cX0_take 11 = .ok (.aload_n 0, 1) := by decide +kernel
theorem dX0_take_12 : decode cX0_take 12 = .ok (.iconst 1, 1) := by decide +kernel
theorem dX0_take_13 : decode cX0_take 13 = .ok (.putfield 11, 3) := by decide +kernel
theorem dX0_take_16 : decode cX0_take 16 = .ok (.aload_n 0, 1) := by decide +kernel
theorem dX0_take_17 : decode cX0_take 17 = .ok (.iconst 0, 1) := by decide +kernel
theorem dX0_take_18 : decode cX0_take 18 = .ok (.putfield 21, 3) := by decide +kernel
theorem dX0_take_21 : decode cX0_take 21 = .ok (.aload_n 0, 1) := by decide +kernel
theorem dX0_take_22 : decode cX0_take 22 = .ok (.iconst 0, 1) := by decide +kernel
theorem dX0_take_23 : decode cX0_take 23 = .ok (.putfield 24, 3) := by decide +kernel
theorem dX0_take_26 : decode cX0_take 26 = .ok (.return_, 1) := by decide +kernel
theorem dX0_take_27 : decode cX0_take 27 = .ok (.aload_n 0, 1) := by decide +kernel
theorem dX0_take_28 : decode cX0_take 28 = .ok (.dup, 1) := by decide +kernel
theorem dX0_take_29 : decode cX0_take 29 = .ok (.getfield 21, 3) := by decide +kernel
theorem dX0_take_32 : decode cX0_take 32 = .ok (.iconst 1, 1) := by decide +kernel
theorem dX0_take_33 : decode cX0_take 33 = .ok (.iadd, 1) := by decide +kernel
theorem dX0_take_34 : decode cX0_take 34 = .ok (.putfield 21, 3) := by decide +kernel
theorem dX0_take_37 : decode cX0_take 37 = .ok (.aload_n 0, 1) := by decide +kernel
theorem dX0_take_38 : decode cX0_take 38 = .ok (.getfield 21, 3) := by decide +kernel
theorem dX0_take_41 : decode cX0_take 41 = .ok (.bipush 24, 2) := by decide +kernel
theorem dX0_take_43 : decode cX0_take 43 = .ok (.if_icmp .ge 4, 3) := by decide +kernel
theorem dX0_take_46 : decode cX0_take 46 = .ok (.return_, 1) := by decide +kernel
theorem dX0_take_47 : decode cX0_take 47 = .ok (.aload_n 0, 1) := by decide +kernel
theorem dX0_take_48 : decode cX0_take 48 = .ok (.iconst 0, 1) := by decide +kernel
theorem dX0_take_49 : decode cX0_take 49 = .ok (.putfield 21, 3) := by decide +kernel
theorem dX0_take_52 : decode cX0_take 52 = .ok (.aload_n 0, 1) := by decide +kernel
theorem dX0_take_53 : decode cX0_take 53 = .ok (.getfield 11, 3) := by decide +kernel
theorem dX0_take_56 : decode cX0_take 56 = .ok (.iconst 1, 1) := by decide +kernel
theorem dX0_take_57 : decode cX0_take 57 = .ok (.if_icmp .ne 11, 3) := by decide +kernel
theorem dX0_take_60 : decode cX0_take 60 = .ok (.aload_n 0, 1) := by decide +kernel
theorem dX0_take_61 : decode cX0_take 61 = .ok (.iload_n 1, 1) := by decide +kernel
theorem dX0_take_62 : decode cX0_take 62 = .ok (.invokevirtual 30, 3) := by decide +kernel
theorem dX0_take_65 : decode cX0_take 65 = .ok (.goto 8, 3) := by decide +kernel
theorem dX0_take_68 : decode cX0_take 68 = .ok (.aload_n 0, 1) := by decide +kernel
theorem dX0_take_69 : decode cX0_take 69 = .ok (.iload_n 1, 1) := by decide +kernel
theorem dX0_take_70 : decode cX0_take 70 = .ok (.invokevirtual 34, 3) := by decide +kernel
theorem dX0_take_73 : decode cX0_take 73 = .ok (.return_, 1) := by decide +kernel
theorem dX0_verify_0 : decode cX0_verify 0 = .ok (.iload_n 1, 1) := by decide +kernel
theorem dX0_verify_1 : decode cX0_verify 1 = .ok (.ifCond .ne 9, 3) := by decide +kernel
theorem dX0_verify_4 : decode cX0_verify 4 = .ok (.aload_n 0, 1) := by decide +kernel
theorem dX0_verify_5 : decode cX0_verify 5 = .ok (.iconst 0, 1) := by decide +kernel
theorem dX0_verify_6 : decode cX0_verify 6 = .ok (.putfield 11, 3) := by decide +kernel
theorem dX0_verify_9 : decode cX0_verify 9 = .ok (.return_, 1) := by decide +kernel
theorem dX0_verify_10 : decode cX0_verify 10 = .ok (.aload_n 0, 1) := by decide +kernel
theorem dX0_verify_11 : decode cX0_verify 11 = .ok (.dup, 1) := by decide +kernel
theorem dX0_verify_12 : decode cX0_verify 12 = .ok (.getfield 24, 3) := by decide +kernel
theorem dX0_verify_15 : decode cX0_verify 15 = .ok (.iconst 1, 1) := by decide +kernel
theorem dX0_verify_16 : decode cX0_verify 16 = .ok (.iadd, 1) := by decide +kernel
theorem dX0_verify_17 : decode cX0_verify 17 = .ok (.putfield 24, 3) := by decide +kernel
theorem dX0_verify_20 : decode cX0_verify 20 = .ok (.aload_n 0, 1) := by decide +kernel
theorem dX0_verify_21 : decode cX0_verify 21 = .ok (.getfield 24, 3) := by decide +kernel
theorem dX0_verify_24 : decode cX0_verify 24 = .ok (.iconst 2, 1) := by decide +kernel
theorem dX0_verify_25 : decode cX0_verify 25 = .ok (.if_icmp .ne 13, 3) := by decide +kernel
theorem dX0_verify_28 : decode cX0_verify 28 = .ok (.aload_n 0, 1) := by decide +kernel
theorem dX0_verify_29 : decode cX0_verify 29 = .ok (.iconst 2, 1) := by decide +kernel
theorem dX0_verify_30 : decode cX0_verify 30 = .ok (.putfield 11, 3) := by decide +kernel
theorem dX0_verify_33 : decode cX0_verify 33 = .ok (.aload_n 0, 1) := by decide +kernel
theorem dX0_verify_34 : decode cX0_verify 34 = .ok (.iconst 0, 1) := by decide +kernel
theorem dX0_verify_35 : decode cX0_verify 35 = .ok (.putfield 27, 3) := by decide +kernel
theorem dX0_verify_38 : decode cX0_verify 38 = .ok (.return_, 1) := by decide +kernel
theorem dX0_watchSync_0 : decode cX0_watchSync 0 = .ok (.iload_n 1, 1) := by decide +kernel
theorem dX0_watchSync_1 : decode cX0_watchSync 1 = .ok (.ifCond .eq 19, 3) := by decide +kernel
theorem dX0_watchSync_4 : decode cX0_watchSync 4 = .ok (.aload_n 0, 1) := by decide +kernel
theorem dX0_watchSync_5 : decode cX0_watchSync 5 = .ok (.dup, 1) := by decide +kernel
theorem dX0_watchSync_6 : decode cX0_watchSync 6 = .ok (.getfield 15, 3) := by decide +kernel
theorem dX0_watchSync_9 : decode cX0_watchSync 9 = .ok (.iconst 1, 1) := by decide +kernel
theorem dX0_watchSync_10 : decode cX0_watchSync 10 = .ok (.iadd, 1) := by decide +kernel
theorem dX0_watchSync_11 : decode cX0_watchSync 11 = .ok (.putfield 15, 3) := by decide +kernel
theorem dX0_watchSync_14 : decode cX0_watchSync 14 = .ok (.aload_n 0, 1) := by decide +kernel
theorem dX0_watchSync_15 : decode cX0_watchSync 15 = .ok (.iconst 0, 1) := by decide +kernel
theorem dX0_watchSync_16 : decode cX0_watchSync 16 = .ok (.putfield 27, 3) := by decide +kernel
theorem dX0_watchSync_19 : decode cX0_watchSync 19 = .ok (.return_, 1) := by decide +kernel
theorem dX0_watchSync_20 : decode cX0_watchSync 20 = .ok (.aload_n 0, 1) := by decide +kernel
theorem dX0_watchSync_21 : decode cX0_watchSync 21 = .ok (.dup, 1) := by decide +kernel
theorem dX0_watchSync_22 : decode cX0_watchSync 22 = .ok (.getfield 27, 3) := by decide +kernel
theorem dX0_watchSync_25 : decode cX0_watchSync 25 = .ok (.iconst 1, 1) := by decide +kernel
theorem dX0_watchSync_26 : decode cX0_watchSync 26 = .ok (.iadd, 1) := by decide +kernel
theorem dX0_watchSync_27 : decode cX0_watchSync 27 = .ok (.putfield 27, 3) := by decide +kernel
theorem dX0_watchSync_30 : decode cX0_watchSync 30 = .ok (.aload_n 0, 1) := by decide +kernel
theorem dX0_watchSync_31 : decode cX0_watchSync 31 = .ok (.getfield 27, 3) := by decide +kernel
theorem dX0_watchSync_34 : decode cX0_watchSync 34 = .ok (.iconst 3, 1) := by decide +kernel
theorem dX0_watchSync_35 : decode cX0_watchSync 35 = .ok (.if_icmp .ne 18, 3) := by decide +kernel
theorem dX0_watchSync_38 : decode cX0_watchSync 38 = .ok (.aload_n 0, 1) := by decide +kernel
theorem dX0_watchSync_39 : decode cX0_watchSync 39 = .ok (.iconst 0, 1) := by decide +kernel
theorem dX0_watchSync_40 : decode cX0_watchSync 40 = .ok (.putfield 11, 3) := by decide +kernel
theorem dX0_watchSync_43 : decode cX0_watchSync 43 = .ok (.aload_n 0, 1) := by decide +kernel
theorem dX0_watchSync_44 : decode cX0_watchSync 44 = .ok (.dup, 1) := by decide +kernel
theorem dX0_watchSync_45 : decode cX0_watchSync 45 = .ok (.getfield 18, 3) := by decide +kernel
theorem dX0_watchSync_48 : decode cX0_watchSync 48 = .ok (.iconst 1, 1) := by decide +kernel
theorem dX0_watchSync_49 : decode cX0_watchSync 49 = .ok (.iadd, 1) := by decide +kernel
theorem dX0_watchSync_50 : decode cX0_watchSync 50 = .ok (.putfield 18, 3) := by decide +kernel
theorem dX0_watchSync_53 : decode cX0_watchSync 53 = .ok (.return_, 1) := by decide +kernel
theorem dX1_init_0 : decode cX1_init 0 = .ok (.aload_n 0, 1) := by decide +kernel
theorem dX1_init_1 : decode cX1_init 1 = .ok (.invokespecial 3, 3) := by decide +kernel
theorem dX1_init_4 : decode cX1_init 4 = .ok (.aload_n 0, 1) := by decide +kernel
theorem dX1_init_5 : decode cX1_init 5 = .ok (.iconst 0, 1) := by decide +kernel
theorem dX1_init_6 : decode cX1_init 6 = .ok (.putfield 9, 3) := by decide +kernel
theorem dX1_init_9 : decode cX1_init 9 = .ok (.aload_n 0, 1) := by decide +kernel
theorem dX1_init_10 : decode cX1_init 10 = .ok (.iconst 0, 1) := by decide +kernel
theorem dX1_init_11 : decode cX1_init 11 = .ok (.putfield 15, 3) := by decide +kernel
theorem dX1_init_14 : decode cX1_init 14 = .ok (.return_, 1) := by decide +kernel
theorem dX1_add_0 : decode cX1_add 0 = .ok (.aload_n 0, 1) := by decide +kernel
theorem dX1_add_1 : decode cX1_add 1 = .ok (.dup, 1) := by decide +kernel
theorem dX1_add_2 : decode cX1_add 2 = .ok (.getfield 9, 3) := by decide +kernel
theorem dX1_add_5 : decode cX1_add 5 = .ok (.iconst 1, 1) := by decide +kernel
theorem dX1_add_6 : decode cX1_add 6 = .ok (.iadd, 1) := by decide +kernel
theorem dX1_add_7 : decode cX1_add 7 = .ok (.putfield 9, 3) := by decide +kernel
theorem dX1_add_10 : decode cX1_add 10 = .ok (.aload_n 0, 1) := by decide +kernel
theorem dX1_add_11 : decode cX1_add 11 = .ok (.aload_n 0, 1) := by decide +kernel
theorem dX1_add_12 : decode cX1_add 12 = .ok (.getfield 15, 3) := by decide +kernel
theorem dX1_add_15 : decode cX1_add 15 = .ok (.iconst 1, 1) := by decide +kernel
theorem dX1_add_16 : decode cX1_add 16 = .ok (.ishl, 1) := by decide +kernel
theorem dX1_add_17 : decode cX1_add 17 = .ok (.iload_n 1, 1) := by decide +kernel
theorem dX1_add_18 : decode cX1_add 18 = .ok (.ior, 1) := by decide +kernel
theorem dX1_add_19 : decode cX1_add 19 = .ok (.putfield 15, 3) := by decide +kernel
theorem dX1_add_22 : decode cX1_add 22 = .ok (.return_, 1) := by decide +kernel
set_option maxRecDepth 20000 in
theorem ggX1_remembers_X10_isWithin : GoodIn wsX1_remembers wsX10_isWithin := goodIn_r _ [8] (by decide +kernel) (by decide +kernel)
set_option maxRecDepth 20000 in
theorem gX1_remembers_X10_isWithin_n24 : GoodIn wsX1_remembers (wsX10_isWithin) := ggX1_remembers_X10_isWithin
theorem dX1_remembers_0 : decode cX1_remembers 0 = .ok (.iload_n 1, 1) := by decide +kernel
theorem dX1_remembers_1 : decode cX1_remembers 1 = .ok (.iconst 1, 1) := by decide +kernel
theorem dX1_remembers_2 : decode cX1_remembers 2 = .ok (.bipush 32, 2) := by decide +kernel
theorem dX1_remembers_4 : decode cX1_remembers 4 = .ok (.aload_n 0, 1) := by decide +kernel
theorem dX1_remembers_5 : decode cX1_remembers 5 = .ok (.getfield 9, 3) := by decide +kernel
theorem dX1_remembers_8 : decode cX1_remembers 8 = .ok (.invokestatic 18, 3) := by decide +kernel
theorem dX1_remembers_11 : decode cX1_remembers 11 = .ok (.invokestatic 24, 3) := by decide +kernel
theorem dX1_remembers_14 : decode cX1_remembers 14 = .ok (.ireturn, 1) := by decide +kernel
theorem dX1_findBit_0 : decode cX1_findBit 0 = .ok (.aload_n 0, 1) := by decide +kernel
theorem dX1_findBit_1 : decode cX1_findBit 1 = .ok (.getfield 15, 3) := by decide +kernel
theorem dX1_findBit_4 : decode cX1_findBit 4 = .ok (.iload_n 1, 1) := by decide +kernel
theorem dX1_findBit_5 : decode cX1_findBit 5 = .ok (.iconst 1, 1) := by decide +kernel
theorem dX1_findBit_6 : decode cX1_findBit 6 = .ok (.isub, 1) := by decide +kernel
theorem dX1_findBit_7 : decode cX1_findBit 7 = .ok (.iushr, 1) := by decide +kernel
theorem dX1_findBit_8 : decode cX1_findBit 8 = .ok (.iconst 1, 1) := by decide +kernel
theorem dX1_findBit_9 : decode cX1_findBit 9 = .ok (.iand, 1) := by decide +kernel
theorem dX1_findBit_10 : decode cX1_findBit 10 = .ok (.ireturn, 1) := by decide +kernel
theorem dX1_endsWithSyncWord_0 : decode cX1_endsWithSyncWord 0 = .ok (.aload_n 0, 1) := by decide +kernel
theorem dX1_endsWithSyncWord_1 : decode cX1_endsWithSyncWord 1 = .ok (.getfield 9, 3) := by decide +kernel
theorem dX1_endsWithSyncWord_4 : decode cX1_endsWithSyncWord 4 = .ok (.bipush 6, 2) := by decide +kernel
theorem dX1_endsWithSyncWord_6 : decode cX1_endsWithSyncWord 6 = .ok (.if_icmp .lt 19, 3) := by decide +kernel
theorem dX1_endsWithSyncWord_9 : decode cX1_endsWithSyncWord 9 = .ok (.aload_n 0, 1) := by decide +kernel
theorem dX1_endsWithSyncWord_10 : decode cX1_endsWithSyncWord 10 = .ok (.getfield 15, 3) := by decide +kernel
theorem dX1_endsWithSyncWord_13 : decode cX1_endsWithSyncWord 13 = .ok (.bipush 63, 2) := by decide +kernel
theorem dX1_endsWithSyncWord_15 : decode cX1_endsWithSyncWord 15 = .ok (.iand, 1) := by decide +kernel
theorem dX1_endsWithSyncWord_16 : decode cX1_endsWithSyncWord 16 = .ok (.bipush 52, 2) := by decide +kernel
theorem dX1_endsWithSyncWord_18 : decode cX1_endsWithSyncWord 18 = .ok (.if_icmp .ne 7, 3) := by decide +kernel
theorem dX1_endsWithSyncWord_21 : decode cX1_endsWithSyncWord 21 = .ok (.iconst 1, 1) := by decide +kernel
theorem dX1_endsWithSyncWord_22 : decode cX1_endsWithSyncWord 22 = .ok (.goto 4, 3) := by decide +kernel
theorem dX1_endsWithSyncWord_25 : decode cX1_endsWithSyncWord 25 = .ok (.iconst 0, 1) := by decide +kernel
theorem dX1_endsWithSyncWord_26 : decode cX1_endsWithSyncWord 26 = .ok (.ireturn, 1) := by decide +kernel
theorem dX2_init_0 : decode cX2_init 0 = .ok (.aload_n 0, 1) := by decide +kernel
theorem dX2_init_1 : decode cX2_init 1 = .ok (.invokespecial 1, 3) := by decide +kernel
theorem dX2_init_4 : decode cX2_init 4 = .ok (.aload_n 0, 1) := by decide +kernel
theorem dX2_init_5 : decode cX2_init 5 = .ok (.iconst 0, 1) := by decide +kernel
theorem dX2_init_6 : decode cX2_init 6 = .ok (.putfield 7, 3) := by decide +kernel
theorem dX2_init_9 : decode cX2_init 9 = .ok (.aload_n 0, 1) := by decide +kernel
theorem dX2_init_10 : decode cX2_init 10 = .ok (.sipush 256, 3) := by decide +kernel
theorem dX2_init_13 : decode cX2_init 13 = .ok (.newarray .boolean, 2) := by decide +kernel
theorem dX2_init_15 : decode cX2_init 15 = .ok (.putfield 13, 3) := by decide +kernel
theorem dX2_init_18 : decode cX2_init 18 = .ok (.return_, 1) := by decide +kernel
theorem dX2_add_0 : decode cX2_add 0 = .ok (.aload_n 0, 1) := by decide +kernel
theorem dX2_add_1 : decode cX2_add 1 = .ok (.dup, 1) := by decide +kernel
theorem dX2_add_2 : decode cX2_add 2 = .ok (.getfield 7, 3) := by decide +kernel
theorem dX2_add_5 : decode cX2_add 5 = .ok (.iconst 1, 1) := by decide +kernel
theorem dX2_add_6 : decode cX2_add 6 = .ok (.iadd, 1) := by decide +kernel
theorem dX2_add_7 : decode cX2_add 7 = .ok (.putfield 7, 3) := by decide +kernel
theorem dX2_add_10 : decode cX2_add 10 = .ok (.aload_n 0, 1) := by decide +kernel
theorem dX2_add_11 : decode cX2_add 11 = .ok (.getfield 13, 3) := by decide +kernel
theorem dX2_add_14 : decode cX2_add 14 = .ok (.aload_n 0, 1) := by decide +kernel
theorem dX2_add_15 : decode cX2_add 15 = .ok (.getfield 7, 3) := by decide +kernel
theorem dX2_add_18 : decode cX2_add 18 = .ok (.sipush 255, 3) := by decide +kernel
theorem dX2_add_21 : decode cX2_add 21 = .ok (.iand, 1) := by decide +kernel
theorem dX2_add_22 : decode cX2_add 22 = .ok (.iload_n 1, 1) := by decide +kernel
theorem dX2_add_23 : decode cX2_add 23 = .ok (.bastore, 1) := by decide +kernel
theorem dX2_add_24 : decode cX2_add 24 = .ok (.return_, 1) := by decide +kernel
set_option maxRecDepth 20000 in
theorem ggX2_sumCosts_X2_findDistance : GoodIn wsX2_sumCosts wsX2_findDistance := goodIn_r _ [5, 6, 7, 8, 9] (by decide +kernel) (by decide +kernel)
set_option maxRecDepth 20000 in
theorem gX2_sumCosts_X2_findDistance : GoodIn wsX2_sumCosts (va_wsS RX2 17 yX2_findDistance wsX2_findDistance) := goodIn_app (goodIn_of _ (by decide +kernel)) ggX2_sumCosts_X2_findDistance
theorem dX2_sumCosts_0 : decode cX2_sumCosts 0 = .ok (.iconst 0, 1) := by decide +kernel
theorem dX2_sumCosts_1 : decode cX2_sumCosts 1 = .ok (.istore_n 2, 1) := by decide +kernel
theorem dX2_sumCosts_2 : decode cX2_sumCosts 2 = .ok (.iconst 0, 1) := by decide +kernel
theorem dX2_sumCosts_3 : decode cX2_sumCosts 3 = .ok (.istore_n 3, 1) := by decide +kernel
theorem dX2_sumCosts_4 : decode cX2_sumCosts 4 = .ok (.iload_n 3, 1) := by decide +kernel
theorem dX2_sumCosts_5 : decode cX2_sumCosts 5 = .ok (.sipush 256, 3) := by decide +kernel
theorem dX2_sumCosts_8 : decode cX2_sumCosts 8 = .ok (.if_icmp .ge 29, 3) := by decide +kernel
theorem dX2_sumCosts_11 : decode cX2_sumCosts 11 = .ok (.aload_n 0, 1) := by decide +kernel
theorem dX2_sumCosts_12 : decode cX2_sumCosts 12 = .ok (.getfield 13, 3) := by decide +kernel
theorem dX2_sumCosts_15 : decode cX2_sumCosts 15 = .ok (.iload_n 3, 1) := by decide +kernel
theorem dX2_sumCosts_16 : decode cX2_sumCosts 16 = .ok (.baload, 1) := by decide +kernel
theorem dX2_sumCosts_17 : decode cX2_sumCosts 17 = .ok (.ifCond .eq 14, 3) := by decide +kernel
theorem dX2_sumCosts_20 : decode cX2_sumCosts 20 = .ok (.iload_n 2, 1) := by decide +kernel
theorem dX2_sumCosts_21 : decode cX2_sumCosts 21 = .ok (.bipush 8, 2) := by decide +kernel
theorem dX2_sumCosts_23 : decode cX2_sumCosts 23 = .ok (.iload_n 1, 1) := by decide +kernel
theorem dX2_sumCosts_24 : decode cX2_sumCosts 24 = .ok (.iload_n 3, 1) := by decide +kernel
theorem dX2_sumCosts_25 : decode cX2_sumCosts 25 = .ok (.invokestatic 17, 3) := by decide +kernel
theorem dX2_sumCosts_28 : decode cX2_sumCosts 28 = .ok (.isub, 1) := by decide +kernel
theorem dX2_sumCosts_29 : decode cX2_sumCosts 29 = .ok (.iadd, 1) := by decide +kernel
theorem dX2_sumCosts_30 : decode cX2_sumCosts 30 = .ok (.istore_n 2, 1) := by decide +kernel
theorem dX2_sumCosts_31 : decode cX2_sumCosts 31 = .ok (.iinc 3 1, 3) := by decide +kernel
theorem dX2_sumCosts_34 : decode cX2_sumCosts 34 = .ok (.goto (-30), 3) := by decide +kernel
theorem dX2_sumCosts_37 : decode cX2_sumCosts 37 = .ok (.iload_n 2, 1) := by decide +kernel
theorem dX2_sumCosts_38 : decode cX2_sumCosts 38 = .ok (.ireturn, 1) := by decide +kernel
theorem dX2_findDistance_0 : decode cX2_findDistance 0 = .ok (.iload_n 0, 1) := by decide +kernel
theorem dX2_findDistance_1 : decode cX2_findDistance 1 = .ok (.iload_n 1, 1) := by decide +kernel
theorem dX2_findDistance_2 : decode cX2_findDistance 2 = .ok (.isub, 1) := by decide +kernel
theorem dX2_findDistance_3 : decode cX2_findDistance 3 = .ok (.bipush 15, 2) := by decide +kernel
theorem dX2_findDistance_5 : decode cX2_findDistance 5 = .ok (.iand, 1) := by decide +kernel
theorem dX2_findDistance_6 : decode cX2_findDistance 6 = .ok (.istore_n 2, 1) := by decide +kernel
theorem dX2_findDistance_7 : decode cX2_findDistance 7 = .ok (.iload_n 1, 1) := by decide +kernel
theorem dX2_findDistance_8 : decode cX2_findDistance 8 = .ok (.iload_n 0, 1) := by decide +kernel
theorem dX2_findDistance_9 : decode cX2_findDistance 9 = .ok (.isub, 1) := by decide +kernel
theorem dX2_findDistance_10 : decode cX2_findDistance 10 = .ok (.bipush 15, 2) := by decide +kernel
theorem dX2_findDistance_12 : decode cX2_findDistance 12 = .ok (.iand, 1) := by decide +kernel
theorem dX2_findDistance_13 : decode cX2_findDistance 13 = .ok (.istore_n 3, 1) := by decide +kernel
theorem dX2_findDistance_14 : decode cX2_findDistance 14 = .ok (.iload_n 2, 1) := by decide +kernel
theorem dX2_findDistance_15 : decode cX2_findDistance 15 = .ok (.iload_n 3, 1) := by decide +kernel
theorem dX2_findDistance_16 : decode cX2_findDistance 16 = .ok (.invokestatic 21, 3) := by decide +kernel
theorem dX2_findDistance_19 : decode cX2_findDistance 19 = .ok (.ireturn, 1) := by decide +kernel
theorem dX3_init_0 : decode cX3_init 0 = .ok (.aload_n 0, 1) := by decide +kernel
theorem dX3_init_1 : decode cX3_init 1 = .ok (.invokespecial 1, 3) := by decide +kernel
theorem dX3_init_4 : decode cX3_init 4 = .ok (.aload_n 0, 1) := by decide +kernel
theorem dX3_init_5 : decode cX3_init 5 = .ok (.ldc 7, 2) := by decide +kernel
theorem dX3_init_7 : decode cX3_init 7 = .ok (.putfield 8, 3) := by decide +kernel
theorem dX3_init_10 : decode cX3_init 10 = .ok (.return_, 1) := by decide +kernel
theorem dX3_remember_0 : decode cX3_remember 0 = .ok (.aload_n 0, 1) := by decide +kernel
theorem dX3_remember_1 : decode cX3_remember 1 = .ok (.aload_n 0, 1) := by decide +kernel
theorem dX3_remember_2 : decode cX3_remember 2 = .ok (.getfield 8, 3) := by decide +kernel
theorem dX3_remember_5 : decode cX3_remember 5 = .ok (.iconst 1, 1) := by decide +kernel
theorem dX3_remember_6 : decode cX3_remember 6 = .ok (.ishl, 1) := by decide +kernel
theorem dX3_remember_7 : decode cX3_remember 7 = .ok (.iload_n 1, 1) := by decide +kernel
theorem dX3_remember_8 : decode cX3_remember 8 = .ok (.ior, 1) := by decide +kernel
theorem dX3_remember_9 : decode cX3_remember 9 = .ok (.ldc 7, 2) := by decide +kernel
theorem dX3_remember_11 : decode cX3_remember 11 = .ok (.iand, 1) := by decide +kernel
theorem dX3_remember_12 : decode cX3_remember 12 = .ok (.putfield 8, 3) := by decide +kernel
theorem dX3_remember_15 : decode cX3_remember 15 = .ok (.return_, 1) := by decide +kernel
theorem dX3_hasChangedSince_0 : decode cX3_hasChangedSince 0 = .ok (.aload_n 0, 1) := by decide +kernel
theorem dX3_hasChangedSince_1 : decode cX3_hasChangedSince 1 = .ok (.getfield 8, 3) := by decide +kernel
theorem dX3_hasChangedSince_4 : decode cX3_hasChangedSince 4 = .ok (.aload_n 0, 1) := by decide +kernel
theorem dX3_hasChangedSince_5 : decode cX3_hasChangedSince 5 = .ok (.getfield 8, 3) := by decide +kernel
theorem dX3_hasChangedSince_8 : decode cX3_hasChangedSince 8 = .ok (.iload_n 1, 1) := by decide +kernel
theorem dX3_hasChangedSince_9 : decode cX3_hasChangedSince 9 = .ok (.ishr, 1) := by decide +kernel
theorem dX3_hasChangedSince_10 : decode cX3_hasChangedSince 10 = .ok (.ixor, 1) := by decide +kernel
theorem dX3_hasChangedSince_11 : decode cX3_hasChangedSince 11 = .ok (.iconst 1, 1) := by decide +kernel
theorem dX3_hasChangedSince_12 : decode cX3_hasChangedSince 12 = .ok (.iand, 1) := by decide +kernel
theorem dX3_hasChangedSince_13 : decode cX3_hasChangedSince 13 = .ok (.iconst 1, 1) := by decide +kernel
theorem dX3_hasChangedSince_14 : decode cX3_hasChangedSince 14 = .ok (.if_icmp .ne 7, 3) := by decide +kernel
theorem dX3_hasChangedSince_17 : decode cX3_hasChangedSince 17 = .ok (.iconst 1, 1) := by decide +kernel
theorem dX3_hasChangedSince_18 : decode cX3_hasChangedSince 18 = .ok (.goto 4, 3) := by decide +kernel
theorem dX3_hasChangedSince_21 : decode cX3_hasChangedSince 21 = .ok (.iconst 0, 1) := by decide +kernel
theorem dX3_hasChangedSince_22 : decode cX3_hasChangedSince 22 = .ok (.ireturn, 1) := by decide +kernel
set_option maxRecDepth 20000 in
theorem ggX3_findLevel_J6_bitCount_0f7a4 : GoodIn wsX3_findLevel wsJ6_bitCount_0f7a4 := goodIn_r _ [5, 6, 7, 8] (by decide +kernel) (by decide +kernel)
set_option maxRecDepth 20000 in
theorem gX3_findLevel_J6_bitCount_0f7a4 : GoodIn wsX3_findLevel (va_wsS RX3 14 yJ6_bitCount_0f7a4 wsJ6_bitCount_0f7a4) := goodIn_app (goodIn_of _ (by decide +kernel)) ggX3_findLevel_J6_bitCount_0f7a4
theorem dX3_findLevel_0 : decode cX3_findLevel 0 = .ok (.iconst 2, 1) := by decide +kernel
theorem dX3_findLevel_1 : decode cX3_findLevel 1 = .ok (.aload_n 0, 1) := by decide +kernel
theorem dX3_findLevel_2 : decode cX3_findLevel 2 = .ok (.getfield 8, 3) := by decide +kernel
theorem dX3_findLevel_5 : decode cX3_findLevel 5 = .ok (.sipush 255, 3) := by decide +kernel
theorem dX3_findLevel_8 : decode cX3_findLevel 8 = .ok (.iand, 1) := by decide +kernel
theorem dX3_findLevel_9 : decode cX3_findLevel 9 = .ok (.invokestatic 14, 3) := by decide +kernel
theorem dX3_findLevel_12 : decode cX3_findLevel 12 = .ok (.imul, 1) := by decide +kernel
theorem dX3_findLevel_13 : decode cX3_findLevel 13 = .ok (.bipush 8, 2) := by decide +kernel
theorem dX3_findLevel_15 : decode cX3_findLevel 15 = .ok (.isub, 1) := by decide +kernel
theorem dX3_findLevel_16 : decode cX3_findLevel 16 = .ok (.ireturn, 1) := by decide +kernel
theorem dX4_init_0 : decode cX4_init 0 = .ok (.aload_n 0, 1) := by decide +kernel
theorem dX4_init_1 : decode cX4_init 1 = .ok (.invokespecial 1, 3) := by decide +kernel
theorem dX4_init_4 : decode cX4_init 4 = .ok (.aload_n 0, 1) := by decide +kernel
theorem dX4_init_5 : decode cX4_init 5 = .ok (.bipush 8, 2) := by decide +kernel
theorem dX4_init_7 : decode cX4_init 7 = .ok (.putfield 7, 3) := by decide +kernel
theorem dX4_init_10 : decode cX4_init 10 = .ok (.aload_n 0, 1) := by decide +kernel
theorem dX4_init_11 : decode cX4_init 11 = .ok (.iconst 1, 1) := by decide +kernel
theorem dX4_init_12 : decode cX4_init 12 = .ok (.putfield 13, 3) := by decide +kernel
theorem dX4_init_15 : decode cX4_init 15 = .ok (.aload_n 0, 1) := by decide +kernel
theorem dX4_init_16 : decode cX4_init 16 = .ok (.iconst 0, 1) := by decide +kernel
theorem dX4_init_17 : decode cX4_init 17 = .ok (.putfield 16, 3) := by decide +kernel
theorem dX4_init_20 : decode cX4_init 20 = .ok (.aload_n 0, 1) := by decide +kernel
theorem dX4_init_21 : decode cX4_init 21 = .ok (.iconst 0, 1) := by decide +kernel
theorem dX4_init_22 : decode cX4_init 22 = .ok (.putfield 19, 3) := by decide +kernel
theorem dX4_init_25 : decode cX4_init 25 = .ok (.aload_n 0, 1) := by decide +kernel
theorem dX4_init_26 : decode cX4_init 26 = .ok (.iconst 0, 1) := by decide +kernel
theorem dX4_init_27 : decode cX4_init 27 = .ok (.putfield 22, 3) := by decide +kernel
theorem dX4_init_30 : decode cX4_init 30 = .ok (.return_, 1) := by decide +kernel
set_option maxRecDepth 20000 in
theorem ggX4_takeError_X4_keepWithin : GoodIn wsX4_takeError wsX4_keepWithin := goodIn_r _ [10, 11, 12, 13, 14, 15, 16, 17] (by decide +kernel) (by decide +kernel)
set_option maxRecDepth 20000 in
theorem gX4_takeError_X4_keepWithin : GoodIn wsX4_takeError (va_wsS RX4 26 yX4_keepWithin wsX4_keepWithin) := goodIn_app (goodIn_of _ (by decide +kernel)) ggX4_takeError_X4_keepWithin
set_option maxRecDepth 20000 in
theorem ggX4_takeError_J9_floorDiv_7cf53 : GoodIn wsX4_takeError wsJ9_floorDiv_7cf53 := goodIn_r _ [21] (by decide +kernel) (by decide +kernel)
set_option maxRecDepth 20000 in
theorem gX4_takeError_J9_floorDiv_7cf53 : GoodIn wsX4_takeError (va_wsS RX4 30 yJ9_floorDiv_7cf53 wsJ9_floorDiv_7cf53) := goodIn_app (goodIn_of _ (by decide +kernel)) ggX4_takeError_J9_floorDiv_7cf53
theorem dX4_takeError_0 : decode cX4_takeError 0 = .ok (.aload_n 0, 1) := by decide +kernel
theorem dX4_takeError_1 : decode cX4_takeError 1 = .ok (.iload_n 1, 1) := by decide +kernel
theorem dX4_takeError_2 : decode cX4_takeError 2 = .ok (.putfield 16, 3) := by decide +kernel
theorem dX4_takeError_5 : decode cX4_takeError 5 = .ok (.aload_n 0, 1) := by decide +kernel
theorem dX4_takeError_6 : decode cX4_takeError 6 = .ok (.aload_n 0, 1) := by decide +kernel
theorem dX4_takeError_7 : decode cX4_takeError 7 = .ok (.getfield 19, 3) := by decide +kernel
theorem dX4_takeError_10 : decode cX4_takeError 10 = .ok (.aload_n 0, 1) := by decide +kernel
theorem dX4_takeError_11 : decode cX4_takeError 11 = .ok (.getfield 13, 3) := by decide +kernel
theorem dX4_takeError_14 : decode cX4_takeError 14 = .ok (.iload_n 1, 1) := by decide +kernel
theorem dX4_takeError_15 : decode cX4_takeError 15 = .ok (.imul, 1) := by decide +kernel
theorem dX4_takeError_16 : decode cX4_takeError 16 = .ok (.iadd, 1) := by decide +kernel
theorem dX4_takeError_17 : decode cX4_takeError 17 = .ok (.ldc 25, 2) := by decide +kernel
theorem dX4_takeError_19 : decode cX4_takeError 19 = .ok (.invokestatic 26, 3) := by decide +kernel
theorem dX4_takeError_22 : decode cX4_takeError 22 = .ok (.putfield 19, 3) := by decide +kernel
theorem dX4_takeError_25 : decode cX4_takeError 25 = .ok (.aload_n 0, 1) := by decide +kernel
theorem dX4_takeError_26 : decode cX4_takeError 26 = .ok (.aload_n 0, 1) := by decide +kernel
theorem dX4_takeError_27 : decode cX4_takeError 27 = .ok (.getfield 7, 3) := by decide +kernel
theorem dX4_takeError_30 : decode cX4_takeError 30 = .ok (.iload_n 1, 1) := by decide +kernel
theorem dX4_takeError_31 : decode cX4_takeError 31 = .ok (.imul, 1) := by decide +kernel
theorem dX4_takeError_32 : decode cX4_takeError 32 = .ok (.aload_n 0, 1) := by decide +kernel
theorem dX4_takeError_33 : decode cX4_takeError 33 = .ok (.getfield 19, 3) := by decide +kernel
theorem dX4_takeError_36 : decode cX4_takeError 36 = .ok (.sipush 256, 3) := by decide +kernel
theorem dX4_takeError_39 : decode cX4_takeError 39 = .ok (.invokestatic 30, 3) := by decide +kernel
theorem dX4_takeError_42 : decode cX4_takeError 42 = .ok (.iadd, 1) := by decide +kernel
theorem dX4_takeError_43 : decode cX4_takeError 43 = .ok (.sipush 1024, 3) := by decide +kernel
theorem dX4_takeError_46 : decode cX4_takeError 46 = .ok (.invokestatic 26, 3) := by decide +kernel
theorem dX4_takeError_49 : decode cX4_takeError 49 = .ok (.putfield 22, 3) := by decide +kernel
theorem dX4_takeError_52 : decode cX4_takeError 52 = .ok (.return_, 1) := by decide +kernel
theorem dX4_keepWithin_0 : decode cX4_keepWithin 0 = .ok (.iload_n 1, 1) := by decide +kernel
theorem dX4_keepWithin_1 : decode cX4_keepWithin 1 = .ok (.ineg, 1) := by decide +kernel
theorem dX4_keepWithin_2 : decode cX4_keepWithin 2 = .ok (.iload_n 1, 1) := by decide +kernel
theorem dX4_keepWithin_3 : decode cX4_keepWithin 3 = .ok (.iload_n 0, 1) := by decide +kernel
theorem dX4_keepWithin_4 : decode cX4_keepWithin 4 = .ok (.invokestatic 35, 3) := by decide +kernel
theorem dX4_keepWithin_7 : decode cX4_keepWithin 7 = .ok (.invokestatic 38, 3) := by decide +kernel
theorem dX4_keepWithin_10 : decode cX4_keepWithin 10 = .ok (.ireturn, 1) := by decide +kernel
theorem dX5_init_0 : decode cX5_init 0 = .ok (.aload_n 0, 1) := by decide +kernel
theorem dX5_init_1 : decode cX5_init 1 = .ok (.invokespecial 3, 3) := by decide +kernel
theorem dX5_init_4 : decode cX5_init 4 = .ok (.aload_n 0, 1) := by decide +kernel
theorem dX5_init_5 : decode cX5_init 5 = .ok (.iconst 0, 1) := by decide +kernel
theorem dX5_init_6 : decode cX5_init 6 = .ok (.putfield 9, 3) := by decide +kernel
theorem dX5_init_9 : decode cX5_init 9 = .ok (.return_, 1) := by decide +kernel
set_option maxRecDepth 20000 in
theorem ggX5_advance_X5_hasPassed : GoodIn wsX5_advance wsX5_hasPassed := goodIn_r _ [9, 1, 10] (by decide +kernel) (by decide +kernel)
set_option maxRecDepth 20000 in
theorem gX5_advance_X5_hasPassed : GoodIn wsX5_advance (wsV RX5 17 RX5 yX5_hasPassed wsX5_hasPassed) := goodIn_app (goodIn_of _ (by decide +kernel)) ggX5_advance_X5_hasPassed
theorem dX5_advance_0 : decode cX5_advance 0 = .ok (.aload_n 0, 1) := by decide +kernel
theorem dX5_advance_1 : decode cX5_advance 1 = .ok (.getfield 9, 3) := by decide +kernel
theorem dX5_advance_4 : decode cX5_advance 4 = .ok (.istore_n 2, 1) := by decide +kernel
theorem dX5_advance_5 : decode cX5_advance 5 = .ok (.aload_n 0, 1) := by decide +kernel
theorem dX5_advance_6 : decode cX5_advance 6 = .ok (.dup, 1) := by decide +kernel
theorem dX5_advance_7 : decode cX5_advance 7 = .ok (.getfield 9, 3) := by decide +kernel
theorem dX5_advance_10 : decode cX5_advance 10 = .ok (.sipush 4096, 3) := by decide +kernel
theorem dX5_advance_13 : decode cX5_advance 13 = .ok (.iload_n 1, 1) := by decide +kernel
theorem dX5_advance_14 : decode cX5_advance 14 = .ok (.iadd, 1) := by decide +kernel
theorem dX5_advance_15 : decode cX5_advance 15 = .ok (.iadd, 1) := by decide +kernel
theorem dX5_advance_16 : decode cX5_advance 16 = .ok (.putfield 9, 3) := by decide +kernel
theorem dX5_advance_19 : decode cX5_advance 19 = .ok (.aload_n 0, 1) := by decide +kernel
theorem dX5_advance_20 : decode cX5_advance 20 = .ok (.getfield 9, 3) := by decide +kernel
theorem dX5_advance_23 : decode cX5_advance 23 = .ok (.ldc 15, 2) := by decide +kernel
theorem dX5_advance_25 : decode cX5_advance 25 = .ok (.if_icmp .lt 16, 3) := by decide +kernel
theorem dX5_advance_28 : decode cX5_advance 28 = .ok (.aload_n 0, 1) := by decide +kernel
theorem dX5_advance_29 : decode cX5_advance 29 = .ok (.dup, 1) := by decide +kernel
theorem dX5_advance_30 : decode cX5_advance 30 = .ok (.getfield 9, 3) := by decide +kernel
theorem dX5_advance_33 : decode cX5_advance 33 = .ok (.ldc 15, 2) := by decide +kernel
theorem dX5_advance_35 : decode cX5_advance 35 = .ok (.isub, 1) := by decide +kernel
theorem dX5_advance_36 : decode cX5_advance 36 = .ok (.putfield 9, 3) := by decide +kernel
theorem dX5_advance_39 : decode cX5_advance 39 = .ok (.iconst 4, 1) := by decide +kernel
theorem dX5_advance_40 : decode cX5_advance 40 = .ok (.ireturn, 1) := by decide +kernel
theorem dX5_advance_41 : decode cX5_advance 41 = .ok (.aload_n 0, 1) := by decide +kernel
theorem dX5_advance_42 : decode cX5_advance 42 = .ok (.iload_n 2, 1) := by decide +kernel
theorem dX5_advance_43 : decode cX5_advance 43 = .ok (.ldc 16, 2) := by decide +kernel
theorem dX5_advance_45 : decode cX5_advance 45 = .ok (.invokevirtual 17, 3) := by decide +kernel
theorem dX5_advance_48 : decode cX5_advance 48 = .ok (.ifCond .eq 5, 3) := by decide +kernel
theorem dX5_advance_51 : decode cX5_advance 51 = .ok (.iconst 3, 1) := by decide +kernel
theorem dX5_advance_52 : decode cX5_advance 52 = .ok (.ireturn, 1) := by decide +kernel
theorem dX5_advance_53 : decode cX5_advance 53 = .ok (.aload_n 0, 1) := by decide +kernel
theorem dX5_advance_54 : decode cX5_advance 54 = .ok (.iload_n 2, 1) := by decide +kernel
theorem dX5_advance_55 : decode cX5_advance 55 = .ok (.ldc 21, 2) := by decide +kernel
theorem dX5_advance_57 : decode cX5_advance 57 = .ok (.invokevirtual 17, 3) := by decide +kernel
theorem dX5_advance_60 : decode cX5_advance 60 = .ok (.ifCond .eq 5, 3) := by decide +kernel
theorem dX5_advance_63 : decode cX5_advance 63 = .ok (.iconst 2, 1) := by decide +kernel
theorem dX5_advance_64 : decode cX5_advance 64 = .ok (.ireturn, 1) := by decide +kernel
theorem dX5_advance_65 : decode cX5_advance 65 = .ok (.aload_n 0, 1) := by decide +kernel
theorem dX5_advance_66 : decode cX5_advance 66 = .ok (.iload_n 2, 1) := by decide +kernel
theorem dX5_advance_67 : decode cX5_advance 67 = .ok (.sipush 16384, 3) := by decide +kernel
theorem dX5_advance_70 : decode cX5_advance 70 = .ok (.invokevirtual 17, 3) := by decide +kernel
theorem dX5_advance_73 : decode cX5_advance 73 = .ok (.ifCond .eq 7, 3) := by decide +kernel
theorem dX5_advance_76 : decode cX5_advance 76 = .ok (.iconst 1, 1) := by decide +kernel
theorem dX5_advance_77 : decode cX5_advance 77 = .ok (.goto 4, 3) := by decide +kernel
theorem dX5_advance_80 : decode cX5_advance 80 = .ok (.iconst 0, 1) := by decide +kernel
theorem dX5_advance_81 : decode cX5_advance 81 = .ok (.ireturn, 1) := by decide +kernel
theorem dX5_hasPassed_0 : decode cX5_hasPassed 0 = .ok (.iload_n 1, 1) := by decide +kernel
theorem dX5_hasPassed_1 : decode cX5_hasPassed 1 = .ok (.iload_n 2, 1) := by decide +kernel
theorem dX5_hasPassed_2 : decode cX5_hasPassed 2 = .ok (.if_icmp .ge 15, 3) := by decide +kernel
theorem dX5_hasPassed_5 : decode cX5_hasPassed 5 = .ok (.aload_n 0, 1) := by decide +kernel
theorem dX5_hasPassed_6 : decode cX5_hasPassed 6 = .ok (.getfield 9, 3) := by decide +kernel
theorem dX5_hasPassed_9 : decode cX5_hasPassed 9 = .ok (.iload_n 2, 1) := by decide +kernel
theorem dX5_hasPassed_10 : decode cX5_hasPassed 10 = .ok (.if_icmp .lt 7, 3) := by decide +kernel
theorem dX5_hasPassed_13 : decode cX5_hasPassed 13 = .ok (.iconst 1, 1) := by decide +kernel
theorem dX5_hasPassed_14 : decode cX5_hasPassed 14 = .ok (.goto 4, 3) := by decide +kernel
theorem dX5_hasPassed_17 : decode cX5_hasPassed 17 = .ok (.iconst 0, 1) := by decide +kernel
theorem dX5_hasPassed_18 : decode cX5_hasPassed 18 = .ok (.ireturn, 1) := by decide +kernel
theorem dX6_init_0 : decode cX6_init 0 = .ok (.aload_n 0, 1) := by decide +kernel
theorem dX6_init_1 : decode cX6_init 1 = .ok (.invokespecial 3, 3) := by decide +kernel
theorem dX6_init_4 : decode cX6_init 4 = .ok (.aload_n 0, 1) := by decide +kernel
theorem dX6_init_5 : decode cX6_init 5 = .ok (.iconst 0, 1) := by decide +kernel
theorem dX6_init_6 : decode cX6_init 6 = .ok (.putfield 9, 3) := by decide +kernel
theorem dX6_init_9 : decode cX6_init 9 = .ok (.aload_n 0, 1) := by decide +kernel
theorem dX6_init_10 : decode cX6_init 10 = .ok (.iconst 0, 1) := by decide +kernel
theorem dX6_init_11 : decode cX6_init 11 = .ok (.putfield 15, 3) := by decide +kernel
theorem dX6_init_14 : decode cX6_init 14 = .ok (.aload_n 0, 1) := by decide +kernel
theorem dX6_init_15 : decode cX6_init 15 = .ok (.iconst 0, 1) := by decide +kernel
theorem dX6_init_16 : decode cX6_init 16 = .ok (.putfield 18, 3) := by decide +kernel
theorem dX6_init_19 : decode cX6_init 19 = .ok (.aload_n 0, 1) := by decide +kernel
theorem dX6_init_20 : decode cX6_init 20 = .ok (.iconst 0, 1) := by decide +kernel
theorem dX6_init_21 : decode cX6_init 21 = .ok (.putfield 21, 3) := by decide +kernel
theorem dX6_init_24 : decode cX6_init 24 = .ok (.aload_n 0, 1) := by decide +kernel
theorem dX6_init_25 : decode cX6_init 25 = .ok (.iconst 0, 1) := by decide +kernel
theorem dX6_init_26 : decode cX6_init 26 = .ok (.putfield 24, 3) := by decide +kernel
theorem dX6_init_29 : decode cX6_init 29 = .ok (.aload_n 0, 1) := by decide +kernel
theorem dX6_init_30 : decode cX6_init 30 = .ok (.iconst 0, 1) := by decide +kernel
theorem dX6_init_31 : decode cX6_init 31 = .ok (.putfield 27, 3) := by decide +kernel
theorem dX6_init_34 : decode cX6_init 34 = .ok (.aload_n 0, 1) := by decide +kernel
theorem dX6_init_35 : decode cX6_init 35 = .ok (.iconst 0, 1) := by decide +kernel
theorem dX6_init_36 : decode cX6_init 36 = .ok (.putfield 30, 3) := by decide +kernel
theorem dX6_init_39 : decode cX6_init 39 = .ok (.return_, 1) := by decide +kernel
set_option maxRecDepth 20000 in
theorem ggX6_watchLine_X3_hasChangedSince : GoodIn wsX6_watchLine wsX3_hasChangedSince := goodIn_r _ [9, 10, 21] (by decide +kernel) (by decide +kernel)
set_option maxRecDepth 20000 in
theorem gX6_watchLine_X3_hasChangedSince : GoodIn wsX6_watchLine (wsV RX6 33 RX3 yX3_hasChangedSince wsX3_hasChangedSince) := goodIn_app (goodIn_of _ (by decide +kernel)) ggX6_watchLine_X3_hasChangedSince
set_option maxRecDepth 20000 in
theorem ggX6_watchLine_X10_isWithin : GoodIn wsX6_watchLine wsX10_isWithin := goodIn_r _ [13] (by decide +kernel) (by decide +kernel)
set_option maxRecDepth 20000 in
theorem gX6_watchLine_X10_isWithin_n41 : GoodIn wsX6_watchLine (wsX10_isWithin) := ggX6_watchLine_X10_isWithin
theorem dX6_watchLine_0 : decode cX6_watchLine 0 = .ok (.aload_n 1, 1) := by decide +kernel
theorem dX6_watchLine_1 : decode cX6_watchLine 1 = .ok (.iconst 1, 1) := by decide +kernel
theorem dX6_watchLine_2 : decode cX6_watchLine 2 = .ok (.invokevirtual 33, 3) := by decide +kernel
theorem dX6_watchLine_5 : decode cX6_watchLine 5 = .ok (.ifCond .eq 15, 3) := by decide +kernel
theorem dX6_watchLine_8 : decode cX6_watchLine 8 = .ok (.aload_n 0, 1) := by decide +kernel
theorem dX6_watchLine_9 : decode cX6_watchLine 9 = .ok (.ldc 39, 2) := by decide +kernel
theorem dX6_watchLine_11 : decode cX6_watchLine 11 = .ok (.iload_n 2, 1) := by decide +kernel
theorem dX6_watchLine_12 : decode cX6_watchLine 12 = .ok (.isub, 1) := by decide +kernel
theorem dX6_watchLine_13 : decode cX6_watchLine 13 = .ok (.sipush 256, 3) := by decide +kernel
theorem dX6_watchLine_16 : decode cX6_watchLine 16 = .ok (.idiv, 1) := by decide +kernel
theorem dX6_watchLine_17 : decode cX6_watchLine 17 = .ok (.putfield 15, 3) := by decide +kernel
theorem dX6_watchLine_20 : decode cX6_watchLine 20 = .ok (.aload_n 1, 1) := by decide +kernel
theorem dX6_watchLine_21 : decode cX6_watchLine 21 = .ok (.bipush 8, 2) := by decide +kernel
theorem dX6_watchLine_23 : decode cX6_watchLine 23 = .ok (.invokevirtual 33, 3) := by decide +kernel
theorem dX6_watchLine_26 : decode cX6_watchLine 26 = .ok (.ifCond .eq 29, 3) := by decide +kernel
theorem dX6_watchLine_29 : decode cX6_watchLine 29 = .ok (.aload_n 0, 1) := by decide +kernel
theorem dX6_watchLine_30 : decode cX6_watchLine 30 = .ok (.dup, 1) := by decide +kernel
theorem dX6_watchLine_31 : decode cX6_watchLine 31 = .ok (.getfield 18, 3) := by decide +kernel
theorem dX6_watchLine_34 : decode cX6_watchLine 34 = .ok (.iload_n 2, 1) := by decide +kernel
theorem dX6_watchLine_35 : decode cX6_watchLine 35 = .ok (.sipush 16384, 3) := by decide +kernel
theorem dX6_watchLine_38 : decode cX6_watchLine 38 = .ok (.ldc 40, 2) := by decide +kernel
theorem dX6_watchLine_40 : decode cX6_watchLine 40 = .ok (.invokestatic 41, 3) := by decide +kernel
theorem dX6_watchLine_43 : decode cX6_watchLine 43 = .ok (.ifCond .eq 7, 3) := by decide +kernel
theorem dX6_watchLine_46 : decode cX6_watchLine 46 = .ok (.iconst 1, 1) := by decide +kernel
theorem dX6_watchLine_47 : decode cX6_watchLine 47 = .ok (.goto 4, 3) := by decide +kernel
theorem dX6_watchLine_50 : decode cX6_watchLine 50 = .ok (.iconst (-1), 1) := by decide +kernel
theorem dX6_watchLine_51 : decode cX6_watchLine 51 = .ok (.iadd, 1) := by decide +kernel
theorem dX6_watchLine_52 : decode cX6_watchLine 52 = .ok (.putfield 18, 3) := by decide +kernel
theorem dX6_watchLine_55 : decode cX6_watchLine 55 = .ok (.return_, 1) := by decide +kernel
theorem dX6_keepEarly_0 : decode cX6_keepEarly 0 = .ok (.aload_n 0, 1) := by decide +kernel
theorem dX6_keepEarly_1 : decode cX6_keepEarly 1 = .ok (.iload_n 1, 1) := by decide +kernel
theorem dX6_keepEarly_2 : decode cX6_keepEarly 2 = .ok (.invokestatic 45, 3) := by decide +kernel
theorem dX6_keepEarly_5 : decode cX6_keepEarly 5 = .ok (.putfield 21, 3) := by decide +kernel
theorem dX6_keepEarly_8 : decode cX6_keepEarly 8 = .ok (.return_, 1) := by decide +kernel
theorem dX6_keepMiddle_0 : decode cX6_keepMiddle 0 = .ok (.aload_n 0, 1) := by decide +kernel
theorem dX6_keepMiddle_1 : decode cX6_keepMiddle 1 = .ok (.iload_n 1, 1) := by decide +kernel
theorem dX6_keepMiddle_2 : decode cX6_keepMiddle 2 = .ok (.putfield 24, 3) := by decide +kernel
theorem dX6_keepMiddle_5 : decode cX6_keepMiddle 5 = .ok (.aload_n 0, 1) := by decide +kernel
theorem dX6_keepMiddle_6 : decode cX6_keepMiddle 6 = .ok (.iload_n 2, 1) := by decide +kernel
theorem dX6_keepMiddle_7 : decode cX6_keepMiddle 7 = .ok (.putfield 27, 3) := by decide +kernel
theorem dX6_keepMiddle_10 : decode cX6_keepMiddle 10 = .ok (.return_, 1) := by decide +kernel
theorem dX6_measureLate_0 : decode cX6_measureLate 0 = .ok (.aload_n 0, 1) := by decide +kernel
theorem dX6_measureLate_1 : decode cX6_measureLate 1 = .ok (.getfield 21, 3) := by decide +kernel
theorem dX6_measureLate_4 : decode cX6_measureLate 4 = .ok (.iload_n 1, 1) := by decide +kernel
theorem dX6_measureLate_5 : decode cX6_measureLate 5 = .ok (.invokestatic 45, 3) := by decide +kernel
theorem dX6_measureLate_8 : decode cX6_measureLate 8 = .ok (.isub, 1) := by decide +kernel
theorem dX6_measureLate_9 : decode cX6_measureLate 9 = .ok (.ireturn, 1) := by decide +kernel
set_option maxRecDepth 20000 in
theorem ggX6_measureAtData_X6_measureBangBang : GoodIn wsX6_measureAtData wsX6_measureBangBang := goodIn_r _ [10, 11, 12, 13, 14, 15, 16, 17, 18, 26, 27, 19, 20, 21, 22, 23, 24, 25] (by decide +kernel) (by decide +kernel)
set_option maxRecDepth 20000 in
theorem gX6_measureAtData_X6_measureBangBang : GoodIn wsX6_measureAtData (wsV RX6 51 RX6 yX6_measureBangBang wsX6_measureBangBang) := goodIn_app (goodIn_of _ (by decide +kernel)) ggX6_measureAtData_X6_measureBangBang
theorem dX6_measureAtData_0 : decode cX6_measureAtData 0 = .ok (.aload_n 0, 1) := by decide +kernel
theorem dX6_measureAtData_1 : decode cX6_measureAtData 1 = .ok (.getfield 9, 3) := by decide +kernel
theorem dX6_measureAtData_4 : decode cX6_measureAtData 4 = .ok (.tableswitch 50 1 3 #[28, 33, 38], 28) := by decide +kernel
theorem dX6_measureAtData_32 : decode cX6_measureAtData 32 = .ok (.aload_n 0, 1) := by decide +kernel
theorem dX6_measureAtData_33 : decode cX6_measureAtData 33 = .ok (.getfield 15, 3) := by decide +kernel
theorem dX6_measureAtData_36 : decode cX6_measureAtData 36 = .ok (.ireturn, 1) := by decide +kernel
theorem dX6_measureAtData_37 : decode cX6_measureAtData 37 = .ok (.aload_n 0, 1) := by decide +kernel
theorem dX6_measureAtData_38 : decode cX6_measureAtData 38 = .ok (.getfield 18, 3) := by decide +kernel
theorem dX6_measureAtData_41 : decode cX6_measureAtData 41 = .ok (.ireturn, 1) := by decide +kernel
theorem dX6_measureAtData_42 : decode cX6_measureAtData 42 = .ok (.aload_n 0, 1) := by decide +kernel
theorem dX6_measureAtData_43 : decode cX6_measureAtData 43 = .ok (.getfield 27, 3) := by decide +kernel
theorem dX6_measureAtData_46 : decode cX6_measureAtData 46 = .ok (.iload_n 2, 1) := by decide +kernel
theorem dX6_measureAtData_47 : decode cX6_measureAtData 47 = .ok (.aload_n 0, 1) := by decide +kernel
theorem dX6_measureAtData_48 : decode cX6_measureAtData 48 = .ok (.getfield 30, 3) := by decide +kernel
theorem dX6_measureAtData_51 : decode cX6_measureAtData 51 = .ok (.isub, 1) := by decide +kernel
theorem dX6_measureAtData_52 : decode cX6_measureAtData 52 = .ok (.imul, 1) := by decide +kernel
theorem dX6_measureAtData_53 : decode cX6_measureAtData 53 = .ok (.ireturn, 1) := by decide +kernel
theorem dX6_measureAtData_54 : decode cX6_measureAtData 54 = .ok (.aload_n 0, 1) := by decide +kernel
theorem dX6_measureAtData_55 : decode cX6_measureAtData 55 = .ok (.iload_n 1, 1) := by decide +kernel
theorem dX6_measureAtData_56 : decode cX6_measureAtData 56 = .ok (.aload_n 3, 1) := by decide +kernel
theorem dX6_measureAtData_57 : decode cX6_measureAtData 57 = .ok (.invokevirtual 51, 3) := by decide +kernel
theorem dX6_measureAtData_60 : decode cX6_measureAtData 60 = .ok (.ireturn, 1) := by decide +kernel
set_option maxRecDepth 20000 in
theorem ggX6_measureBangBang_X1_findBit : GoodIn wsX6_measureBangBang wsX1_findBit := goodIn_r _ [7, 8, 9, 10] (by decide +kernel) (by decide +kernel)
set_option maxRecDepth 20000 in
theorem gX6_measureBangBang_X1_findBit : GoodIn wsX6_measureBangBang (wsV RX6 60 RX1 yX1_findBit wsX1_findBit) := goodIn_app (goodIn_of _ (by decide +kernel)) ggX6_measureBangBang_X1_findBit
theorem dX6_measureBangBang_0 : decode cX6_measureBangBang 0 = .ok (.aload_n 2, 1) := by decide +kernel
theorem dX6_measureBangBang_1 : decode cX6_measureBangBang 1 = .ok (.getfield 55, 3) := by decide +kernel
theorem dX6_measureBangBang_4 : decode cX6_measureBangBang 4 = .ok (.ifCond .ne 5, 3) := by decide +kernel
theorem dX6_measureBangBang_7 : decode cX6_measureBangBang 7 = .ok (.iconst 0, 1) := by decide +kernel
theorem dX6_measureBangBang_8 : decode cX6_measureBangBang 8 = .ok (.ireturn, 1) := by decide +kernel
theorem dX6_measureBangBang_9 : decode cX6_measureBangBang 9 = .ok (.aload_n 2, 1) := by decide +kernel
theorem dX6_measureBangBang_10 : decode cX6_measureBangBang 10 = .ok (.iconst 1, 1) := by decide +kernel
theorem dX6_measureBangBang_11 : decode cX6_measureBangBang 11 = .ok (.invokevirtual 60, 3) := by decide +kernel
theorem dX6_measureBangBang_14 : decode cX6_measureBangBang 14 = .ok (.istore_n 3, 1) := by decide +kernel
theorem dX6_measureBangBang_15 : decode cX6_measureBangBang 15 = .ok (.iload_n 1, 1) := by decide +kernel
theorem dX6_measureBangBang_16 : decode cX6_measureBangBang 16 = .ok (.iload_n 3, 1) := by decide +kernel
theorem dX6_measureBangBang_17 : decode cX6_measureBangBang 17 = .ok (.if_icmp .ne 5, 3) := by decide +kernel
theorem dX6_measureBangBang_20 : decode cX6_measureBangBang 20 = .ok (.iconst 0, 1) := by decide +kernel
theorem dX6_measureBangBang_21 : decode cX6_measureBangBang 21 = .ok (.ireturn, 1) := by decide +kernel
theorem dX6_measureBangBang_22 : decode cX6_measureBangBang 22 = .ok (.aload_n 0, 1) := by decide +kernel
theorem dX6_measureBangBang_23 : decode cX6_measureBangBang 23 = .ok (.getfield 24, 3) := by decide +kernel
theorem dX6_measureBangBang_26 : decode cX6_measureBangBang 26 = .ok (.iload_n 3, 1) := by decide +kernel
theorem dX6_measureBangBang_27 : decode cX6_measureBangBang 27 = .ok (.if_icmp .ne 7, 3) := by decide +kernel
theorem dX6_measureBangBang_30 : decode cX6_measureBangBang 30 = .ok (.iconst (-1), 1) := by decide +kernel
theorem dX6_measureBangBang_31 : decode cX6_measureBangBang 31 = .ok (.goto 4, 3) := by decide +kernel
theorem dX6_measureBangBang_34 : decode cX6_measureBangBang 34 = .ok (.iconst 1, 1) := by decide +kernel
theorem dX6_measureBangBang_35 : decode cX6_measureBangBang 35 = .ok (.ireturn, 1) := by decide +kernel
theorem dX6_finishBit_0 : decode cX6_finishBit 0 = .ok (.aload_n 0, 1) := by decide +kernel
theorem dX6_finishBit_1 : decode cX6_finishBit 1 = .ok (.iconst 0, 1) := by decide +kernel
theorem dX6_finishBit_2 : decode cX6_finishBit 2 = .ok (.putfield 15, 3) := by decide +kernel
theorem dX6_finishBit_5 : decode cX6_finishBit 5 = .ok (.aload_n 0, 1) := by decide +kernel
theorem dX6_finishBit_6 : decode cX6_finishBit 6 = .ok (.iconst 0, 1) := by decide +kernel
theorem dX6_finishBit_7 : decode cX6_finishBit 7 = .ok (.putfield 18, 3) := by decide +kernel
theorem dX6_finishBit_10 : decode cX6_finishBit 10 = .ok (.aload_n 0, 1) := by decide +kernel
theorem dX6_finishBit_11 : decode cX6_finishBit 11 = .ok (.iload_n 1, 1) := by decide +kernel
theorem dX6_finishBit_12 : decode cX6_finishBit 12 = .ok (.putfield 30, 3) := by decide +kernel
theorem dX6_finishBit_15 : decode cX6_finishBit 15 = .ok (.return_, 1) := by decide +kernel
theorem dX7_init_0 : decode cX7_init 0 = .ok (.aload_n 0, 1) := by decide +kernel
theorem dX7_init_1 : decode cX7_init 1 = .ok (.invokespecial 3, 3) := by decide +kernel
theorem dX7_init_4 : decode cX7_init 4 = .ok (.aload_n 0, 1) := by decide +kernel
theorem dX7_init_5 : decode cX7_init 5 = .ok (.iconst 0, 1) := by decide +kernel
theorem dX7_init_6 : decode cX7_init 6 = .ok (.putfield 9, 3) := by decide +kernel
theorem dX7_init_9 : decode cX7_init 9 = .ok (.aload_n 0, 1) := by decide +kernel
theorem dX7_init_10 : decode cX7_init 10 = .ok (.iconst 0, 1) := by decide +kernel
theorem dX7_init_11 : decode cX7_init 11 = .ok (.putfield 15, 3) := by decide +kernel
theorem dX7_init_14 : decode cX7_init 14 = .ok (.aload_n 0, 1) := by decide +kernel
theorem dX7_init_15 : decode cX7_init 15 = .ok (.iconst 0, 1) := by decide +kernel
theorem dX7_init_16 : decode cX7_init 16 = .ok (.putfield 18, 3) := by decide +kernel
theorem dX7_init_19 : decode cX7_init 19 = .ok (.aload_n 0, 1) := by decide +kernel
theorem dX7_init_20 : decode cX7_init 20 = .ok (.bipush 32, 2) := by decide +kernel
theorem dX7_init_22 : decode cX7_init 22 = .ok (.newarray .int, 2) := by decide +kernel
theorem dX7_init_24 : decode cX7_init 24 = .ok (.putfield 21, 3) := by decide +kernel
theorem dX7_init_27 : decode cX7_init 27 = .ok (.return_, 1) := by decide +kernel
set_option maxRecDepth 20000 in
theorem ggX7_add_X10_isWithin : GoodIn wsX7_add wsX10_isWithin := goodIn_r _ [7] (by decide +kernel) (by decide +kernel)
set_option maxRecDepth 20000 in
theorem gX7_add_X10_isWithin_n25 : GoodIn wsX7_add (wsX10_isWithin) := ggX7_add_X10_isWithin
theorem dX7_add_0 : decode cX7_add 0 = .ok (.aload_n 0, 1) := by decide +kernel
theorem dX7_add_1 : decode cX7_add 1 = .ok (.getfield 21, 3) := by decide +kernel
theorem dX7_add_4 : decode cX7_add 4 = .ok (.aload_n 0, 1) := by decide +kernel
theorem dX7_add_5 : decode cX7_add 5 = .ok (.getfield 9, 3) := by decide +kernel
theorem dX7_add_8 : decode cX7_add 8 = .ok (.bipush 31, 2) := by decide +kernel
theorem dX7_add_10 : decode cX7_add 10 = .ok (.iand, 1) := by decide +kernel
theorem dX7_add_11 : decode cX7_add 11 = .ok (.iload_n 1, 1) := by decide +kernel
theorem dX7_add_12 : decode cX7_add 12 = .ok (.iastore, 1) := by decide +kernel
theorem dX7_add_13 : decode cX7_add 13 = .ok (.aload_n 0, 1) := by decide +kernel
theorem dX7_add_14 : decode cX7_add 14 = .ok (.dup, 1) := by decide +kernel
theorem dX7_add_15 : decode cX7_add 15 = .ok (.getfield 9, 3) := by decide +kernel
theorem dX7_add_18 : decode cX7_add 18 = .ok (.iconst 1, 1) := by decide +kernel
theorem dX7_add_19 : decode cX7_add 19 = .ok (.iadd, 1) := by decide +kernel
theorem dX7_add_20 : decode cX7_add 20 = .ok (.putfield 9, 3) := by decide +kernel
theorem dX7_add_23 : decode cX7_add 23 = .ok (.aload_n 0, 1) := by decide +kernel
theorem dX7_add_24 : decode cX7_add 24 = .ok (.iload_n 1, 1) := by decide +kernel
theorem dX7_add_25 : decode cX7_add 25 = .ok (.putfield 15, 3) := by decide +kernel
theorem dX7_add_28 : decode cX7_add 28 = .ok (.iload_n 2, 1) := by decide +kernel
theorem dX7_add_29 : decode cX7_add 29 = .ok (.ifCond .ne 20, 3) := by decide +kernel
theorem dX7_add_32 : decode cX7_add 32 = .ok (.iload_n 1, 1) := by decide +kernel
theorem dX7_add_33 : decode cX7_add 33 = .ok (.sipush (-16384), 3) := by decide +kernel
theorem dX7_add_36 : decode cX7_add 36 = .ok (.sipush 16383, 3) := by decide +kernel
theorem dX7_add_39 : decode cX7_add 39 = .ok (.invokestatic 25, 3) := by decide +kernel
theorem dX7_add_42 : decode cX7_add 42 = .ok (.ifCond .eq 7, 3) := by decide +kernel
theorem dX7_add_45 : decode cX7_add 45 = .ok (.iconst 1, 1) := by decide +kernel
theorem dX7_add_46 : decode cX7_add 46 = .ok (.goto 4, 3) := by decide +kernel
theorem dX7_add_49 : decode cX7_add 49 = .ok (.iconst 0, 1) := by decide +kernel
theorem dX7_add_50 : decode cX7_add 50 = .ok (.istore_n 3, 1) := by decide +kernel
theorem dX7_add_51 : decode cX7_add 51 = .ok (.aload_n 0, 1) := by decide +kernel
theorem dX7_add_52 : decode cX7_add 52 = .ok (.iload_n 3, 1) := by decide +kernel
theorem dX7_add_53 : decode cX7_add 53 = .ok (.ifCond .eq 12, 3) := by decide +kernel
theorem dX7_add_56 : decode cX7_add 56 = .ok (.aload_n 0, 1) := by decide +kernel
theorem dX7_add_57 : decode cX7_add 57 = .ok (.getfield 18, 3) := by decide +kernel
theorem dX7_add_60 : decode cX7_add 60 = .ok (.iconst 1, 1) := by decide +kernel
theorem dX7_add_61 : decode cX7_add 61 = .ok (.iadd, 1) := by decide +kernel
theorem dX7_add_62 : decode cX7_add 62 = .ok (.goto 4, 3) := by decide +kernel
theorem dX7_add_65 : decode cX7_add 65 = .ok (.iconst 0, 1) := by decide +kernel
theorem dX7_add_66 : decode cX7_add 66 = .ok (.putfield 18, 3) := by decide +kernel
theorem dX7_add_69 : decode cX7_add 69 = .ok (.return_, 1) := by decide +kernel
theorem dX7_isSteady_0 : decode cX7_isSteady 0 = .ok (.aload_n 0, 1) := by decide +kernel
theorem dX7_isSteady_1 : decode cX7_isSteady 1 = .ok (.getfield 18, 3) := by decide +kernel
theorem dX7_isSteady_4 : decode cX7_isSteady 4 = .ok (.bipush 32, 2) := by decide +kernel
theorem dX7_isSteady_6 : decode cX7_isSteady 6 = .ok (.if_icmp .lt 7, 3) := by decide +kernel
theorem dX7_isSteady_9 : decode cX7_isSteady 9 = .ok (.iconst 1, 1) := by decide +kernel
theorem dX7_isSteady_10 : decode cX7_isSteady 10 = .ok (.goto 4, 3) := by decide +kernel
theorem dX7_isSteady_13 : decode cX7_isSteady 13 = .ok (.iconst 0, 1) := by decide +kernel
theorem dX7_isSteady_14 : decode cX7_isSteady 14 = .ok (.ireturn, 1) := by decide +kernel
theorem dX7_sumAbsolutes_0 : decode cX7_sumAbsolutes 0 = .ok (.iconst 0, 1) := by decide +kernel
theorem dX7_sumAbsolutes_1 : decode cX7_sumAbsolutes 1 = .ok (.istore_n 1, 1) := by decide +kernel
theorem dX7_sumAbsolutes_2 : decode cX7_sumAbsolutes 2 = .ok (.iconst 0, 1) := by decide +kernel
theorem dX7_sumAbsolutes_3 : decode cX7_sumAbsolutes 3 = .ok (.istore_n 2, 1) := by decide +kernel
theorem dX7_sumAbsolutes_4 : decode cX7_sumAbsolutes 4 = .ok (.iload_n 2, 1) := by decide +kernel
theorem dX7_sumAbsolutes_5 : decode cX7_sumAbsolutes 5 = .ok (.bipush 32, 2) := by decide +kernel
theorem dX7_sumAbsolutes_7 : decode cX7_sumAbsolutes 7 = .ok (.if_icmp .ge 21, 3) := by decide +kernel
theorem dX7_sumAbsolutes_10 : decode cX7_sumAbsolutes 10 = .ok (.iload_n 1, 1) := by decide +kernel
theorem dX7_sumAbsolutes_11 : decode cX7_sumAbsolutes 11 = .ok (.aload_n 0, 1) := by decide +kernel
theorem dX7_sumAbsolutes_12 : decode cX7_sumAbsolutes 12 = .ok (.getfield 21, 3) := by decide +kernel
theorem dX7_sumAbsolutes_15 : decode cX7_sumAbsolutes 15 = .ok (.iload_n 2, 1) := by decide +kernel
theorem dX7_sumAbsolutes_16 : decode cX7_sumAbsolutes 16 = .ok (.iaload, 1) := by decide +kernel
theorem dX7_sumAbsolutes_17 : decode cX7_sumAbsolutes 17 = .ok (.invokestatic 29, 3) := by decide +kernel
theorem dX7_sumAbsolutes_20 : decode cX7_sumAbsolutes 20 = .ok (.iadd, 1) := by decide +kernel
theorem dX7_sumAbsolutes_21 : decode cX7_sumAbsolutes 21 = .ok (.istore_n 1, 1) := by decide +kernel
theorem dX7_sumAbsolutes_22 : decode cX7_sumAbsolutes 22 = .ok (.iinc 2 1, 3) := by decide +kernel
theorem dX7_sumAbsolutes_25 : decode cX7_sumAbsolutes 25 = .ok (.goto (-21), 3) := by decide +kernel
theorem dX7_sumAbsolutes_28 : decode cX7_sumAbsolutes 28 = .ok (.iload_n 1, 1) := by decide +kernel
theorem dX7_sumAbsolutes_29 : decode cX7_sumAbsolutes 29 = .ok (.ireturn, 1) := by decide +kernel
theorem dX8_init_0 : decode cX8_init 0 = .ok (.aload_n 0, 1) := by decide +kernel
theorem dX8_init_1 : decode cX8_init 1 = .ok (.invokespecial 1, 3) := by decide +kernel
theorem dX8_init_4 : decode cX8_init 4 = .ok (.aload_n 0, 1) := by decide +kernel
theorem dX8_init_5 : decode cX8_init 5 = .ok (.iconst 0, 1) := by decide +kernel
theorem dX8_init_6 : decode cX8_init 6 = .ok (.putfield 7, 3) := by decide +kernel
theorem dX8_init_9 : decode cX8_init 9 = .ok (.aload_n 0, 1) := by decide +kernel
theorem dX8_init_10 : decode cX8_init 10 = .ok (.iconst 0, 1) := by decide +kernel
theorem dX8_init_11 : decode cX8_init 11 = .ok (.putfield 13, 3) := by decide +kernel
theorem dX8_init_14 : decode cX8_init 14 = .ok (.aload_n 0, 1) := by decide +kernel
theorem dX8_init_15 : decode cX8_init 15 = .ok (.iconst 0, 1) := by decide +kernel
theorem dX8_init_16 : decode cX8_init 16 = .ok (.putfield 16, 3) := by decide +kernel
theorem dX8_init_19 : decode cX8_init 19 = .ok (.aload_n 0, 1) := by decide +kernel
theorem dX8_init_20 : decode cX8_init 20 = .ok (.iconst 0, 1) := by decide +kernel
theorem dX8_init_21 : decode cX8_init 21 = .ok (.putfield 20, 3) := by decide +kernel
theorem dX8_init_24 : decode cX8_init 24 = .ok (.return_, 1) := by decide +kernel
theorem dX8_compare_0 : decode cX8_compare 0 = .ok (.aload_n 0, 1) := by decide +kernel
theorem dX8_compare_1 : decode cX8_compare 1 = .ok (.getfield 16, 3) := by decide +kernel
theorem dX8_compare_4 : decode cX8_compare 4 = .ok (.ifCond .eq 12, 3) := by decide +kernel
theorem dX8_compare_7 : decode cX8_compare 7 = .ok (.iload_n 1, 1) := by decide +kernel
theorem dX8_compare_8 : decode cX8_compare 8 = .ok (.aload_n 0, 1) := by decide +kernel
theorem dX8_compare_9 : decode cX8_compare 9 = .ok (.getfield 20, 3) := by decide +kernel
theorem dX8_compare_12 : decode cX8_compare 12 = .ok (.isub, 1) := by decide +kernel
theorem dX8_compare_13 : decode cX8_compare 13 = .ok (.goto 4, 3) := by decide +kernel
theorem dX8_compare_16 : decode cX8_compare 16 = .ok (.iconst 1, 1) := by decide +kernel
theorem dX8_compare_17 : decode cX8_compare 17 = .ok (.istore_n 2, 1) := by decide +kernel
theorem dX8_compare_18 : decode cX8_compare 18 = .ok (.aload_n 0, 1) := by decide +kernel
theorem dX8_compare_19 : decode cX8_compare 19 = .ok (.iconst 1, 1) := by decide +kernel
theorem dX8_compare_20 : decode cX8_compare 20 = .ok (.putfield 16, 3) := by decide +kernel
theorem dX8_compare_23 : decode cX8_compare 23 = .ok (.aload_n 0, 1) := by decide +kernel
theorem dX8_compare_24 : decode cX8_compare 24 = .ok (.iload_n 1, 1) := by decide +kernel
theorem dX8_compare_25 : decode cX8_compare 25 = .ok (.putfield 20, 3) := by decide +kernel
theorem dX8_compare_28 : decode cX8_compare 28 = .ok (.iload_n 2, 1) := by decide +kernel
theorem dX8_compare_29 : decode cX8_compare 29 = .ok (.ifCond .ne 16, 3) := by decide +kernel
theorem dX8_compare_32 : decode cX8_compare 32 = .ok (.aload_n 0, 1) := by decide +kernel
theorem dX8_compare_33 : decode cX8_compare 33 = .ok (.dup, 1) := by decide +kernel
theorem dX8_compare_34 : decode cX8_compare 34 = .ok (.getfield 7, 3) := by decide +kernel
theorem dX8_compare_37 : decode cX8_compare 37 = .ok (.iconst 1, 1) := by decide +kernel
theorem dX8_compare_38 : decode cX8_compare 38 = .ok (.iadd, 1) := by decide +kernel
theorem dX8_compare_39 : decode cX8_compare 39 = .ok (.putfield 7, 3) := by decide +kernel
theorem dX8_compare_42 : decode cX8_compare 42 = .ok (.goto 20, 3) := by decide +kernel
theorem dX8_compare_45 : decode cX8_compare 45 = .ok (.iload_n 2, 1) := by decide +kernel
theorem dX8_compare_46 : decode cX8_compare 46 = .ok (.iconst 1, 1) := by decide +kernel
theorem dX8_compare_47 : decode cX8_compare 47 = .ok (.if_icmp .le 15, 3) := by decide +kernel
theorem dX8_compare_50 : decode cX8_compare 50 = .ok (.aload_n 0, 1) := by decide +kernel
theorem dX8_compare_51 : decode cX8_compare 51 = .ok (.dup, 1) := by decide +kernel
theorem dX8_compare_52 : decode cX8_compare 52 = .ok (.getfield 13, 3) := by decide +kernel
theorem dX8_compare_55 : decode cX8_compare 55 = .ok (.iload_n 2, 1) := by decide +kernel
theorem dX8_compare_56 : decode cX8_compare 56 = .ok (.iconst 1, 1) := by decide +kernel
theorem dX8_compare_57 : decode cX8_compare 57 = .ok (.isub, 1) := by decide +kernel
theorem dX8_compare_58 : decode cX8_compare 58 = .ok (.iadd, 1) := by decide +kernel
theorem dX8_compare_59 : decode cX8_compare 59 = .ok (.putfield 13, 3) := by decide +kernel
theorem dX8_compare_62 : decode cX8_compare 62 = .ok (.iload_n 2, 1) := by decide +kernel
theorem dX8_compare_63 : decode cX8_compare 63 = .ok (.iconst 1, 1) := by decide +kernel
theorem dX8_compare_64 : decode cX8_compare 64 = .ok (.if_icmp .eq 7, 3) := by decide +kernel
theorem dX8_compare_67 : decode cX8_compare 67 = .ok (.iconst 1, 1) := by decide +kernel
theorem dX8_compare_68 : decode cX8_compare 68 = .ok (.goto 4, 3) := by decide +kernel
theorem dX8_compare_71 : decode cX8_compare 71 = .ok (.iconst 0, 1) := by decide +kernel
theorem dX8_compare_72 : decode cX8_compare 72 = .ok (.ireturn, 1) := by decide +kernel
theorem dX9_init_0 : decode cX9_init 0 = .ok (.aload_n 0, 1) := by decide +kernel
theorem dX9_init_1 : decode cX9_init 1 = .ok (.invokespecial 3, 3) := by decide +kernel
theorem dX9_init_4 : decode cX9_init 4 = .ok (.aload_n 0, 1) := by decide +kernel
theorem dX9_init_5 : decode cX9_init 5 = .ok (.iconst 0, 1) := by decide +kernel
theorem dX9_init_6 : decode cX9_init 6 = .ok (.putfield 9, 3) := by decide +kernel
theorem dX9_init_9 : decode cX9_init 9 = .ok (.aload_n 0, 1) := by decide +kernel
theorem dX9_init_10 : decode cX9_init 10 = .ok (.sipush 4096, 3) := by decide +kernel
theorem dX9_init_13 : decode cX9_init 13 = .ok (.putfield 15, 3) := by decide +kernel
theorem dX9_init_16 : decode cX9_init 16 = .ok (.aload_n 0, 1) := by decide +kernel
theorem dX9_init_17 : decode cX9_init 17 = .ok (.iconst 0, 1) := by decide +kernel
theorem dX9_init_18 : decode cX9_init 18 = .ok (.putfield 18, 3) := by decide +kernel
theorem dX9_init_21 : decode cX9_init 21 = .ok (.aload_n 0, 1) := by decide +kernel
theorem dX9_init_22 : decode cX9_init 22 = .ok (.lconst 1, 1) := by decide +kernel
theorem dX9_init_23 : decode cX9_init 23 = .ok (.putfield 21, 3) := by decide +kernel
theorem dX9_init_26 : decode cX9_init 26 = .ok (.aload_n 0, 1) := by decide +kernel
theorem dX9_init_27 : decode cX9_init 27 = .ok (.iconst 0, 1) := by decide +kernel
theorem dX9_init_28 : decode cX9_init 28 = .ok (.putfield 25, 3) := by decide +kernel
theorem dX9_init_31 : decode cX9_init 31 = .ok (.aload_n 0, 1) := by decide +kernel
theorem dX9_init_32 : decode cX9_init 32 = .ok (.iconst 1, 1) := by decide +kernel
theorem dX9_init_33 : decode cX9_init 33 = .ok (.putfield 28, 3) := by decide +kernel
theorem dX9_init_36 : decode cX9_init 36 = .ok (.aload_n 0, 1) := by decide +kernel
theorem dX9_init_37 : decode cX9_init 37 = .ok (.bipush 127, 2) := by decide +kernel
theorem dX9_init_39 : decode cX9_init 39 = .ok (.putfield 31, 3) := by decide +kernel
theorem dX9_init_42 : decode cX9_init 42 = .ok (.return_, 1) := by decide +kernel
set_option maxRecDepth 20000 in
theorem ggX9_advance_X9_drawDeviation : GoodIn wsX9_advance wsX9_drawDeviation := goodIn_r _ [8, 9, 10, 11, 12, 13, 14, 26, 27, 28, 29, 30, 31, 32] (by decide +kernel) (by decide +kernel)
set_option maxRecDepth 20000 in
theorem gX9_advance_X9_drawDeviation : GoodIn wsX9_advance (wsV RX9 34 RX9 yX9_drawDeviation wsX9_drawDeviation) := goodIn_app (goodIn_of _ (by decide +kernel)) ggX9_advance_X9_drawDeviation
set_option maxRecDepth 20000 in
theorem ggX9_advance_X9_sendNextBit : GoodIn wsX9_advance wsX9_sendNextBit := goodIn_r _ [18, 19, 20, 21, 22, 23, 7, 24, 25, 26, 27, 28, 29, 30, 31, 32] (by decide +kernel) (by decide +kernel)
set_option maxRecDepth 20000 in
theorem gX9_advance_X9_sendNextBit : GoodIn wsX9_advance (wsV RX9 39 RX9 yX9_sendNextBit wsX9_sendNextBit) := goodIn_app (goodIn_of _ (by decide +kernel)) ggX9_advance_X9_sendNextBit
theorem dX9_advance_0 : decode cX9_advance 0 = .ok (.aload_n 0, 1) := by decide +kernel
theorem dX9_advance_1 : decode cX9_advance 1 = .ok (.dup, 1) := by decide +kernel
theorem dX9_advance_2 : decode cX9_advance 2 = .ok (.getfield 9, 3) := by decide +kernel
theorem dX9_advance_5 : decode cX9_advance 5 = .ok (.aload_n 0, 1) := by decide +kernel
theorem dX9_advance_6 : decode cX9_advance 6 = .ok (.getfield 15, 3) := by decide +kernel
theorem dX9_advance_9 : decode cX9_advance 9 = .ok (.aload_n 0, 1) := by decide +kernel
theorem dX9_advance_10 : decode cX9_advance 10 = .ok (.invokevirtual 34, 3) := by decide +kernel
theorem dX9_advance_13 : decode cX9_advance 13 = .ok (.iadd, 1) := by decide +kernel
theorem dX9_advance_14 : decode cX9_advance 14 = .ok (.iadd, 1) := by decide +kernel
theorem dX9_advance_15 : decode cX9_advance 15 = .ok (.putfield 9, 3) := by decide +kernel
theorem dX9_advance_18 : decode cX9_advance 18 = .ok (.aload_n 0, 1) := by decide +kernel
theorem dX9_advance_19 : decode cX9_advance 19 = .ok (.getfield 9, 3) := by decide +kernel
theorem dX9_advance_22 : decode cX9_advance 22 = .ok (.ldc 38, 2) := by decide +kernel
theorem dX9_advance_24 : decode cX9_advance 24 = .ok (.if_icmp .lt 18, 3) := by decide +kernel
theorem dX9_advance_27 : decode cX9_advance 27 = .ok (.aload_n 0, 1) := by decide +kernel
theorem dX9_advance_28 : decode cX9_advance 28 = .ok (.dup, 1) := by decide +kernel
theorem dX9_advance_29 : decode cX9_advance 29 = .ok (.getfield 9, 3) := by decide +kernel
theorem dX9_advance_32 : decode cX9_advance 32 = .ok (.ldc 38, 2) := by decide +kernel
theorem dX9_advance_34 : decode cX9_advance 34 = .ok (.isub, 1) := by decide +kernel
theorem dX9_advance_35 : decode cX9_advance 35 = .ok (.putfield 9, 3) := by decide +kernel
theorem dX9_advance_38 : decode cX9_advance 38 = .ok (.aload_n 0, 1) := by decide +kernel
theorem dX9_advance_39 : decode cX9_advance 39 = .ok (.invokevirtual 39, 3) := by decide +kernel
theorem dX9_advance_42 : decode cX9_advance 42 = .ok (.return_, 1) := by decide +kernel
theorem dX9_drawDeviation_0 : decode cX9_drawDeviation 0 = .ok (.aload_n 0, 1) := by decide +kernel
theorem dX9_drawDeviation_1 : decode cX9_drawDeviation 1 = .ok (.getfield 18, 3) := by decide +kernel
theorem dX9_drawDeviation_4 : decode cX9_drawDeviation 4 = .ok (.ifCond .ne 5, 3) := by decide +kernel
theorem dX9_drawDeviation_7 : decode cX9_drawDeviation 7 = .ok (.iconst 0, 1) := by decide +kernel
theorem dX9_drawDeviation_8 : decode cX9_drawDeviation 8 = .ok (.ireturn, 1) := by decide +kernel
theorem dX9_drawDeviation_9 : decode cX9_drawDeviation 9 = .ok (.aload_n 0, 1) := by decide +kernel
theorem dX9_drawDeviation_10 : decode cX9_drawDeviation 10 = .ok (.ldc2_w 42, 3) := by decide +kernel
theorem dX9_drawDeviation_13 : decode cX9_drawDeviation 13 = .ok (.aload_n 0, 1) := by decide +kernel
theorem dX9_drawDeviation_14 : decode cX9_drawDeviation 14 = .ok (.getfield 21, 3) := by decide +kernel
theorem dX9_drawDeviation_17 : decode cX9_drawDeviation 17 = .ok (.lmul, 1) := by decide +kernel
theorem dX9_drawDeviation_18 : decode cX9_drawDeviation 18 = .ok (.ldc2_w 44, 3) := by decide +kernel
theorem dX9_drawDeviation_21 : decode cX9_drawDeviation 21 = .ok (.ladd, 1) := by decide +kernel
theorem dX9_drawDeviation_22 : decode cX9_drawDeviation 22 = .ok (.ldc2_w 46, 3) := by decide +kernel
theorem dX9_drawDeviation_25 : decode cX9_drawDeviation 25 = .ok (.lrem, 1) := by decide +kernel
theorem dX9_drawDeviation_26 : decode cX9_drawDeviation 26 = .ok (.putfield 21, 3) := by decide +kernel
theorem dX9_drawDeviation_29 : decode cX9_drawDeviation 29 = .ok (.aload_n 0, 1) := by decide +kernel
theorem dX9_drawDeviation_30 : decode cX9_drawDeviation 30 = .ok (.getfield 21, 3) := by decide +kernel
theorem dX9_drawDeviation_33 : decode cX9_drawDeviation 33 = .ok (.ldc2_w 48, 3) := by decide +kernel
theorem dX9_drawDeviation_36 : decode cX9_drawDeviation 36 = .ok (.ldiv, 1) := by decide +kernel
theorem dX9_drawDeviation_37 : decode cX9_drawDeviation 37 = .ok (.l2i, 1) := by decide +kernel
theorem dX9_drawDeviation_38 : decode cX9_drawDeviation 38 = .ok (.istore_n 1, 1) := by decide +kernel
theorem dX9_drawDeviation_39 : decode cX9_drawDeviation 39 = .ok (.iload_n 1, 1) := by decide +kernel
theorem dX9_drawDeviation_40 : decode cX9_drawDeviation 40 = .ok (.iconst 2, 1) := by decide +kernel
theorem dX9_drawDeviation_41 : decode cX9_drawDeviation 41 = .ok (.aload_n 0, 1) := by decide +kernel
theorem dX9_drawDeviation_42 : decode cX9_drawDeviation 42 = .ok (.getfield 18, 3) := by decide +kernel
theorem dX9_drawDeviation_45 : decode cX9_drawDeviation 45 = .ok (.imul, 1) := by decide +kernel
theorem dX9_drawDeviation_46 : decode cX9_drawDeviation 46 = .ok (.iconst 1, 1) := by decide +kernel
theorem dX9_drawDeviation_47 : decode cX9_drawDeviation 47 = .ok (.iadd, 1) := by decide +kernel
theorem dX9_drawDeviation_48 : decode cX9_drawDeviation 48 = .ok (.irem, 1) := by decide +kernel
theorem dX9_drawDeviation_49 : decode cX9_drawDeviation 49 = .ok (.aload_n 0, 1) := by decide +kernel
theorem dX9_drawDeviation_50 : decode cX9_drawDeviation 50 = .ok (.getfield 18, 3) := by decide +kernel
theorem dX9_drawDeviation_53 : decode cX9_drawDeviation 53 = .ok (.isub, 1) := by decide +kernel
theorem dX9_drawDeviation_54 : decode cX9_drawDeviation 54 = .ok (.ireturn, 1) := by decide +kernel
set_option maxRecDepth 20000 in
theorem ggX9_sendNextBit_X9_shiftRegister : GoodIn wsX9_sendNextBit wsX9_shiftRegister := goodIn_r _ [7, 8, 9, 10, 11, 12, 13, 14, 15] (by decide +kernel) (by decide +kernel)
set_option maxRecDepth 20000 in
theorem gX9_sendNextBit_X9_shiftRegister : GoodIn wsX9_sendNextBit (wsV RX9 50 RX9 yX9_shiftRegister wsX9_shiftRegister) := goodIn_app (goodIn_of _ (by decide +kernel)) ggX9_sendNextBit_X9_shiftRegister
theorem dX9_sendNextBit_0 : decode cX9_sendNextBit 0 = .ok (.aload_n 0, 1) := by decide +kernel
theorem dX9_sendNextBit_1 : decode cX9_sendNextBit 1 = .ok (.dup, 1) := by decide +kernel
theorem dX9_sendNextBit_2 : decode cX9_sendNextBit 2 = .ok (.getfield 25, 3) := by decide +kernel
theorem dX9_sendNextBit_5 : decode cX9_sendNextBit 5 = .ok (.iconst 1, 1) := by decide +kernel
theorem dX9_sendNextBit_6 : decode cX9_sendNextBit 6 = .ok (.iadd, 1) := by decide +kernel
theorem dX9_sendNextBit_7 : decode cX9_sendNextBit 7 = .ok (.putfield 25, 3) := by decide +kernel
theorem dX9_sendNextBit_10 : decode cX9_sendNextBit 10 = .ok (.aload_n 0, 1) := by decide +kernel
theorem dX9_sendNextBit_11 : decode cX9_sendNextBit 11 = .ok (.getfield 25, 3) := by decide +kernel
theorem dX9_sendNextBit_14 : decode cX9_sendNextBit 14 = .ok (.bipush 24, 2) := by decide +kernel
theorem dX9_sendNextBit_16 : decode cX9_sendNextBit 16 = .ok (.irem, 1) := by decide +kernel
theorem dX9_sendNextBit_17 : decode cX9_sendNextBit 17 = .ok (.istore_n 1, 1) := by decide +kernel
theorem dX9_sendNextBit_18 : decode cX9_sendNextBit 18 = .ok (.iload_n 1, 1) := by decide +kernel
theorem dX9_sendNextBit_19 : decode cX9_sendNextBit 19 = .ok (.bipush 6, 2) := by decide +kernel
theorem dX9_sendNextBit_21 : decode cX9_sendNextBit 21 = .ok (.if_icmp .ge 18, 3) := by decide +kernel
theorem dX9_sendNextBit_24 : decode cX9_sendNextBit 24 = .ok (.aload_n 0, 1) := by decide +kernel
theorem dX9_sendNextBit_25 : decode cX9_sendNextBit 25 = .ok (.bipush 52, 2) := by decide +kernel
theorem dX9_sendNextBit_27 : decode cX9_sendNextBit 27 = .ok (.iconst 5, 1) := by decide +kernel
theorem dX9_sendNextBit_28 : decode cX9_sendNextBit 28 = .ok (.iload_n 1, 1) := by decide +kernel
theorem dX9_sendNextBit_29 : decode cX9_sendNextBit 29 = .ok (.isub, 1) := by decide +kernel
theorem dX9_sendNextBit_30 : decode cX9_sendNextBit 30 = .ok (.ishr, 1) := by decide +kernel
theorem dX9_sendNextBit_31 : decode cX9_sendNextBit 31 = .ok (.iconst 1, 1) := by decide +kernel
theorem dX9_sendNextBit_32 : decode cX9_sendNextBit 32 = .ok (.iand, 1) := by decide +kernel
theorem dX9_sendNextBit_33 : decode cX9_sendNextBit 33 = .ok (.putfield 28, 3) := by decide +kernel
theorem dX9_sendNextBit_36 : decode cX9_sendNextBit 36 = .ok (.goto 11, 3) := by decide +kernel
theorem dX9_sendNextBit_39 : decode cX9_sendNextBit 39 = .ok (.aload_n 0, 1) := by decide +kernel
theorem dX9_sendNextBit_40 : decode cX9_sendNextBit 40 = .ok (.aload_n 0, 1) := by decide +kernel
theorem dX9_sendNextBit_41 : decode cX9_sendNextBit 41 = .ok (.invokevirtual 50, 3) := by decide +kernel
theorem dX9_sendNextBit_44 : decode cX9_sendNextBit 44 = .ok (.putfield 28, 3) := by decide +kernel
theorem dX9_sendNextBit_47 : decode cX9_sendNextBit 47 = .ok (.return_, 1) := by decide +kernel
theorem dX9_shiftRegister_0 : decode cX9_shiftRegister 0 = .ok (.aload_n 0, 1) := by decide +kernel
theorem dX9_shiftRegister_1 : decode cX9_shiftRegister 1 = .ok (.getfield 31, 3) := by decide +kernel
theorem dX9_shiftRegister_4 : decode cX9_shiftRegister 4 = .ok (.iconst 1, 1) := by decide +kernel
theorem dX9_shiftRegister_5 : decode cX9_shiftRegister 5 = .ok (.iand, 1) := by decide +kernel
theorem dX9_shiftRegister_6 : decode cX9_shiftRegister 6 = .ok (.istore_n 1, 1) := by decide +kernel
theorem dX9_shiftRegister_7 : decode cX9_shiftRegister 7 = .ok (.aload_n 0, 1) := by decide +kernel
theorem dX9_shiftRegister_8 : decode cX9_shiftRegister 8 = .ok (.getfield 31, 3) := by decide +kernel
theorem dX9_shiftRegister_11 : decode cX9_shiftRegister 11 = .ok (.iconst 1, 1) := by decide +kernel
theorem dX9_shiftRegister_12 : decode cX9_shiftRegister 12 = .ok (.ishr, 1) := by decide +kernel
theorem dX9_shiftRegister_13 : decode cX9_shiftRegister 13 = .ok (.iconst 1, 1) := by decide +kernel
theorem dX9_shiftRegister_14 : decode cX9_shiftRegister 14 = .ok (.iand, 1) := by decide +kernel
theorem dX9_shiftRegister_15 : decode cX9_shiftRegister 15 = .ok (.istore_n 2, 1) := by decide +kernel
theorem dX9_shiftRegister_16 : decode cX9_shiftRegister 16 = .ok (.aload_n 0, 1) := by decide +kernel
theorem dX9_shiftRegister_17 : decode cX9_shiftRegister 17 = .ok (.aload_n 0, 1) := by decide +kernel
theorem dX9_shiftRegister_18 : decode cX9_shiftRegister 18 = .ok (.getfield 31, 3) := by decide +kernel
theorem dX9_shiftRegister_21 : decode cX9_shiftRegister 21 = .ok (.iconst 1, 1) := by decide +kernel
theorem dX9_shiftRegister_22 : decode cX9_shiftRegister 22 = .ok (.ishr, 1) := by decide +kernel
theorem dX9_shiftRegister_23 : decode cX9_shiftRegister 23 = .ok (.iload_n 1, 1) := by decide +kernel
theorem dX9_shiftRegister_24 : decode cX9_shiftRegister 24 = .ok (.iload_n 2, 1) := by decide +kernel
theorem dX9_shiftRegister_25 : decode cX9_shiftRegister 25 = .ok (.ixor, 1) := by decide +kernel
theorem dX9_shiftRegister_26 : decode cX9_shiftRegister 26 = .ok (.bipush 6, 2) := by decide +kernel
theorem dX9_shiftRegister_28 : decode cX9_shiftRegister 28 = .ok (.ishl, 1) := by decide +kernel
theorem dX9_shiftRegister_29 : decode cX9_shiftRegister 29 = .ok (.ior, 1) := by decide +kernel
theorem dX9_shiftRegister_30 : decode cX9_shiftRegister 30 = .ok (.putfield 31, 3) := by decide +kernel
theorem dX9_shiftRegister_33 : decode cX9_shiftRegister 33 = .ok (.iload_n 1, 1) := by decide +kernel
theorem dX9_shiftRegister_34 : decode cX9_shiftRegister 34 = .ok (.ireturn, 1) := by decide +kernel
set_option maxRecDepth 20000 in
theorem ggX10_init_X9_init : GoodIn wsX10_init wsX9_init := goodIn_r _ [45, 46, 2, 3, 47, 48, 49, 50, 51, 52, 53, 116, 117, 118, 119, 120, 121, 122] (by decide +kernel) (by decide +kernel)
set_option maxRecDepth 20000 in
theorem gX10_init_X9_init_n9 : GoodIn wsX10_init (wsX9_init) := ggX10_init_X9_init
set_option maxRecDepth 20000 in
theorem ggX10_init_X3_init : GoodIn wsX10_init wsX3_init := goodIn_r _ [55, 56, 2, 3, 57, 58, 133] (by decide +kernel) (by decide +kernel)
set_option maxRecDepth 20000 in
theorem gX10_init_X3_init_n18 : GoodIn wsX10_init (wsX3_init) := ggX10_init_X3_init
set_option maxRecDepth 20000 in
theorem ggX10_init_X2_init : GoodIn wsX10_init wsX2_init := goodIn_r _ [60, 61, 2, 3, 62, 63, 64, 134, 135] (by decide +kernel) (by decide +kernel)
set_option maxRecDepth 20000 in
theorem gX10_init_X2_init_n25 : GoodIn wsX10_init (wsX2_init) := ggX10_init_X2_init
set_option maxRecDepth 20000 in
theorem ggX10_init_X5_init : GoodIn wsX10_init wsX5_init := goodIn_r _ [66, 67, 2, 3, 68, 136] (by decide +kernel) (by decide +kernel)
set_option maxRecDepth 20000 in
theorem gX10_init_X5_init_n32 : GoodIn wsX10_init (wsX5_init) := ggX10_init_X5_init
set_option maxRecDepth 20000 in
theorem ggX10_init_X6_init : GoodIn wsX10_init wsX6_init := goodIn_r _ [70, 71, 2, 3, 72, 73, 74, 75, 76, 77, 78, 137, 138, 139, 140, 141, 142, 143] (by decide +kernel) (by decide +kernel)
set_option maxRecDepth 20000 in
theorem gX10_init_X6_init_n39 : GoodIn wsX10_init (wsX6_init) := ggX10_init_X6_init
set_option maxRecDepth 20000 in
theorem ggX10_init_X4_init : GoodIn wsX10_init wsX4_init := goodIn_r _ [80, 81, 2, 3, 82, 83, 84, 85, 86, 144, 145, 146, 147, 148] (by decide +kernel) (by decide +kernel)
set_option maxRecDepth 20000 in
theorem gX10_init_X4_init_n46 : GoodIn wsX10_init (wsX4_init) := ggX10_init_X4_init
set_option maxRecDepth 20000 in
theorem ggX10_init_X1_init : GoodIn wsX10_init wsX1_init := goodIn_r _ [88, 89, 2, 3, 90, 91, 149, 150] (by decide +kernel) (by decide +kernel)
set_option maxRecDepth 20000 in
theorem gX10_init_X1_init_n53 : GoodIn wsX10_init (wsX1_init) := ggX10_init_X1_init
set_option maxRecDepth 20000 in
theorem ggX10_init_X8_init : GoodIn wsX10_init wsX8_init := goodIn_r _ [93, 94, 2, 3, 95, 96, 97, 98, 151, 152, 153, 154] (by decide +kernel) (by decide +kernel)
set_option maxRecDepth 20000 in
theorem gX10_init_X8_init_n60 : GoodIn wsX10_init (wsX8_init) := ggX10_init_X8_init
set_option maxRecDepth 20000 in
theorem ggX10_init_X7_init : GoodIn wsX10_init wsX7_init := goodIn_r _ [100, 101, 2, 3, 102, 103, 104, 105, 106, 155, 156, 157, 158] (by decide +kernel) (by decide +kernel)
set_option maxRecDepth 20000 in
theorem gX10_init_X7_init_n67 : GoodIn wsX10_init (wsX7_init) := ggX10_init_X7_init
set_option maxRecDepth 20000 in
theorem ggX10_init_X0_init : GoodIn wsX10_init wsX0_init := goodIn_r _ [108, 109, 2, 3, 110, 111, 112, 113, 114, 115, 159, 160, 161, 162, 163, 164] (by decide +kernel) (by decide +kernel)
set_option maxRecDepth 20000 in
theorem gX10_init_X0_init_n74 : GoodIn wsX10_init (wsX0_init) := ggX10_init_X0_init
theorem dX10_init_0 : decode cX10_init 0 = .ok (.aload_n 0, 1) := by decide +kernel
