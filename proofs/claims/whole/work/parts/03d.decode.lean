theorem dX10_init_1 : decode cX10_init 1 = .ok (.invokespecial 1, 3) := by decide +kernel
theorem dX10_init_4 : decode cX10_init 4 = .ok (.aload_n 0, 1) := by decide +kernel
theorem dX10_init_5 : decode cX10_init 5 = .ok (.new 7, 3) := by decide +kernel
theorem dX10_init_8 : decode cX10_init 8 = .ok (.dup, 1) := by decide +kernel
theorem dX10_init_9 : decode cX10_init 9 = .ok (.invokespecial 9, 3) := by decide +kernel
theorem dX10_init_12 : decode cX10_init 12 = .ok (.putfield 10, 3) := by decide +kernel
theorem dX10_init_15 : decode cX10_init 15 = .ok (.aload_n 0, 1) := by decide +kernel
theorem dX10_init_16 : decode cX10_init 16 = .ok (.new 16, 3) := by decide +kernel
theorem dX10_init_19 : decode cX10_init 19 = .ok (.dup, 1) := by decide +kernel
theorem dX10_init_20 : decode cX10_init 20 = .ok (.invokespecial 18, 3) := by decide +kernel
theorem dX10_init_23 : decode cX10_init 23 = .ok (.putfield 19, 3) := by decide +kernel
theorem dX10_init_26 : decode cX10_init 26 = .ok (.aload_n 0, 1) := by decide +kernel
theorem dX10_init_27 : decode cX10_init 27 = .ok (.new 23, 3) := by decide +kernel
theorem dX10_init_30 : decode cX10_init 30 = .ok (.dup, 1) := by decide +kernel
theorem dX10_init_31 : decode cX10_init 31 = .ok (.invokespecial 25, 3) := by decide +kernel
theorem dX10_init_34 : decode cX10_init 34 = .ok (.putfield 26, 3) := by decide +kernel
theorem dX10_init_37 : decode cX10_init 37 = .ok (.aload_n 0, 1) := by decide +kernel
theorem dX10_init_38 : decode cX10_init 38 = .ok (.new 30, 3) := by decide +kernel
theorem dX10_init_41 : decode cX10_init 41 = .ok (.dup, 1) := by decide +kernel
theorem dX10_init_42 : decode cX10_init 42 = .ok (.invokespecial 32, 3) := by decide +kernel
theorem dX10_init_45 : decode cX10_init 45 = .ok (.putfield 33, 3) := by decide +kernel
theorem dX10_init_48 : decode cX10_init 48 = .ok (.aload_n 0, 1) := by decide +kernel
theorem dX10_init_49 : decode cX10_init 49 = .ok (.new 37, 3) := by decide +kernel
theorem dX10_init_52 : decode cX10_init 52 = .ok (.dup, 1) := by decide +kernel
theorem dX10_init_53 : decode cX10_init 53 = .ok (.invokespecial 39, 3) := by decide +kernel
theorem dX10_init_56 : decode cX10_init 56 = .ok (.putfield 40, 3) := by decide +kernel
theorem dX10_init_59 : decode cX10_init 59 = .ok (.aload_n 0, 1) := by decide +kernel
theorem dX10_init_60 : decode cX10_init 60 = .ok (.new 44, 3) := by decide +kernel
theorem dX10_init_63 : decode cX10_init 63 = .ok (.dup, 1) := by decide +kernel
theorem dX10_init_64 : decode cX10_init 64 = .ok (.invokespecial 46, 3) := by decide +kernel
theorem dX10_init_67 : decode cX10_init 67 = .ok (.putfield 47, 3) := by decide +kernel
theorem dX10_init_70 : decode cX10_init 70 = .ok (.aload_n 0, 1) := by decide +kernel
theorem dX10_init_71 : decode cX10_init 71 = .ok (.new 51, 3) := by decide +kernel
theorem dX10_init_74 : decode cX10_init 74 = .ok (.dup, 1) := by decide +kernel
theorem dX10_init_75 : decode cX10_init 75 = .ok (.invokespecial 53, 3) := by decide +kernel
theorem dX10_init_78 : decode cX10_init 78 = .ok (.putfield 54, 3) := by decide +kernel
theorem dX10_init_81 : decode cX10_init 81 = .ok (.aload_n 0, 1) := by decide +kernel
theorem dX10_init_82 : decode cX10_init 82 = .ok (.new 58, 3) := by decide +kernel
theorem dX10_init_85 : decode cX10_init 85 = .ok (.dup, 1) := by decide +kernel
theorem dX10_init_86 : decode cX10_init 86 = .ok (.invokespecial 60, 3) := by decide +kernel
theorem dX10_init_89 : decode cX10_init 89 = .ok (.putfield 61, 3) := by decide +kernel
theorem dX10_init_92 : decode cX10_init 92 = .ok (.aload_n 0, 1) := by decide +kernel
theorem dX10_init_93 : decode cX10_init 93 = .ok (.new 65, 3) := by decide +kernel
theorem dX10_init_96 : decode cX10_init 96 = .ok (.dup, 1) := by decide +kernel
theorem dX10_init_97 : decode cX10_init 97 = .ok (.invokespecial 67, 3) := by decide +kernel
theorem dX10_init_100 : decode cX10_init 100 = .ok (.putfield 68, 3) := by decide +kernel
theorem dX10_init_103 : decode cX10_init 103 = .ok (.aload_n 0, 1) := by decide +kernel
theorem dX10_init_104 : decode cX10_init 104 = .ok (.new 72, 3) := by decide +kernel
theorem dX10_init_107 : decode cX10_init 107 = .ok (.dup, 1) := by decide +kernel
theorem dX10_init_108 : decode cX10_init 108 = .ok (.invokespecial 74, 3) := by decide +kernel
theorem dX10_init_111 : decode cX10_init 111 = .ok (.putfield 75, 3) := by decide +kernel
theorem dX10_init_114 : decode cX10_init 114 = .ok (.return_, 1) := by decide +kernel
set_option maxRecDepth 20000 in
theorem ggX10_setOffset_X10_isWithin : GoodIn wsX10_setOffset wsX10_isWithin := goodIn_r _ [8] (by decide +kernel) (by decide +kernel)
set_option maxRecDepth 20000 in
theorem gX10_setOffset_X10_isWithin : GoodIn wsX10_setOffset (va_wsS RX10 79 yX10_isWithin wsX10_isWithin) := goodIn_app (goodIn_of _ (by decide +kernel)) ggX10_setOffset_X10_isWithin
theorem dX10_setOffset_0 : decode cX10_setOffset 0 = .ok (.iload_n 1, 1) := by decide +kernel
theorem dX10_setOffset_1 : decode cX10_setOffset 1 = .ok (.sipush (-300), 3) := by decide +kernel
theorem dX10_setOffset_4 : decode cX10_setOffset 4 = .ok (.sipush 300, 3) := by decide +kernel
theorem dX10_setOffset_7 : decode cX10_setOffset 7 = .ok (.invokestatic 79, 3) := by decide +kernel
theorem dX10_setOffset_10 : decode cX10_setOffset 10 = .ok (.ifCond .ne 13, 3) := by decide +kernel
theorem dX10_setOffset_13 : decode cX10_setOffset 13 = .ok (.new 83, 3) := by decide +kernel
theorem dX10_setOffset_16 : decode cX10_setOffset 16 = .ok (.dup, 1) := by decide +kernel
theorem dX10_setOffset_17 : decode cX10_setOffset 17 = .ok (.ldc 85, 2) := by decide +kernel
theorem dX10_setOffset_19 : decode cX10_setOffset 19 = .ok (.invokespecial 87, 3) := by decide +kernel
theorem dX10_setOffset_22 : decode cX10_setOffset 22 = .ok (.athrow, 1) := by decide +kernel
theorem dX10_setOffset_23 : decode cX10_setOffset 23 = .ok (.aload_n 0, 1) := by decide +kernel
theorem dX10_setOffset_24 : decode cX10_setOffset 24 = .ok (.getfield 10, 3) := by decide +kernel
theorem dX10_setOffset_27 : decode cX10_setOffset 27 = .ok (.sipush 4096, 3) := by decide +kernel
theorem dX10_setOffset_30 : decode cX10_setOffset 30 = .ok (.iload_n 1, 1) := by decide +kernel
theorem dX10_setOffset_31 : decode cX10_setOffset 31 = .ok (.iadd, 1) := by decide +kernel
theorem dX10_setOffset_32 : decode cX10_setOffset 32 = .ok (.putfield 90, 3) := by decide +kernel
theorem dX10_setOffset_35 : decode cX10_setOffset 35 = .ok (.aload_n 0, 1) := by decide +kernel
theorem dX10_setOffset_36 : decode cX10_setOffset 36 = .ok (.getfield 10, 3) := by decide +kernel
theorem dX10_setOffset_39 : decode cX10_setOffset 39 = .ok (.getfield 90, 3) := by decide +kernel
theorem dX10_setOffset_42 : decode cX10_setOffset 42 = .ok (.ireturn, 1) := by decide +kernel
set_option maxRecDepth 20000 in
theorem ggX10_setJitter_X10_isWithin : GoodIn wsX10_setJitter wsX10_isWithin := goodIn_r _ [9] (by decide +kernel) (by decide +kernel)
set_option maxRecDepth 20000 in
theorem gX10_setJitter_X10_isWithin : GoodIn wsX10_setJitter (va_wsS RX10 79 yX10_isWithin wsX10_isWithin) := goodIn_app (goodIn_of _ (by decide +kernel)) ggX10_setJitter_X10_isWithin
theorem dX10_setJitter_0 : decode cX10_setJitter 0 = .ok (.iload_n 1, 1) := by decide +kernel
theorem dX10_setJitter_1 : decode cX10_setJitter 1 = .ok (.iconst 0, 1) := by decide +kernel
theorem dX10_setJitter_2 : decode cX10_setJitter 2 = .ok (.sipush 2000, 3) := by decide +kernel
theorem dX10_setJitter_5 : decode cX10_setJitter 5 = .ok (.invokestatic 79, 3) := by decide +kernel
theorem dX10_setJitter_8 : decode cX10_setJitter 8 = .ok (.ifCond .ne 13, 3) := by decide +kernel
theorem dX10_setJitter_11 : decode cX10_setJitter 11 = .ok (.new 83, 3) := by decide +kernel
theorem dX10_setJitter_14 : decode cX10_setJitter 14 = .ok (.dup, 1) := by decide +kernel
theorem dX10_setJitter_15 : decode cX10_setJitter 15 = .ok (.ldc 94, 2) := by decide +kernel
theorem dX10_setJitter_17 : decode cX10_setJitter 17 = .ok (.invokespecial 87, 3) := by decide +kernel
theorem dX10_setJitter_20 : decode cX10_setJitter 20 = .ok (.athrow, 1) := by decide +kernel
theorem dX10_setJitter_21 : decode cX10_setJitter 21 = .ok (.iload_n 2, 1) := by decide +kernel
theorem dX10_setJitter_22 : decode cX10_setJitter 22 = .ok (.ifCond .ge 13, 3) := by decide +kernel
theorem dX10_setJitter_25 : decode cX10_setJitter 25 = .ok (.new 83, 3) := by decide +kernel
theorem dX10_setJitter_28 : decode cX10_setJitter 28 = .ok (.dup, 1) := by decide +kernel
theorem dX10_setJitter_29 : decode cX10_setJitter 29 = .ok (.ldc 96, 2) := by decide +kernel
theorem dX10_setJitter_31 : decode cX10_setJitter 31 = .ok (.invokespecial 87, 3) := by decide +kernel
theorem dX10_setJitter_34 : decode cX10_setJitter 34 = .ok (.athrow, 1) := by decide +kernel
theorem dX10_setJitter_35 : decode cX10_setJitter 35 = .ok (.aload_n 0, 1) := by decide +kernel
theorem dX10_setJitter_36 : decode cX10_setJitter 36 = .ok (.getfield 10, 3) := by decide +kernel
theorem dX10_setJitter_39 : decode cX10_setJitter 39 = .ok (.iload_n 1, 1) := by decide +kernel
theorem dX10_setJitter_40 : decode cX10_setJitter 40 = .ok (.putfield 98, 3) := by decide +kernel
theorem dX10_setJitter_43 : decode cX10_setJitter 43 = .ok (.aload_n 0, 1) := by decide +kernel
theorem dX10_setJitter_44 : decode cX10_setJitter 44 = .ok (.getfield 10, 3) := by decide +kernel
theorem dX10_setJitter_47 : decode cX10_setJitter 47 = .ok (.iload_n 2, 1) := by decide +kernel
theorem dX10_setJitter_48 : decode cX10_setJitter 48 = .ok (.i2l, 1) := by decide +kernel
theorem dX10_setJitter_49 : decode cX10_setJitter 49 = .ok (.putfield 101, 3) := by decide +kernel
theorem dX10_setJitter_52 : decode cX10_setJitter 52 = .ok (.return_, 1) := by decide +kernel
set_option maxRecDepth 20000 in
theorem ggX10_setDetector_X10_isWithin : GoodIn wsX10_setDetector wsX10_isWithin := goodIn_r _ [8] (by decide +kernel) (by decide +kernel)
set_option maxRecDepth 20000 in
theorem gX10_setDetector_X10_isWithin : GoodIn wsX10_setDetector (va_wsS RX10 79 yX10_isWithin wsX10_isWithin) := goodIn_app (goodIn_of _ (by decide +kernel)) ggX10_setDetector_X10_isWithin
theorem dX10_setDetector_0 : decode cX10_setDetector 0 = .ok (.iload_n 1, 1) := by decide +kernel
theorem dX10_setDetector_1 : decode cX10_setDetector 1 = .ok (.iconst 0, 1) := by decide +kernel
theorem dX10_setDetector_2 : decode cX10_setDetector 2 = .ok (.iconst 4, 1) := by decide +kernel
theorem dX10_setDetector_3 : decode cX10_setDetector 3 = .ok (.invokestatic 79, 3) := by decide +kernel
theorem dX10_setDetector_6 : decode cX10_setDetector 6 = .ok (.ifCond .ne 13, 3) := by decide +kernel
theorem dX10_setDetector_9 : decode cX10_setDetector 9 = .ok (.new 83, 3) := by decide +kernel
theorem dX10_setDetector_12 : decode cX10_setDetector 12 = .ok (.dup, 1) := by decide +kernel
theorem dX10_setDetector_13 : decode cX10_setDetector 13 = .ok (.ldc 105, 2) := by decide +kernel
theorem dX10_setDetector_15 : decode cX10_setDetector 15 = .ok (.invokespecial 87, 3) := by decide +kernel
theorem dX10_setDetector_18 : decode cX10_setDetector 18 = .ok (.athrow, 1) := by decide +kernel
theorem dX10_setDetector_19 : decode cX10_setDetector 19 = .ok (.aload_n 0, 1) := by decide +kernel
theorem dX10_setDetector_20 : decode cX10_setDetector 20 = .ok (.getfield 40, 3) := by decide +kernel
theorem dX10_setDetector_23 : decode cX10_setDetector 23 = .ok (.getfield 107, 3) := by decide +kernel
theorem dX10_setDetector_26 : decode cX10_setDetector 26 = .ok (.istore_n 2, 1) := by decide +kernel
theorem dX10_setDetector_27 : decode cX10_setDetector 27 = .ok (.aload_n 0, 1) := by decide +kernel
theorem dX10_setDetector_28 : decode cX10_setDetector 28 = .ok (.getfield 40, 3) := by decide +kernel
theorem dX10_setDetector_31 : decode cX10_setDetector 31 = .ok (.iload_n 1, 1) := by decide +kernel
theorem dX10_setDetector_32 : decode cX10_setDetector 32 = .ok (.putfield 107, 3) := by decide +kernel
theorem dX10_setDetector_35 : decode cX10_setDetector 35 = .ok (.iload_n 2, 1) := by decide +kernel
theorem dX10_setDetector_36 : decode cX10_setDetector 36 = .ok (.ireturn, 1) := by decide +kernel
set_option maxRecDepth 20000 in
theorem ggX10_setGains_X10_isWithin : GoodIn wsX10_setGains wsX10_isWithin := goodIn_r _ [9] (by decide +kernel) (by decide +kernel)
set_option maxRecDepth 20000 in
theorem gX10_setGains_X10_isWithin : GoodIn wsX10_setGains (va_wsS RX10 79 yX10_isWithin wsX10_isWithin) := goodIn_app (goodIn_of _ (by decide +kernel)) ggX10_setGains_X10_isWithin
theorem dX10_setGains_0 : decode cX10_setGains 0 = .ok (.iload_n 1, 1) := by decide +kernel
theorem dX10_setGains_1 : decode cX10_setGains 1 = .ok (.iconst 0, 1) := by decide +kernel
theorem dX10_setGains_2 : decode cX10_setGains 2 = .ok (.bipush 64, 2) := by decide +kernel
theorem dX10_setGains_4 : decode cX10_setGains 4 = .ok (.invokestatic 79, 3) := by decide +kernel
theorem dX10_setGains_7 : decode cX10_setGains 7 = .ok (.ifCond .ne 13, 3) := by decide +kernel
theorem dX10_setGains_10 : decode cX10_setGains 10 = .ok (.new 83, 3) := by decide +kernel
theorem dX10_setGains_13 : decode cX10_setGains 13 = .ok (.dup, 1) := by decide +kernel
theorem dX10_setGains_14 : decode cX10_setGains 14 = .ok (.ldc 110, 2) := by decide +kernel
theorem dX10_setGains_16 : decode cX10_setGains 16 = .ok (.invokespecial 87, 3) := by decide +kernel
theorem dX10_setGains_19 : decode cX10_setGains 19 = .ok (.athrow, 1) := by decide +kernel
theorem dX10_setGains_20 : decode cX10_setGains 20 = .ok (.iload_n 2, 1) := by decide +kernel
theorem dX10_setGains_21 : decode cX10_setGains 21 = .ok (.iconst 0, 1) := by decide +kernel
theorem dX10_setGains_22 : decode cX10_setGains 22 = .ok (.bipush 64, 2) := by decide +kernel
theorem dX10_setGains_24 : decode cX10_setGains 24 = .ok (.invokestatic 79, 3) := by decide +kernel
theorem dX10_setGains_27 : decode cX10_setGains 27 = .ok (.ifCond .ne 13, 3) := by decide +kernel
theorem dX10_setGains_30 : decode cX10_setGains 30 = .ok (.new 83, 3) := by decide +kernel
theorem dX10_setGains_33 : decode cX10_setGains 33 = .ok (.dup, 1) := by decide +kernel
theorem dX10_setGains_34 : decode cX10_setGains 34 = .ok (.ldc 112, 2) := by decide +kernel
theorem dX10_setGains_36 : decode cX10_setGains 36 = .ok (.invokespecial 87, 3) := by decide +kernel
theorem dX10_setGains_39 : decode cX10_setGains 39 = .ok (.athrow, 1) := by decide +kernel
theorem dX10_setGains_40 : decode cX10_setGains 40 = .ok (.aload_n 0, 1) := by decide +kernel
theorem dX10_setGains_41 : decode cX10_setGains 41 = .ok (.getfield 47, 3) := by decide +kernel
theorem dX10_setGains_44 : decode cX10_setGains 44 = .ok (.iload_n 1, 1) := by decide +kernel
theorem dX10_setGains_45 : decode cX10_setGains 45 = .ok (.putfield 114, 3) := by decide +kernel
theorem dX10_setGains_48 : decode cX10_setGains 48 = .ok (.aload_n 0, 1) := by decide +kernel
theorem dX10_setGains_49 : decode cX10_setGains 49 = .ok (.getfield 47, 3) := by decide +kernel
theorem dX10_setGains_52 : decode cX10_setGains 52 = .ok (.iload_n 2, 1) := by decide +kernel
theorem dX10_setGains_53 : decode cX10_setGains 53 = .ok (.putfield 117, 3) := by decide +kernel
theorem dX10_setGains_56 : decode cX10_setGains 56 = .ok (.return_, 1) := by decide +kernel
set_option maxRecDepth 20000 in
theorem ggX10_setPhase_X10_isWithin : GoodIn wsX10_setPhase wsX10_isWithin := goodIn_r _ [9] (by decide +kernel) (by decide +kernel)
set_option maxRecDepth 20000 in
theorem gX10_setPhase_X10_isWithin : GoodIn wsX10_setPhase (va_wsS RX10 79 yX10_isWithin wsX10_isWithin) := goodIn_app (goodIn_of _ (by decide +kernel)) ggX10_setPhase_X10_isWithin
theorem dX10_setPhase_0 : decode cX10_setPhase 0 = .ok (.iload_n 1, 1) := by decide +kernel
theorem dX10_setPhase_1 : decode cX10_setPhase 1 = .ok (.iconst 0, 1) := by decide +kernel
theorem dX10_setPhase_2 : decode cX10_setPhase 2 = .ok (.ldc 120, 2) := by decide +kernel
theorem dX10_setPhase_4 : decode cX10_setPhase 4 = .ok (.invokestatic 79, 3) := by decide +kernel
theorem dX10_setPhase_7 : decode cX10_setPhase 7 = .ok (.ifCond .ne 13, 3) := by decide +kernel
theorem dX10_setPhase_10 : decode cX10_setPhase 10 = .ok (.new 83, 3) := by decide +kernel
theorem dX10_setPhase_13 : decode cX10_setPhase 13 = .ok (.dup, 1) := by decide +kernel
theorem dX10_setPhase_14 : decode cX10_setPhase 14 = .ok (.ldc 121, 2) := by decide +kernel
theorem dX10_setPhase_16 : decode cX10_setPhase 16 = .ok (.invokespecial 87, 3) := by decide +kernel
theorem dX10_setPhase_19 : decode cX10_setPhase 19 = .ok (.athrow, 1) := by decide +kernel
theorem dX10_setPhase_20 : decode cX10_setPhase 20 = .ok (.aload_n 0, 1) := by decide +kernel
theorem dX10_setPhase_21 : decode cX10_setPhase 21 = .ok (.getfield 33, 3) := by decide +kernel
theorem dX10_setPhase_24 : decode cX10_setPhase 24 = .ok (.getfield 123, 3) := by decide +kernel
theorem dX10_setPhase_27 : decode cX10_setPhase 27 = .ok (.istore_n 2, 1) := by decide +kernel
theorem dX10_setPhase_28 : decode cX10_setPhase 28 = .ok (.aload_n 0, 1) := by decide +kernel
theorem dX10_setPhase_29 : decode cX10_setPhase 29 = .ok (.getfield 33, 3) := by decide +kernel
theorem dX10_setPhase_32 : decode cX10_setPhase 32 = .ok (.iload_n 1, 1) := by decide +kernel
theorem dX10_setPhase_33 : decode cX10_setPhase 33 = .ok (.putfield 123, 3) := by decide +kernel
theorem dX10_setPhase_36 : decode cX10_setPhase 36 = .ok (.iload_n 2, 1) := by decide +kernel
theorem dX10_setPhase_37 : decode cX10_setPhase 37 = .ok (.ireturn, 1) := by decide +kernel
theorem dX10_release_0 : decode cX10_release 0 = .ok (.aload_n 0, 1) := by decide +kernel
theorem dX10_release_1 : decode cX10_release 1 = .ok (.getfield 47, 3) := by decide +kernel
theorem dX10_release_4 : decode cX10_release 4 = .ok (.iconst 0, 1) := by decide +kernel
theorem dX10_release_5 : decode cX10_release 5 = .ok (.putfield 126, 3) := by decide +kernel
theorem dX10_release_8 : decode cX10_release 8 = .ok (.aload_n 0, 1) := by decide +kernel
theorem dX10_release_9 : decode cX10_release 9 = .ok (.getfield 47, 3) := by decide +kernel
theorem dX10_release_12 : decode cX10_release 12 = .ok (.iconst 0, 1) := by decide +kernel
theorem dX10_release_13 : decode cX10_release 13 = .ok (.putfield 129, 3) := by decide +kernel
theorem dX10_release_16 : decode cX10_release 16 = .ok (.return_, 1) := by decide +kernel
set_option maxRecDepth 20000 in
theorem ggX10_run_X10_isWithin : GoodIn wsX10_run wsX10_isWithin := goodIn_r _ [8] (by decide +kernel) (by decide +kernel)
set_option maxRecDepth 20000 in
theorem gX10_run_X10_isWithin : GoodIn wsX10_run (va_wsS RX10 79 yX10_isWithin wsX10_isWithin) := goodIn_app (goodIn_of _ (by decide +kernel)) ggX10_run_X10_isWithin
set_option maxRecDepth 20000 in
theorem ggX10_run_X10_passTick : GoodIn wsX10_run wsX10_passTick := goodIn_r _ [12, 13, 14, 15, 16, 17, 18, 19, 20, 21, 22, 23, 24, 25, 26, 27, 28, 29, 30, 31, 32, 33, 34, 35, 36, 37, 38, 39, 40, 41, 42, 43, 44, 45, 46, 47, 48, 49, 50, 51, 52, 53, 54, 55, 56, 57, 58, 59, 60, 61, 62, 63, 64, 65, 66, 67, 68, 69, 70, 71, 72, 73, 74, 75, 76, 77, 78, 6, 7, 8, 79, 80, 81, 82, 83, 84, 85, 86, 87, 88, 89, 90, 91, 92, 93, 94, 95, 96, 97, 98, 99, 100, 101, 102, 103, 104, 105, 106, 107, 108, 109, 110, 111, 112, 113, 114, 115, 116, 117, 118, 119, 120, 121, 122, 123, 124, 125, 126, 127, 128, 129, 130, 131, 132, 133, 134, 135, 136, 137, 138, 139, 140, 141, 142, 143, 144, 145, 146, 147, 148, 149, 150, 151, 152, 153, 154, 3, 155, 156, 157, 158, 159, 160, 161, 162, 163, 164, 165, 166, 167, 168, 169, 170, 171, 172, 173, 174, 175, 176, 177, 178, 179, 180, 181, 182, 183, 184, 185, 186, 187, 188, 189, 190, 191, 192, 193, 194, 195, 196, 197, 198, 199, 200, 201, 202, 203, 204, 205, 206, 207, 208, 209, 210, 211, 212, 213, 214, 215, 216, 217, 218, 219, 220, 221, 222, 223, 224, 225, 226, 227, 228, 229, 230, 231, 232, 233, 234, 235, 236, 237, 240, 241, 242, 243, 244, 245, 246, 247, 248, 249, 250, 251, 252, 253, 254, 255, 256, 257, 258, 259, 260, 261, 262, 238, 239, 263, 264, 265, 266, 267, 268, 269, 270, 271, 272, 273, 274, 275, 276] (by decide +kernel) (by decide +kernel)
set_option maxRecDepth 20000 in
theorem gX10_run_X10_passTick : GoodIn wsX10_run (wsV RX10 137 RX10 yX10_passTick wsX10_passTick) := goodIn_app (goodIn_of _ (by decide +kernel)) ggX10_run_X10_passTick
theorem dX10_run_0 : decode cX10_run 0 = .ok (.iload_n 1, 1) := by decide +kernel
theorem dX10_run_1 : decode cX10_run 1 = .ok (.iconst 1, 1) := by decide +kernel
theorem dX10_run_2 : decode cX10_run 2 = .ok (.sipush 800, 3) := by decide +kernel
theorem dX10_run_5 : decode cX10_run 5 = .ok (.invokestatic 79, 3) := by decide +kernel
theorem dX10_run_8 : decode cX10_run 8 = .ok (.ifCond .ne 13, 3) := by decide +kernel
theorem dX10_run_11 : decode cX10_run 11 = .ok (.new 83, 3) := by decide +kernel
theorem dX10_run_14 : decode cX10_run 14 = .ok (.dup, 1) := by decide +kernel
theorem dX10_run_15 : decode cX10_run 15 = .ok (.ldc 132, 2) := by decide +kernel
theorem dX10_run_17 : decode cX10_run 17 = .ok (.invokespecial 87, 3) := by decide +kernel
theorem dX10_run_20 : decode cX10_run 20 = .ok (.athrow, 1) := by decide +kernel
theorem dX10_run_21 : decode cX10_run 21 = .ok (.aload_n 0, 1) := by decide +kernel
theorem dX10_run_22 : decode cX10_run 22 = .ok (.getfield 54, 3) := by decide +kernel
theorem dX10_run_25 : decode cX10_run 25 = .ok (.getfield 134, 3) := by decide +kernel
theorem dX10_run_28 : decode cX10_run 28 = .ok (.istore_n 2, 1) := by decide +kernel
theorem dX10_run_29 : decode cX10_run 29 = .ok (.iconst 0, 1) := by decide +kernel
theorem dX10_run_30 : decode cX10_run 30 = .ok (.istore_n 3, 1) := by decide +kernel
theorem dX10_run_31 : decode cX10_run 31 = .ok (.iload_n 3, 1) := by decide +kernel
theorem dX10_run_32 : decode cX10_run 32 = .ok (.iload_n 1, 1) := by decide +kernel
theorem dX10_run_33 : decode cX10_run 33 = .ok (.if_icmp .ge 13, 3) := by decide +kernel
theorem dX10_run_36 : decode cX10_run 36 = .ok (.aload_n 0, 1) := by decide +kernel
theorem dX10_run_37 : decode cX10_run 37 = .ok (.invokevirtual 137, 3) := by decide +kernel
theorem dX10_run_40 : decode cX10_run 40 = .ok (.iinc 3 1, 3) := by decide +kernel
theorem dX10_run_43 : decode cX10_run 43 = .ok (.goto (-12), 3) := by decide +kernel
theorem dX10_run_46 : decode cX10_run 46 = .ok (.aload_n 0, 1) := by decide +kernel
theorem dX10_run_47 : decode cX10_run 47 = .ok (.getfield 54, 3) := by decide +kernel
theorem dX10_run_50 : decode cX10_run 50 = .ok (.getfield 134, 3) := by decide +kernel
theorem dX10_run_53 : decode cX10_run 53 = .ok (.iload_n 2, 1) := by decide +kernel
theorem dX10_run_54 : decode cX10_run 54 = .ok (.isub, 1) := by decide +kernel
theorem dX10_run_55 : decode cX10_run 55 = .ok (.ireturn, 1) := by decide +kernel
theorem dX10_ticks_0 : decode cX10_ticks 0 = .ok (.aload_n 0, 1) := by decide +kernel
theorem dX10_ticks_1 : decode cX10_ticks 1 = .ok (.getfield 26, 3) := by decide +kernel
theorem dX10_ticks_4 : decode cX10_ticks 4 = .ok (.getfield 140, 3) := by decide +kernel
theorem dX10_ticks_7 : decode cX10_ticks 7 = .ok (.ireturn, 1) := by decide +kernel
theorem dX10_sent_0 : decode cX10_sent 0 = .ok (.aload_n 0, 1) := by decide +kernel
theorem dX10_sent_1 : decode cX10_sent 1 = .ok (.getfield 10, 3) := by decide +kernel
theorem dX10_sent_4 : decode cX10_sent 4 = .ok (.getfield 143, 3) := by decide +kernel
theorem dX10_sent_7 : decode cX10_sent 7 = .ok (.ireturn, 1) := by decide +kernel
theorem dX10_line_0 : decode cX10_line 0 = .ok (.aload_n 0, 1) := by decide +kernel
theorem dX10_line_1 : decode cX10_line 1 = .ok (.getfield 10, 3) := by decide +kernel
theorem dX10_line_4 : decode cX10_line 4 = .ok (.getfield 146, 3) := by decide +kernel
theorem dX10_line_7 : decode cX10_line 7 = .ok (.ireturn, 1) := by decide +kernel
set_option maxRecDepth 20000 in
theorem ggX10_level_X3_findLevel : GoodIn wsX10_level wsX3_findLevel := goodIn_r _ [6, 7, 8, 9, 10, 11, 12, 13, 14, 25] (by decide +kernel) (by decide +kernel)
set_option maxRecDepth 20000 in
theorem gX10_level_X3_findLevel : GoodIn wsX10_level (wsV RX10 149 RX3 yX3_findLevel wsX3_findLevel) := goodIn_app (goodIn_of _ (by decide +kernel)) ggX10_level_X3_findLevel
theorem dX10_level_0 : decode cX10_level 0 = .ok (.aload_n 0, 1) := by decide +kernel
theorem dX10_level_1 : decode cX10_level 1 = .ok (.getfield 19, 3) := by decide +kernel
theorem dX10_level_4 : decode cX10_level 4 = .ok (.invokevirtual 149, 3) := by decide +kernel
theorem dX10_level_7 : decode cX10_level 7 = .ok (.ireturn, 1) := by decide +kernel
theorem dX10_sender_0 : decode cX10_sender 0 = .ok (.aload_n 0, 1) := by decide +kernel
theorem dX10_sender_1 : decode cX10_sender 1 = .ok (.getfield 10, 3) := by decide +kernel
theorem dX10_sender_4 : decode cX10_sender 4 = .ok (.getfield 153, 3) := by decide +kernel
theorem dX10_sender_7 : decode cX10_sender 7 = .ok (.ireturn, 1) := by decide +kernel
theorem dX10_receiver_0 : decode cX10_receiver 0 = .ok (.aload_n 0, 1) := by decide +kernel
theorem dX10_receiver_1 : decode cX10_receiver 1 = .ok (.getfield 33, 3) := by decide +kernel
theorem dX10_receiver_4 : decode cX10_receiver 4 = .ok (.getfield 123, 3) := by decide +kernel
theorem dX10_receiver_7 : decode cX10_receiver 7 = .ok (.ireturn, 1) := by decide +kernel
theorem dX10_error_0 : decode cX10_error 0 = .ok (.aload_n 0, 1) := by decide +kernel
theorem dX10_error_1 : decode cX10_error 1 = .ok (.getfield 47, 3) := by decide +kernel
theorem dX10_error_4 : decode cX10_error 4 = .ok (.getfield 154, 3) := by decide +kernel
theorem dX10_error_7 : decode cX10_error 7 = .ok (.ireturn, 1) := by decide +kernel
theorem dX10_integral_0 : decode cX10_integral 0 = .ok (.aload_n 0, 1) := by decide +kernel
theorem dX10_integral_1 : decode cX10_integral 1 = .ok (.getfield 47, 3) := by decide +kernel
theorem dX10_integral_4 : decode cX10_integral 4 = .ok (.getfield 126, 3) := by decide +kernel
theorem dX10_integral_7 : decode cX10_integral 7 = .ok (.ireturn, 1) := by decide +kernel
theorem dX10_control_0 : decode cX10_control 0 = .ok (.aload_n 0, 1) := by decide +kernel
theorem dX10_control_1 : decode cX10_control 1 = .ok (.getfield 47, 3) := by decide +kernel
theorem dX10_control_4 : decode cX10_control 4 = .ok (.getfield 129, 3) := by decide +kernel
theorem dX10_control_7 : decode cX10_control 7 = .ok (.ireturn, 1) := by decide +kernel
theorem dX10_received_0 : decode cX10_received 0 = .ok (.aload_n 0, 1) := by decide +kernel
theorem dX10_received_1 : decode cX10_received 1 = .ok (.getfield 54, 3) := by decide +kernel
theorem dX10_received_4 : decode cX10_received 4 = .ok (.getfield 134, 3) := by decide +kernel
theorem dX10_received_7 : decode cX10_received 7 = .ok (.ireturn, 1) := by decide +kernel
set_option maxRecDepth 20000 in
theorem ggX10_bit_X1_remembers : GoodIn wsX10_bit wsX1_remembers := goodIn_r _ [8, 9, 10, 11, 12, 13, 14, 15, 16, 32, 33] (by decide +kernel) (by decide +kernel)
set_option maxRecDepth 20000 in
theorem gX10_bit_X1_remembers : GoodIn wsX10_bit (wsV RX10 157 RX1 yX1_remembers wsX1_remembers) := goodIn_app (goodIn_of _ (by decide +kernel)) ggX10_bit_X1_remembers
set_option maxRecDepth 20000 in
theorem ggX10_bit_X1_findBit : GoodIn wsX10_bit wsX1_findBit := goodIn_r _ [20, 21, 32, 33] (by decide +kernel) (by decide +kernel)
set_option maxRecDepth 20000 in
theorem gX10_bit_X1_findBit : GoodIn wsX10_bit (wsV RX10 166 RX1 yX1_findBit wsX1_findBit) := goodIn_app (goodIn_of _ (by decide +kernel)) ggX10_bit_X1_findBit
theorem dX10_bit_0 : decode cX10_bit 0 = .ok (.aload_n 0, 1) := by decide +kernel
theorem dX10_bit_1 : decode cX10_bit 1 = .ok (.getfield 54, 3) := by decide +kernel
theorem dX10_bit_4 : decode cX10_bit 4 = .ok (.iload_n 1, 1) := by decide +kernel
theorem dX10_bit_5 : decode cX10_bit 5 = .ok (.invokevirtual 157, 3) := by decide +kernel
theorem dX10_bit_8 : decode cX10_bit 8 = .ok (.ifCond .ne 13, 3) := by decide +kernel
theorem dX10_bit_11 : decode cX10_bit 11 = .ok (.new 161, 3) := by decide +kernel
theorem dX10_bit_14 : decode cX10_bit 14 = .ok (.dup, 1) := by decide +kernel
theorem dX10_bit_15 : decode cX10_bit 15 = .ok (.ldc 163, 2) := by decide +kernel
theorem dX10_bit_17 : decode cX10_bit 17 = .ok (.invokespecial 165, 3) := by decide +kernel
theorem dX10_bit_20 : decode cX10_bit 20 = .ok (.athrow, 1) := by decide +kernel
theorem dX10_bit_21 : decode cX10_bit 21 = .ok (.aload_n 0, 1) := by decide +kernel
theorem dX10_bit_22 : decode cX10_bit 22 = .ok (.getfield 54, 3) := by decide +kernel
theorem dX10_bit_25 : decode cX10_bit 25 = .ok (.iload_n 1, 1) := by decide +kernel
theorem dX10_bit_26 : decode cX10_bit 26 = .ok (.invokevirtual 166, 3) := by decide +kernel
theorem dX10_bit_29 : decode cX10_bit 29 = .ok (.ireturn, 1) := by decide +kernel
theorem dX10_phase_0 : decode cX10_phase 0 = .ok (.aload_n 0, 1) := by decide +kernel
theorem dX10_phase_1 : decode cX10_phase 1 = .ok (.getfield 68, 3) := by decide +kernel
theorem dX10_phase_4 : decode cX10_phase 4 = .ok (.getfield 170, 3) := by decide +kernel
theorem dX10_phase_7 : decode cX10_phase 7 = .ok (.ifCond .ne 13, 3) := by decide +kernel
theorem dX10_phase_10 : decode cX10_phase 10 = .ok (.new 171, 3) := by decide +kernel
theorem dX10_phase_13 : decode cX10_phase 13 = .ok (.dup, 1) := by decide +kernel
theorem dX10_phase_14 : decode cX10_phase 14 = .ok (.ldc 173, 2) := by decide +kernel
theorem dX10_phase_16 : decode cX10_phase 16 = .ok (.invokespecial 175, 3) := by decide +kernel
theorem dX10_phase_19 : decode cX10_phase 19 = .ok (.athrow, 1) := by decide +kernel
theorem dX10_phase_20 : decode cX10_phase 20 = .ok (.aload_n 0, 1) := by decide +kernel
theorem dX10_phase_21 : decode cX10_phase 21 = .ok (.getfield 68, 3) := by decide +kernel
theorem dX10_phase_24 : decode cX10_phase 24 = .ok (.getfield 176, 3) := by decide +kernel
theorem dX10_phase_27 : decode cX10_phase 27 = .ok (.ireturn, 1) := by decide +kernel
theorem dX10_repeated_0 : decode cX10_repeated 0 = .ok (.aload_n 0, 1) := by decide +kernel
theorem dX10_repeated_1 : decode cX10_repeated 1 = .ok (.getfield 61, 3) := by decide +kernel
theorem dX10_repeated_4 : decode cX10_repeated 4 = .ok (.getfield 179, 3) := by decide +kernel
theorem dX10_repeated_7 : decode cX10_repeated 7 = .ok (.ireturn, 1) := by decide +kernel
theorem dX10_skipped_0 : decode cX10_skipped 0 = .ok (.aload_n 0, 1) := by decide +kernel
theorem dX10_skipped_1 : decode cX10_skipped 1 = .ok (.getfield 61, 3) := by decide +kernel
theorem dX10_skipped_4 : decode cX10_skipped 4 = .ok (.getfield 182, 3) := by decide +kernel
theorem dX10_skipped_7 : decode cX10_skipped 7 = .ok (.ireturn, 1) := by decide +kernel
set_option maxRecDepth 20000 in
theorem ggX10_isLocked_X7_isSteady : GoodIn wsX10_isLocked wsX7_isSteady := goodIn_r _ [6, 7, 18, 19, 20, 21] (by decide +kernel) (by decide +kernel)
set_option maxRecDepth 20000 in
theorem gX10_isLocked_X7_isSteady : GoodIn wsX10_isLocked (wsV RX10 185 RX7 yX7_isSteady wsX7_isSteady) := goodIn_app (goodIn_of _ (by decide +kernel)) ggX10_isLocked_X7_isSteady
theorem dX10_isLocked_0 : decode cX10_isLocked 0 = .ok (.aload_n 0, 1) := by decide +kernel
theorem dX10_isLocked_1 : decode cX10_isLocked 1 = .ok (.getfield 68, 3) := by decide +kernel
theorem dX10_isLocked_4 : decode cX10_isLocked 4 = .ok (.invokevirtual 185, 3) := by decide +kernel
theorem dX10_isLocked_7 : decode cX10_isLocked 7 = .ok (.ireturn, 1) := by decide +kernel
set_option maxRecDepth 20000 in
theorem ggX10_wander_X7_sumAbsolutes : GoodIn wsX10_wander wsX7_sumAbsolutes := goodIn_r _ [6, 7, 8, 9, 10, 11, 22, 23, 24, 25] (by decide +kernel) (by decide +kernel)
set_option maxRecDepth 20000 in
theorem gX10_wander_X7_sumAbsolutes : GoodIn wsX10_wander (wsV RX10 189 RX7 yX7_sumAbsolutes wsX7_sumAbsolutes) := goodIn_app (goodIn_of _ (by decide +kernel)) ggX10_wander_X7_sumAbsolutes
theorem dX10_wander_0 : decode cX10_wander 0 = .ok (.aload_n 0, 1) := by decide +kernel
theorem dX10_wander_1 : decode cX10_wander 1 = .ok (.getfield 68, 3) := by decide +kernel
theorem dX10_wander_4 : decode cX10_wander 4 = .ok (.invokevirtual 189, 3) := by decide +kernel
theorem dX10_wander_7 : decode cX10_wander 7 = .ok (.ireturn, 1) := by decide +kernel
theorem dX10_alignment_0 : decode cX10_alignment 0 = .ok (.aload_n 0, 1) := by decide +kernel
theorem dX10_alignment_1 : decode cX10_alignment 1 = .ok (.getfield 75, 3) := by decide +kernel
theorem dX10_alignment_4 : decode cX10_alignment 4 = .ok (.getfield 192, 3) := by decide +kernel
theorem dX10_alignment_7 : decode cX10_alignment 7 = .ok (.ireturn, 1) := by decide +kernel
theorem dX10_frames_0 : decode cX10_frames 0 = .ok (.aload_n 0, 1) := by decide +kernel
theorem dX10_frames_1 : decode cX10_frames 1 = .ok (.getfield 75, 3) := by decide +kernel
theorem dX10_frames_4 : decode cX10_frames 4 = .ok (.getfield 195, 3) := by decide +kernel
theorem dX10_frames_7 : decode cX10_frames 7 = .ok (.ireturn, 1) := by decide +kernel
theorem dX10_losses_0 : decode cX10_losses 0 = .ok (.aload_n 0, 1) := by decide +kernel
theorem dX10_losses_1 : decode cX10_losses 1 = .ok (.getfield 75, 3) := by decide +kernel
theorem dX10_losses_4 : decode cX10_losses 4 = .ok (.getfield 198, 3) := by decide +kernel
theorem dX10_losses_7 : decode cX10_losses 7 = .ok (.ireturn, 1) := by decide +kernel
set_option maxRecDepth 20000 in
theorem ggX10_bestPhase_X2_sumCosts : GoodIn wsX10_bestPhase wsX2_sumCosts := goodIn_r _ [6, 7, 8, 9, 5, 10, 11, 12, 13, 14, 25, 26] (by decide +kernel) (by decide +kernel)
set_option maxRecDepth 20000 in
theorem gX10_bestPhase_X2_sumCosts : GoodIn wsX10_bestPhase (wsV RX10 201 RX2 yX2_sumCosts wsX2_sumCosts) := goodIn_app (goodIn_of _ (by decide +kernel)) ggX10_bestPhase_X2_sumCosts
theorem dX10_bestPhase_0 : decode cX10_bestPhase 0 = .ok (.iconst 0, 1) := by decide +kernel
theorem dX10_bestPhase_1 : decode cX10_bestPhase 1 = .ok (.istore_n 1, 1) := by decide +kernel
theorem dX10_bestPhase_2 : decode cX10_bestPhase 2 = .ok (.aload_n 0, 1) := by decide +kernel
theorem dX10_bestPhase_3 : decode cX10_bestPhase 3 = .ok (.getfield 26, 3) := by decide +kernel
theorem dX10_bestPhase_6 : decode cX10_bestPhase 6 = .ok (.iconst 0, 1) := by decide +kernel
theorem dX10_bestPhase_7 : decode cX10_bestPhase 7 = .ok (.invokevirtual 201, 3) := by decide +kernel
theorem dX10_bestPhase_10 : decode cX10_bestPhase 10 = .ok (.istore_n 2, 1) := by decide +kernel
theorem dX10_bestPhase_11 : decode cX10_bestPhase 11 = .ok (.iconst 1, 1) := by decide +kernel
theorem dX10_bestPhase_12 : decode cX10_bestPhase 12 = .ok (.istore_n 3, 1) := by decide +kernel
theorem dX10_bestPhase_13 : decode cX10_bestPhase 13 = .ok (.iload_n 3, 1) := by decide +kernel
theorem dX10_bestPhase_14 : decode cX10_bestPhase 14 = .ok (.bipush 16, 2) := by decide +kernel
theorem dX10_bestPhase_16 : decode cX10_bestPhase 16 = .ok (.if_icmp .ge 30, 3) := by decide +kernel
theorem dX10_bestPhase_19 : decode cX10_bestPhase 19 = .ok (.aload_n 0, 1) := by decide +kernel
theorem dX10_bestPhase_20 : decode cX10_bestPhase 20 = .ok (.getfield 26, 3) := by decide +kernel
theorem dX10_bestPhase_23 : decode cX10_bestPhase 23 = .ok (.iload_n 3, 1) := by decide +kernel
theorem dX10_bestPhase_24 : decode cX10_bestPhase 24 = .ok (.invokevirtual 201, 3) := by decide +kernel
theorem dX10_bestPhase_27 : decode cX10_bestPhase 27 = .ok (.istore 4, 2) := by decide +kernel
theorem dX10_bestPhase_29 : decode cX10_bestPhase 29 = .ok (.iload 4, 2) := by decide +kernel
theorem dX10_bestPhase_31 : decode cX10_bestPhase 31 = .ok (.iload_n 2, 1) := by decide +kernel
theorem dX10_bestPhase_32 : decode cX10_bestPhase 32 = .ok (.if_icmp .ge 8, 3) := by decide +kernel
theorem dX10_bestPhase_35 : decode cX10_bestPhase 35 = .ok (.iload 4, 2) := by decide +kernel
theorem dX10_bestPhase_37 : decode cX10_bestPhase 37 = .ok (.istore_n 2, 1) := by decide +kernel
theorem dX10_bestPhase_38 : decode cX10_bestPhase 38 = .ok (.iload_n 3, 1) := by decide +kernel
theorem dX10_bestPhase_39 : decode cX10_bestPhase 39 = .ok (.istore_n 1, 1) := by decide +kernel
theorem dX10_bestPhase_40 : decode cX10_bestPhase 40 = .ok (.iinc 3 1, 3) := by decide +kernel
theorem dX10_bestPhase_43 : decode cX10_bestPhase 43 = .ok (.goto (-30), 3) := by decide +kernel
theorem dX10_bestPhase_46 : decode cX10_bestPhase 46 = .ok (.iload_n 1, 1) := by decide +kernel
theorem dX10_bestPhase_47 : decode cX10_bestPhase 47 = .ok (.ireturn, 1) := by decide +kernel
set_option maxRecDepth 20000 in
theorem ggX10_cost_X10_isWithin : GoodIn wsX10_cost wsX10_isWithin := goodIn_r _ [7] (by decide +kernel) (by decide +kernel)
set_option maxRecDepth 20000 in
theorem gX10_cost_X10_isWithin : GoodIn wsX10_cost (va_wsS RX10 79 yX10_isWithin wsX10_isWithin) := goodIn_app (goodIn_of _ (by decide +kernel)) ggX10_cost_X10_isWithin
set_option maxRecDepth 20000 in
theorem ggX10_cost_X2_sumCosts : GoodIn wsX10_cost wsX2_sumCosts := goodIn_r _ [12, 13, 14, 15, 11, 16, 17, 18, 19, 20, 31, 32] (by decide +kernel) (by decide +kernel)
set_option maxRecDepth 20000 in
theorem gX10_cost_X2_sumCosts : GoodIn wsX10_cost (wsV RX10 201 RX2 yX2_sumCosts wsX2_sumCosts) := goodIn_app (goodIn_of _ (by decide +kernel)) ggX10_cost_X2_sumCosts
theorem dX10_cost_0 : decode cX10_cost 0 = .ok (.iload_n 1, 1) := by decide +kernel
theorem dX10_cost_1 : decode cX10_cost 1 = .ok (.iconst 0, 1) := by decide +kernel
theorem dX10_cost_2 : decode cX10_cost 2 = .ok (.bipush 15, 2) := by decide +kernel
theorem dX10_cost_4 : decode cX10_cost 4 = .ok (.invokestatic 79, 3) := by decide +kernel
theorem dX10_cost_7 : decode cX10_cost 7 = .ok (.ifCond .ne 13, 3) := by decide +kernel
theorem dX10_cost_10 : decode cX10_cost 10 = .ok (.new 83, 3) := by decide +kernel
theorem dX10_cost_13 : decode cX10_cost 13 = .ok (.dup, 1) := by decide +kernel
theorem dX10_cost_14 : decode cX10_cost 14 = .ok (.ldc 204, 2) := by decide +kernel
theorem dX10_cost_16 : decode cX10_cost 16 = .ok (.invokespecial 87, 3) := by decide +kernel
theorem dX10_cost_19 : decode cX10_cost 19 = .ok (.athrow, 1) := by decide +kernel
theorem dX10_cost_20 : decode cX10_cost 20 = .ok (.aload_n 0, 1) := by decide +kernel
theorem dX10_cost_21 : decode cX10_cost 21 = .ok (.getfield 26, 3) := by decide +kernel
theorem dX10_cost_24 : decode cX10_cost 24 = .ok (.iload_n 1, 1) := by decide +kernel
theorem dX10_cost_25 : decode cX10_cost 25 = .ok (.invokevirtual 201, 3) := by decide +kernel
theorem dX10_cost_28 : decode cX10_cost 28 = .ok (.ireturn, 1) := by decide +kernel
set_option maxRecDepth 20000 in
theorem ggX10_passTick_X9_advance : GoodIn wsX10_passTick wsX9_advance := goodIn_r _ [14, 15, 16, 17, 18, 19, 20, 13, 21, 22, 23, 24, 25, 26, 27, 28, 29, 30, 31, 32, 33, 34, 35, 36, 37, 38, 230, 231, 232, 233, 234, 235, 236] (by decide +kernel) (by decide +kernel)
set_option maxRecDepth 20000 in
theorem gX10_passTick_X9_advance : GoodIn wsX10_passTick (wsV RX10 206 RX9 yX9_advance wsX9_advance) := goodIn_app (goodIn_of _ (by decide +kernel)) ggX10_passTick_X9_advance
set_option maxRecDepth 20000 in
theorem ggX10_passTick_X3_remember : GoodIn wsX10_passTick wsX3_remember := goodIn_r _ [43, 44, 45, 243] (by decide +kernel) (by decide +kernel)
set_option maxRecDepth 20000 in
theorem gX10_passTick_X3_remember : GoodIn wsX10_passTick (wsV RX10 209 RX3 yX3_remember wsX3_remember) := goodIn_app (goodIn_of _ (by decide +kernel)) ggX10_passTick_X3_remember
set_option maxRecDepth 20000 in
theorem ggX10_passTick_X3_hasChangedSince : GoodIn wsX10_passTick wsX3_hasChangedSince := goodIn_r _ [49, 44, 243] (by decide +kernel) (by decide +kernel)
set_option maxRecDepth 20000 in
theorem gX10_passTick_X3_hasChangedSince : GoodIn wsX10_passTick (wsV RX10 213 RX3 yX3_hasChangedSince wsX3_hasChangedSince) := goodIn_app (goodIn_of _ (by decide +kernel)) ggX10_passTick_X3_hasChangedSince
set_option maxRecDepth 20000 in
theorem ggX10_passTick_X2_add : GoodIn wsX10_passTick wsX2_add := goodIn_r _ [54, 55, 56, 244, 245] (by decide +kernel) (by decide +kernel)
set_option maxRecDepth 20000 in
theorem gX10_passTick_X2_add : GoodIn wsX10_passTick (wsV RX10 216 RX2 yX2_add wsX2_add) := goodIn_app (goodIn_of _ (by decide +kernel)) ggX10_passTick_X2_add
set_option maxRecDepth 20000 in
theorem ggX10_passTick_X6_watchLine : GoodIn wsX10_passTick wsX6_watchLine := goodIn_r _ [61, 62, 63, 64, 65, 66, 47, 48, 42, 49, 44, 67, 68, 69, 246, 247, 248, 249, 250, 251, 252, 243] (by decide +kernel) (by decide +kernel)
set_option maxRecDepth 20000 in
theorem gX10_passTick_X6_watchLine : GoodIn wsX10_passTick (wsV RX10 220 RX6 yX6_watchLine wsX6_watchLine) := goodIn_app (goodIn_of _ (by decide +kernel)) ggX10_passTick_X6_watchLine
set_option maxRecDepth 20000 in
theorem ggX10_passTick_X5_advance : GoodIn wsX10_passTick wsX5_advance := goodIn_r _ [74, 75, 76, 77, 78, 79, 80, 81, 73, 82, 237] (by decide +kernel) (by decide +kernel)
set_option maxRecDepth 20000 in
theorem gX10_passTick_X5_advance : GoodIn wsX10_passTick (wsV RX10 224 RX5 yX5_advance wsX5_advance) := goodIn_app (goodIn_of _ (by decide +kernel)) ggX10_passTick_X5_advance
set_option maxRecDepth 20000 in
theorem ggX10_passTick_X10_actOnStrobe : GoodIn wsX10_passTick wsX10_actOnStrobe := goodIn_r _ [86, 5, 87, 8, 2, 1, 3, 88, 89, 90, 42, 91, 44, 92, 93, 94, 95, 96, 97, 98, 99, 100, 101, 60, 102, 103, 104, 105, 106, 107, 108, 109, 110, 111, 112, 113, 114, 115, 116, 117, 118, 119, 120, 121, 122, 123, 124, 125, 126, 127, 128, 129, 130, 131, 132, 133, 134, 135, 136, 137, 138, 139, 140, 141, 142, 143, 144, 68, 145, 146, 147, 148, 149, 150, 151, 152, 153, 154, 155, 156, 157, 63, 64, 158, 159, 160, 161, 162, 163, 164, 165, 166, 167, 168, 169, 170, 171, 172, 173, 174, 175, 176, 177, 178, 179, 180, 181, 182, 183, 184, 185, 186, 187, 188, 189, 190, 191, 192, 193, 194, 195, 196, 67, 69, 197, 198, 199, 200, 201, 202, 203, 204, 205, 206, 207, 208, 209, 210, 211, 212, 213, 214, 215, 216, 217, 218, 219, 220, 221, 222, 223, 224, 225, 226, 227, 228, 229, 246, 247, 248, 249, 250, 251, 252, 230, 231, 232, 233, 234, 235, 236, 243, 238, 239, 240, 241, 242, 253, 254, 255, 256, 257, 258, 259, 260, 261, 262, 263, 264, 265, 266, 267, 268] (by decide +kernel) (by decide +kernel)
set_option maxRecDepth 20000 in
theorem gX10_passTick_X10_actOnStrobe : GoodIn wsX10_passTick (wsV RX10 226 RX10 yX10_actOnStrobe wsX10_actOnStrobe) := goodIn_app (goodIn_of _ (by decide +kernel)) ggX10_passTick_X10_actOnStrobe
theorem dX10_passTick_0 : decode cX10_passTick 0 = .ok (.aload_n 0, 1) := by decide +kernel
theorem dX10_passTick_1 : decode cX10_passTick 1 = .ok (.getfield 10, 3) := by decide +kernel
theorem dX10_passTick_4 : decode cX10_passTick 4 = .ok (.invokevirtual 206, 3) := by decide +kernel
theorem dX10_passTick_7 : decode cX10_passTick 7 = .ok (.aload_n 0, 1) := by decide +kernel
theorem dX10_passTick_8 : decode cX10_passTick 8 = .ok (.getfield 19, 3) := by decide +kernel
theorem dX10_passTick_11 : decode cX10_passTick 11 = .ok (.aload_n 0, 1) := by decide +kernel
theorem dX10_passTick_12 : decode cX10_passTick 12 = .ok (.getfield 10, 3) := by decide +kernel
theorem dX10_passTick_15 : decode cX10_passTick 15 = .ok (.getfield 146, 3) := by decide +kernel
theorem dX10_passTick_18 : decode cX10_passTick 18 = .ok (.invokevirtual 209, 3) := by decide +kernel
theorem dX10_passTick_21 : decode cX10_passTick 21 = .ok (.aload_n 0, 1) := by decide +kernel
theorem dX10_passTick_22 : decode cX10_passTick 22 = .ok (.getfield 26, 3) := by decide +kernel
theorem dX10_passTick_25 : decode cX10_passTick 25 = .ok (.aload_n 0, 1) := by decide +kernel
theorem dX10_passTick_26 : decode cX10_passTick 26 = .ok (.getfield 19, 3) := by decide +kernel
theorem dX10_passTick_29 : decode cX10_passTick 29 = .ok (.iconst 1, 1) := by decide +kernel
theorem dX10_passTick_30 : decode cX10_passTick 30 = .ok (.invokevirtual 213, 3) := by decide +kernel
theorem dX10_passTick_33 : decode cX10_passTick 33 = .ok (.invokevirtual 216, 3) := by decide +kernel
theorem dX10_passTick_36 : decode cX10_passTick 36 = .ok (.aload_n 0, 1) := by decide +kernel
theorem dX10_passTick_37 : decode cX10_passTick 37 = .ok (.getfield 40, 3) := by decide +kernel
theorem dX10_passTick_40 : decode cX10_passTick 40 = .ok (.aload_n 0, 1) := by decide +kernel
theorem dX10_passTick_41 : decode cX10_passTick 41 = .ok (.getfield 19, 3) := by decide +kernel
theorem dX10_passTick_44 : decode cX10_passTick 44 = .ok (.aload_n 0, 1) := by decide +kernel
theorem dX10_passTick_45 : decode cX10_passTick 45 = .ok (.getfield 33, 3) := by decide +kernel
theorem dX10_passTick_48 : decode cX10_passTick 48 = .ok (.getfield 123, 3) := by decide +kernel
theorem dX10_passTick_51 : decode cX10_passTick 51 = .ok (.invokevirtual 220, 3) := by decide +kernel
theorem dX10_passTick_54 : decode cX10_passTick 54 = .ok (.aload_n 0, 1) := by decide +kernel
theorem dX10_passTick_55 : decode cX10_passTick 55 = .ok (.aload_n 0, 1) := by decide +kernel
theorem dX10_passTick_56 : decode cX10_passTick 56 = .ok (.getfield 33, 3) := by decide +kernel
theorem dX10_passTick_59 : decode cX10_passTick 59 = .ok (.aload_n 0, 1) := by decide +kernel
theorem dX10_passTick_60 : decode cX10_passTick 60 = .ok (.getfield 47, 3) := by decide +kernel
theorem dX10_passTick_63 : decode cX10_passTick 63 = .ok (.getfield 129, 3) := by decide +kernel
theorem dX10_passTick_66 : decode cX10_passTick 66 = .ok (.invokevirtual 224, 3) := by decide +kernel
theorem dX10_passTick_69 : decode cX10_passTick 69 = .ok (.invokevirtual 226, 3) := by decide +kernel
theorem dX10_passTick_72 : decode cX10_passTick 72 = .ok (.return_, 1) := by decide +kernel
set_option maxRecDepth 20000 in
theorem ggX10_actOnStrobe_X3_findLevel : GoodIn wsX10_actOnStrobe wsX3_findLevel := goodIn_r _ [11, 12, 13, 14, 15, 16, 17, 18, 19, 171] (by decide +kernel) (by decide +kernel)
set_option maxRecDepth 20000 in
theorem gX10_actOnStrobe_X3_findLevel : GoodIn wsX10_actOnStrobe (wsV RX10 149 RX3 yX3_findLevel wsX3_findLevel) := goodIn_app (goodIn_of _ (by decide +kernel)) ggX10_actOnStrobe_X3_findLevel
set_option maxRecDepth 20000 in
theorem ggX10_actOnStrobe_X6_measureLate : GoodIn wsX10_actOnStrobe wsX6_measureLate := goodIn_r _ [24, 25, 26, 27, 28, 29, 157, 158, 159, 160, 161, 162, 163] (by decide +kernel) (by decide +kernel)
set_option maxRecDepth 20000 in
theorem gX10_actOnStrobe_X6_measureLate : GoodIn wsX10_actOnStrobe (wsV RX10 229 RX6 yX6_measureLate wsX6_measureLate) := goodIn_app (goodIn_of _ (by decide +kernel)) ggX10_actOnStrobe_X6_measureLate
set_option maxRecDepth 20000 in
theorem ggX10_actOnStrobe_X4_takeError : GoodIn wsX10_actOnStrobe wsX4_takeError := goodIn_r _ [34, 35, 36, 37, 38, 39, 40, 41, 42, 33, 43, 44, 45, 28, 46, 47, 48, 49, 50, 51, 52, 53, 172, 173, 174, 175, 176] (by decide +kernel) (by decide +kernel)
set_option maxRecDepth 20000 in
theorem gX10_actOnStrobe_X4_takeError : GoodIn wsX10_actOnStrobe (wsV RX10 232 RX4 yX4_takeError wsX4_takeError) := goodIn_app (goodIn_of _ (by decide +kernel)) ggX10_actOnStrobe_X4_takeError
set_option maxRecDepth 20000 in
theorem ggX10_actOnStrobe_X6_keepMiddle : GoodIn wsX10_actOnStrobe wsX6_keepMiddle := goodIn_r _ [57, 58, 59, 157, 158, 159, 160, 161, 162, 163] (by decide +kernel) (by decide +kernel)
set_option maxRecDepth 20000 in
theorem gX10_actOnStrobe_X6_keepMiddle : GoodIn wsX10_actOnStrobe (wsV RX10 235 RX6 yX6_keepMiddle wsX6_keepMiddle) := goodIn_app (goodIn_of _ (by decide +kernel)) ggX10_actOnStrobe_X6_keepMiddle
set_option maxRecDepth 20000 in
theorem ggX10_actOnStrobe_X6_keepEarly : GoodIn wsX10_actOnStrobe wsX6_keepEarly := goodIn_r _ [63, 26, 27, 28, 29, 25, 157, 158, 159, 160, 161, 162, 163] (by decide +kernel) (by decide +kernel)
set_option maxRecDepth 20000 in
theorem gX10_actOnStrobe_X6_keepEarly : GoodIn wsX10_actOnStrobe (wsV RX10 239 RX6 yX6_keepEarly wsX6_keepEarly) := goodIn_app (goodIn_of _ (by decide +kernel)) ggX10_actOnStrobe_X6_keepEarly
set_option maxRecDepth 20000 in
theorem ggX10_actOnStrobe_X10_actOnDataStrobe : GoodIn wsX10_actOnStrobe wsX10_actOnDataStrobe := goodIn_r _ [68, 5, 6, 4, 1, 2, 3, 69, 70, 71, 72, 73, 74, 75, 7, 8, 9, 10, 11, 12, 13, 14, 15, 16, 17, 18, 19, 76, 77, 78, 23, 79, 80, 81, 82, 59, 83, 84, 85, 86, 87, 88, 58, 89, 90, 91, 92, 93, 94, 30, 31, 32, 33, 34, 35, 36, 37, 38, 39, 40, 41, 42, 43, 44, 45, 28, 46, 47, 48, 49, 50, 51, 52, 53, 95, 96, 97, 98, 99, 100, 101, 102, 103, 104, 105, 106, 107, 108, 109, 110, 111, 112, 113, 114, 115, 116, 117, 118, 119, 120, 121, 122, 67, 123, 124, 125, 126, 127, 128, 129, 130, 131, 132, 133, 134, 135, 136, 137, 138, 139, 140, 141, 142, 143, 144, 145, 146, 147, 148, 149, 150, 151, 152, 153, 154, 155, 156, 164, 165, 166, 167, 168, 169, 170, 157, 158, 159, 160, 161, 162, 163, 171, 177, 178, 172, 173, 174, 175, 176, 179, 180, 181, 182, 183, 184, 185, 186, 187, 188, 189, 190, 191, 192] (by decide +kernel) (by decide +kernel)
set_option maxRecDepth 20000 in
theorem gX10_actOnStrobe_X10_actOnDataStrobe : GoodIn wsX10_actOnStrobe (wsV RX10 242 RX10 yX10_actOnDataStrobe wsX10_actOnDataStrobe) := goodIn_app (goodIn_of _ (by decide +kernel)) ggX10_actOnStrobe_X10_actOnDataStrobe
theorem dX10_actOnStrobe_0 : decode cX10_actOnStrobe 0 = .ok (.iload_n 1, 1) := by decide +kernel
theorem dX10_actOnStrobe_1 : decode cX10_actOnStrobe 1 = .ok (.tableswitch 114 1 4 #[31, 66, 90, 107], 31) := by decide +kernel
theorem dX10_actOnStrobe_32 : decode cX10_actOnStrobe 32 = .ok (.aload_n 0, 1) := by decide +kernel
theorem dX10_actOnStrobe_33 : decode cX10_actOnStrobe 33 = .ok (.getfield 40, 3) := by decide +kernel
theorem dX10_actOnStrobe_36 : decode cX10_actOnStrobe 36 = .ok (.getfield 107, 3) := by decide +kernel
theorem dX10_actOnStrobe_39 : decode cX10_actOnStrobe 39 = .ok (.iconst 4, 1) := by decide +kernel
theorem dX10_actOnStrobe_40 : decode cX10_actOnStrobe 40 = .ok (.if_icmp .ne 75, 3) := by decide +kernel
theorem dX10_actOnStrobe_43 : decode cX10_actOnStrobe 43 = .ok (.aload_n 0, 1) := by decide +kernel
theorem dX10_actOnStrobe_44 : decode cX10_actOnStrobe 44 = .ok (.getfield 47, 3) := by decide +kernel
theorem dX10_actOnStrobe_47 : decode cX10_actOnStrobe 47 = .ok (.aload_n 0, 1) := by decide +kernel
theorem dX10_actOnStrobe_48 : decode cX10_actOnStrobe 48 = .ok (.getfield 40, 3) := by decide +kernel
theorem dX10_actOnStrobe_51 : decode cX10_actOnStrobe 51 = .ok (.aload_n 0, 1) := by decide +kernel
theorem dX10_actOnStrobe_52 : decode cX10_actOnStrobe 52 = .ok (.getfield 19, 3) := by decide +kernel
theorem dX10_actOnStrobe_55 : decode cX10_actOnStrobe 55 = .ok (.invokevirtual 149, 3) := by decide +kernel
theorem dX10_actOnStrobe_58 : decode cX10_actOnStrobe 58 = .ok (.invokevirtual 229, 3) := by decide +kernel
theorem dX10_actOnStrobe_61 : decode cX10_actOnStrobe 61 = .ok (.invokevirtual 232, 3) := by decide +kernel
theorem dX10_actOnStrobe_64 : decode cX10_actOnStrobe 64 = .ok (.goto 51, 3) := by decide +kernel
theorem dX10_actOnStrobe_67 : decode cX10_actOnStrobe 67 = .ok (.aload_n 0, 1) := by decide +kernel
theorem dX10_actOnStrobe_68 : decode cX10_actOnStrobe 68 = .ok (.getfield 40, 3) := by decide +kernel
theorem dX10_actOnStrobe_71 : decode cX10_actOnStrobe 71 = .ok (.aload_n 0, 1) := by decide +kernel
theorem dX10_actOnStrobe_72 : decode cX10_actOnStrobe 72 = .ok (.getfield 10, 3) := by decide +kernel
theorem dX10_actOnStrobe_75 : decode cX10_actOnStrobe 75 = .ok (.getfield 146, 3) := by decide +kernel
theorem dX10_actOnStrobe_78 : decode cX10_actOnStrobe 78 = .ok (.aload_n 0, 1) := by decide +kernel
theorem dX10_actOnStrobe_79 : decode cX10_actOnStrobe 79 = .ok (.getfield 19, 3) := by decide +kernel
theorem dX10_actOnStrobe_82 : decode cX10_actOnStrobe 82 = .ok (.invokevirtual 149, 3) := by decide +kernel
theorem dX10_actOnStrobe_85 : decode cX10_actOnStrobe 85 = .ok (.invokevirtual 235, 3) := by decide +kernel
theorem dX10_actOnStrobe_88 : decode cX10_actOnStrobe 88 = .ok (.goto 27, 3) := by decide +kernel
theorem dX10_actOnStrobe_91 : decode cX10_actOnStrobe 91 = .ok (.aload_n 0, 1) := by decide +kernel
theorem dX10_actOnStrobe_92 : decode cX10_actOnStrobe 92 = .ok (.getfield 40, 3) := by decide +kernel
theorem dX10_actOnStrobe_95 : decode cX10_actOnStrobe 95 = .ok (.aload_n 0, 1) := by decide +kernel
theorem dX10_actOnStrobe_96 : decode cX10_actOnStrobe 96 = .ok (.getfield 19, 3) := by decide +kernel
theorem dX10_actOnStrobe_99 : decode cX10_actOnStrobe 99 = .ok (.invokevirtual 149, 3) := by decide +kernel
theorem dX10_actOnStrobe_102 : decode cX10_actOnStrobe 102 = .ok (.invokevirtual 239, 3) := by decide +kernel
theorem dX10_actOnStrobe_105 : decode cX10_actOnStrobe 105 = .ok (.goto 10, 3) := by decide +kernel
theorem dX10_actOnStrobe_108 : decode cX10_actOnStrobe 108 = .ok (.aload_n 0, 1) := by decide +kernel
theorem dX10_actOnStrobe_109 : decode cX10_actOnStrobe 109 = .ok (.invokevirtual 242, 3) := by decide +kernel
theorem dX10_actOnStrobe_112 : decode cX10_actOnStrobe 112 = .ok (.goto 3, 3) := by decide +kernel
theorem dX10_actOnStrobe_115 : decode cX10_actOnStrobe 115 = .ok (.return_, 1) := by decide +kernel
set_option maxRecDepth 20000 in
theorem ggX10_actOnDataStrobe_X3_findLevel : GoodIn wsX10_actOnDataStrobe wsX3_findLevel := goodIn_r _ [18, 19, 20, 21, 22, 23, 24, 25, 26, 151] (by decide +kernel) (by decide +kernel)
set_option maxRecDepth 20000 in
theorem gX10_actOnDataStrobe_X3_findLevel : GoodIn wsX10_actOnDataStrobe (wsV RX10 149 RX3 yX3_findLevel wsX3_findLevel) := goodIn_app (goodIn_of _ (by decide +kernel)) ggX10_actOnDataStrobe_X3_findLevel
set_option maxRecDepth 20000 in
theorem ggX10_actOnDataStrobe_X6_measureAtData : GoodIn wsX10_actOnDataStrobe wsX6_measureAtData := goodIn_r _ [31, 32, 33, 34, 35, 36, 37, 38, 39, 30, 40, 41, 42, 43, 44, 45, 46, 47, 48, 144, 145, 146, 147, 148, 149, 150, 152, 153] (by decide +kernel) (by decide +kernel)
set_option maxRecDepth 20000 in
theorem gX10_actOnDataStrobe_X6_measureAtData : GoodIn wsX10_actOnDataStrobe (wsV RX10 245 RX6 yX6_measureAtData wsX6_measureAtData) := goodIn_app (goodIn_of _ (by decide +kernel)) ggX10_actOnDataStrobe_X6_measureAtData
set_option maxRecDepth 20000 in
theorem ggX10_actOnDataStrobe_X4_takeError : GoodIn wsX10_actOnDataStrobe wsX4_takeError := goodIn_r _ [53, 54, 55, 56, 57, 58, 59, 60, 61, 52, 62, 63, 64, 65, 66, 67, 68, 69, 70, 71, 72, 73, 154, 155, 156, 157, 158] (by decide +kernel) (by decide +kernel)
set_option maxRecDepth 20000 in
theorem gX10_actOnDataStrobe_X4_takeError : GoodIn wsX10_actOnDataStrobe (wsV RX10 232 RX4 yX4_takeError wsX4_takeError) := goodIn_app (goodIn_of _ (by decide +kernel)) ggX10_actOnDataStrobe_X4_takeError
set_option maxRecDepth 20000 in
theorem ggX10_actOnDataStrobe_X6_finishBit : GoodIn wsX10_actOnDataStrobe wsX6_finishBit := goodIn_r _ [77, 33, 34, 36, 144, 145, 146, 147, 148, 149, 150] (by decide +kernel) (by decide +kernel)
set_option maxRecDepth 20000 in
theorem gX10_actOnDataStrobe_X6_finishBit : GoodIn wsX10_actOnDataStrobe (wsV RX10 249 RX6 yX6_finishBit wsX6_finishBit) := goodIn_app (goodIn_of _ (by decide +kernel)) ggX10_actOnDataStrobe_X6_finishBit
set_option maxRecDepth 20000 in
theorem ggX10_actOnDataStrobe_X1_add : GoodIn wsX10_actOnDataStrobe wsX1_add := goodIn_r _ [81, 82, 48, 152, 153] (by decide +kernel) (by decide +kernel)
set_option maxRecDepth 20000 in
theorem gX10_actOnDataStrobe_X1_add : GoodIn wsX10_actOnDataStrobe (wsV RX10 252 RX1 yX1_add wsX1_add) := goodIn_app (goodIn_of _ (by decide +kernel)) ggX10_actOnDataStrobe_X1_add
set_option maxRecDepth 20000 in
theorem ggX10_actOnDataStrobe_X8_compare : GoodIn wsX10_actOnDataStrobe wsX8_compare := goodIn_r _ [87, 88, 89, 90, 91, 159, 160, 161, 162] (by decide +kernel) (by decide +kernel)
set_option maxRecDepth 20000 in
theorem gX10_actOnDataStrobe_X8_compare : GoodIn wsX10_actOnDataStrobe (wsV RX10 254 RX8 yX8_compare wsX8_compare) := goodIn_app (goodIn_of _ (by decide +kernel)) ggX10_actOnDataStrobe_X8_compare
set_option maxRecDepth 20000 in
theorem ggX10_actOnDataStrobe_X7_add : GoodIn wsX10_actOnDataStrobe wsX7_add := goodIn_r _ [96, 97, 98, 99, 100, 101, 102, 103, 163, 164, 165, 166] (by decide +kernel) (by decide +kernel)
set_option maxRecDepth 20000 in
theorem gX10_actOnDataStrobe_X7_add : GoodIn wsX10_actOnDataStrobe (wsV RX10 258 RX7 yX7_add wsX7_add) := goodIn_app (goodIn_of _ (by decide +kernel)) ggX10_actOnDataStrobe_X7_add
set_option maxRecDepth 20000 in
theorem ggX10_actOnDataStrobe_X1_endsWithSyncWord : GoodIn wsX10_actOnDataStrobe wsX1_endsWithSyncWord := goodIn_r _ [107, 82, 48, 152, 153] (by decide +kernel) (by decide +kernel)
set_option maxRecDepth 20000 in
theorem gX10_actOnDataStrobe_X1_endsWithSyncWord : GoodIn wsX10_actOnDataStrobe (wsV RX10 261 RX1 yX1_endsWithSyncWord wsX1_endsWithSyncWord) := goodIn_app (goodIn_of _ (by decide +kernel)) ggX10_actOnDataStrobe_X1_endsWithSyncWord
set_option maxRecDepth 20000 in
theorem ggX10_actOnDataStrobe_X0_take : GoodIn wsX10_actOnDataStrobe wsX0_take := goodIn_r _ [112, 113, 114, 115, 116, 117, 118, 111, 119, 120, 121, 122, 123, 124, 125, 126, 167, 168, 169, 170, 171, 172] (by decide +kernel) (by decide +kernel)
set_option maxRecDepth 20000 in
theorem gX10_actOnDataStrobe_X0_take : GoodIn wsX10_actOnDataStrobe (wsV RX10 264 RX0 yX0_take wsX0_take) := goodIn_app (goodIn_of _ (by decide +kernel)) ggX10_actOnDataStrobe_X0_take
theorem dX10_actOnDataStrobe_0 : decode cX10_actOnDataStrobe 0 = .ok (.aload_n 0, 1) := by decide +kernel
theorem dX10_actOnDataStrobe_1 : decode cX10_actOnDataStrobe 1 = .ok (.getfield 10, 3) := by decide +kernel
theorem dX10_actOnDataStrobe_4 : decode cX10_actOnDataStrobe 4 = .ok (.getfield 146, 3) := by decide +kernel
theorem dX10_actOnDataStrobe_7 : decode cX10_actOnDataStrobe 7 = .ok (.istore_n 1, 1) := by decide +kernel
theorem dX10_actOnDataStrobe_8 : decode cX10_actOnDataStrobe 8 = .ok (.aload_n 0, 1) := by decide +kernel
theorem dX10_actOnDataStrobe_9 : decode cX10_actOnDataStrobe 9 = .ok (.getfield 19, 3) := by decide +kernel
theorem dX10_actOnDataStrobe_12 : decode cX10_actOnDataStrobe 12 = .ok (.invokevirtual 149, 3) := by decide +kernel
theorem dX10_actOnDataStrobe_15 : decode cX10_actOnDataStrobe 15 = .ok (.istore_n 2, 1) := by decide +kernel
theorem dX10_actOnDataStrobe_16 : decode cX10_actOnDataStrobe 16 = .ok (.aload_n 0, 1) := by decide +kernel
theorem dX10_actOnDataStrobe_17 : decode cX10_actOnDataStrobe 17 = .ok (.getfield 40, 3) := by decide +kernel
theorem dX10_actOnDataStrobe_20 : decode cX10_actOnDataStrobe 20 = .ok (.getfield 107, 3) := by decide +kernel
theorem dX10_actOnDataStrobe_23 : decode cX10_actOnDataStrobe 23 = .ok (.iconst 4, 1) := by decide +kernel
theorem dX10_actOnDataStrobe_24 : decode cX10_actOnDataStrobe 24 = .ok (.if_icmp .eq 23, 3) := by decide +kernel
theorem dX10_actOnDataStrobe_27 : decode cX10_actOnDataStrobe 27 = .ok (.aload_n 0, 1) := by decide +kernel
theorem dX10_actOnDataStrobe_28 : decode cX10_actOnDataStrobe 28 = .ok (.getfield 47, 3) := by decide +kernel
theorem dX10_actOnDataStrobe_31 : decode cX10_actOnDataStrobe 31 = .ok (.aload_n 0, 1) := by decide +kernel
theorem dX10_actOnDataStrobe_32 : decode cX10_actOnDataStrobe 32 = .ok (.getfield 40, 3) := by decide +kernel
theorem dX10_actOnDataStrobe_35 : decode cX10_actOnDataStrobe 35 = .ok (.iload_n 1, 1) := by decide +kernel
theorem dX10_actOnDataStrobe_36 : decode cX10_actOnDataStrobe 36 = .ok (.iload_n 2, 1) := by decide +kernel
theorem dX10_actOnDataStrobe_37 : decode cX10_actOnDataStrobe 37 = .ok (.aload_n 0, 1) := by decide +kernel
theorem dX10_actOnDataStrobe_38 : decode cX10_actOnDataStrobe 38 = .ok (.getfield 54, 3) := by decide +kernel
theorem dX10_actOnDataStrobe_41 : decode cX10_actOnDataStrobe 41 = .ok (.invokevirtual 245, 3) := by decide +kernel
theorem dX10_actOnDataStrobe_44 : decode cX10_actOnDataStrobe 44 = .ok (.invokevirtual 232, 3) := by decide +kernel
theorem dX10_actOnDataStrobe_47 : decode cX10_actOnDataStrobe 47 = .ok (.aload_n 0, 1) := by decide +kernel
theorem dX10_actOnDataStrobe_48 : decode cX10_actOnDataStrobe 48 = .ok (.getfield 40, 3) := by decide +kernel
theorem dX10_actOnDataStrobe_51 : decode cX10_actOnDataStrobe 51 = .ok (.iload_n 2, 1) := by decide +kernel
theorem dX10_actOnDataStrobe_52 : decode cX10_actOnDataStrobe 52 = .ok (.invokevirtual 249, 3) := by decide +kernel
theorem dX10_actOnDataStrobe_55 : decode cX10_actOnDataStrobe 55 = .ok (.aload_n 0, 1) := by decide +kernel
theorem dX10_actOnDataStrobe_56 : decode cX10_actOnDataStrobe 56 = .ok (.getfield 54, 3) := by decide +kernel
theorem dX10_actOnDataStrobe_59 : decode cX10_actOnDataStrobe 59 = .ok (.iload_n 1, 1) := by decide +kernel
theorem dX10_actOnDataStrobe_60 : decode cX10_actOnDataStrobe 60 = .ok (.invokevirtual 252, 3) := by decide +kernel
theorem dX10_actOnDataStrobe_63 : decode cX10_actOnDataStrobe 63 = .ok (.aload_n 0, 1) := by decide +kernel
theorem dX10_actOnDataStrobe_64 : decode cX10_actOnDataStrobe 64 = .ok (.getfield 61, 3) := by decide +kernel
theorem dX10_actOnDataStrobe_67 : decode cX10_actOnDataStrobe 67 = .ok (.aload_n 0, 1) := by decide +kernel
theorem dX10_actOnDataStrobe_68 : decode cX10_actOnDataStrobe 68 = .ok (.getfield 10, 3) := by decide +kernel
theorem dX10_actOnDataStrobe_71 : decode cX10_actOnDataStrobe 71 = .ok (.getfield 143, 3) := by decide +kernel
theorem dX10_actOnDataStrobe_74 : decode cX10_actOnDataStrobe 74 = .ok (.invokevirtual 254, 3) := by decide +kernel
theorem dX10_actOnDataStrobe_77 : decode cX10_actOnDataStrobe 77 = .ok (.istore_n 3, 1) := by decide +kernel
theorem dX10_actOnDataStrobe_78 : decode cX10_actOnDataStrobe 78 = .ok (.aload_n 0, 1) := by decide +kernel
theorem dX10_actOnDataStrobe_79 : decode cX10_actOnDataStrobe 79 = .ok (.getfield 68, 3) := by decide +kernel
theorem dX10_actOnDataStrobe_82 : decode cX10_actOnDataStrobe 82 = .ok (.aload_n 0, 1) := by decide +kernel
theorem dX10_actOnDataStrobe_83 : decode cX10_actOnDataStrobe 83 = .ok (.getfield 10, 3) := by decide +kernel
theorem dX10_actOnDataStrobe_86 : decode cX10_actOnDataStrobe 86 = .ok (.getfield 153, 3) := by decide +kernel
theorem dX10_actOnDataStrobe_89 : decode cX10_actOnDataStrobe 89 = .ok (.ldc_w 257, 3) := by decide +kernel
theorem dX10_actOnDataStrobe_92 : decode cX10_actOnDataStrobe 92 = .ok (.isub, 1) := by decide +kernel
theorem dX10_actOnDataStrobe_93 : decode cX10_actOnDataStrobe 93 = .ok (.iload_n 3, 1) := by decide +kernel
theorem dX10_actOnDataStrobe_94 : decode cX10_actOnDataStrobe 94 = .ok (.invokevirtual 258, 3) := by decide +kernel
theorem dX10_actOnDataStrobe_97 : decode cX10_actOnDataStrobe 97 = .ok (.aload_n 0, 1) := by decide +kernel
theorem dX10_actOnDataStrobe_98 : decode cX10_actOnDataStrobe 98 = .ok (.getfield 75, 3) := by decide +kernel
theorem dX10_actOnDataStrobe_101 : decode cX10_actOnDataStrobe 101 = .ok (.aload_n 0, 1) := by decide +kernel
theorem dX10_actOnDataStrobe_102 : decode cX10_actOnDataStrobe 102 = .ok (.getfield 54, 3) := by decide +kernel
theorem dX10_actOnDataStrobe_105 : decode cX10_actOnDataStrobe 105 = .ok (.invokevirtual 261, 3) := by decide +kernel
theorem dX10_actOnDataStrobe_108 : decode cX10_actOnDataStrobe 108 = .ok (.invokevirtual 264, 3) := by decide +kernel
theorem dX10_actOnDataStrobe_111 : decode cX10_actOnDataStrobe 111 = .ok (.return_, 1) := by decide +kernel
theorem dX10_isWithin_0 : decode cX10_isWithin 0 = .ok (.iload_n 0, 1) := by decide +kernel
theorem dX10_isWithin_1 : decode cX10_isWithin 1 = .ok (.iload_n 1, 1) := by decide +kernel
theorem dX10_isWithin_2 : decode cX10_isWithin 2 = .ok (.if_icmp .lt 12, 3) := by decide +kernel
theorem dX10_isWithin_5 : decode cX10_isWithin 5 = .ok (.iload_n 0, 1) := by decide +kernel
theorem dX10_isWithin_6 : decode cX10_isWithin 6 = .ok (.iload_n 2, 1) := by decide +kernel
theorem dX10_isWithin_7 : decode cX10_isWithin 7 = .ok (.if_icmp .gt 7, 3) := by decide +kernel
theorem dX10_isWithin_10 : decode cX10_isWithin 10 = .ok (.iconst 1, 1) := by decide +kernel
theorem dX10_isWithin_11 : decode cX10_isWithin 11 = .ok (.goto 4, 3) := by decide +kernel
theorem dX10_isWithin_14 : decode cX10_isWithin 14 = .ok (.iconst 0, 1) := by decide +kernel
theorem dX10_isWithin_15 : decode cX10_isWithin 15 = .ok (.ireturn, 1) := by decide +kernel
theorem dX11_init_0 : decode cX11_init 0 = .ok (.aload_n 0, 1) := by decide +kernel
theorem dX11_init_1 : decode cX11_init 1 = .ok (.invokespecial 1, 3) := by decide +kernel
theorem dX11_init_4 : decode cX11_init 4 = .ok (.aload_n 0, 1) := by decide +kernel
theorem dX11_init_5 : decode cX11_init 5 = .ok (.sipush 4096, 3) := by decide +kernel
theorem dX11_init_8 : decode cX11_init 8 = .ok (.putfield 9, 3) := by decide +kernel
theorem dX11_init_11 : decode cX11_init 11 = .ok (.aload_n 0, 1) := by decide +kernel
theorem dX11_init_12 : decode cX11_init 12 = .ok (.lconst 1, 1) := by decide +kernel
theorem dX11_init_13 : decode cX11_init 13 = .ok (.putfield 13, 3) := by decide +kernel
theorem dX11_init_16 : decode cX11_init 16 = .ok (.aload_n 0, 1) := by decide +kernel
theorem dX11_init_17 : decode cX11_init 17 = .ok (.bipush 127, 2) := by decide +kernel
theorem dX11_init_19 : decode cX11_init 19 = .ok (.putfield 17, 3) := by decide +kernel
theorem dX11_init_22 : decode cX11_init 22 = .ok (.aload_n 0, 1) := by decide +kernel
theorem dX11_init_23 : decode cX11_init 23 = .ok (.iconst 1, 1) := by decide +kernel
theorem dX11_init_24 : decode cX11_init 24 = .ok (.putfield 20, 3) := by decide +kernel
theorem dX11_init_27 : decode cX11_init 27 = .ok (.aload_n 0, 1) := by decide +kernel
theorem dX11_init_28 : decode cX11_init 28 = .ok (.ldc 23, 2) := by decide +kernel
theorem dX11_init_30 : decode cX11_init 30 = .ok (.putfield 24, 3) := by decide +kernel
theorem dX11_init_33 : decode cX11_init 33 = .ok (.aload_n 0, 1) := by decide +kernel
theorem dX11_init_34 : decode cX11_init 34 = .ok (.sipush 256, 3) := by decide +kernel
theorem dX11_init_37 : decode cX11_init 37 = .ok (.newarray .boolean, 2) := by decide +kernel
theorem dX11_init_39 : decode cX11_init 39 = .ok (.putfield 27, 3) := by decide +kernel
theorem dX11_init_42 : decode cX11_init 42 = .ok (.aload_n 0, 1) := by decide +kernel
theorem dX11_init_43 : decode cX11_init 43 = .ok (.bipush 8, 2) := by decide +kernel
theorem dX11_init_45 : decode cX11_init 45 = .ok (.putfield 31, 3) := by decide +kernel
theorem dX11_init_48 : decode cX11_init 48 = .ok (.aload_n 0, 1) := by decide +kernel
theorem dX11_init_49 : decode cX11_init 49 = .ok (.iconst 1, 1) := by decide +kernel
theorem dX11_init_50 : decode cX11_init 50 = .ok (.putfield 34, 3) := by decide +kernel
theorem dX11_init_53 : decode cX11_init 53 = .ok (.aload_n 0, 1) := by decide +kernel
theorem dX11_init_54 : decode cX11_init 54 = .ok (.bipush 32, 2) := by decide +kernel
theorem dX11_init_56 : decode cX11_init 56 = .ok (.newarray .int, 2) := by decide +kernel
theorem dX11_init_58 : decode cX11_init 58 = .ok (.putfield 37, 3) := by decide +kernel
theorem dX11_init_61 : decode cX11_init 61 = .ok (.return_, 1) := by decide +kernel
theorem dX11_thrown_0 : decode cX11_thrown 0 = .ok (.aload_n 0, 1) := by decide +kernel
theorem dX11_thrown_1 : decode cX11_thrown 1 = .ok (.getfield 41, 3) := by decide +kernel
theorem dX11_thrown_4 : decode cX11_thrown 4 = .ok (.ireturn, 1) := by decide +kernel
theorem dX11_holds_0 : decode cX11_holds 0 = .ok (.aload_n 0, 1) := by decide +kernel
theorem dX11_holds_1 : decode cX11_holds 1 = .ok (.iload_n 1, 1) := by decide +kernel
theorem dX11_holds_2 : decode cX11_holds 2 = .ok (.putfield 41, 3) := by decide +kernel
theorem dX11_holds_5 : decode cX11_holds 5 = .ok (.iload_n 1, 1) := by decide +kernel
theorem dX11_holds_6 : decode cX11_holds 6 = .ok (.ifCond .ne 7, 3) := by decide +kernel
theorem dX11_holds_9 : decode cX11_holds 9 = .ok (.iconst 1, 1) := by decide +kernel
theorem dX11_holds_10 : decode cX11_holds 10 = .ok (.goto 4, 3) := by decide +kernel
theorem dX11_holds_13 : decode cX11_holds 13 = .ok (.iconst 0, 1) := by decide +kernel
theorem dX11_holds_14 : decode cX11_holds 14 = .ok (.ireturn, 1) := by decide +kernel
theorem dX11_in_0 : decode cX11_in 0 = .ok (.iload_n 0, 1) := by decide +kernel
theorem dX11_in_1 : decode cX11_in 1 = .ok (.iload_n 1, 1) := by decide +kernel
theorem dX11_in_2 : decode cX11_in 2 = .ok (.if_icmp .lt 12, 3) := by decide +kernel
theorem dX11_in_5 : decode cX11_in 5 = .ok (.iload_n 0, 1) := by decide +kernel
theorem dX11_in_6 : decode cX11_in 6 = .ok (.iload_n 2, 1) := by decide +kernel
theorem dX11_in_7 : decode cX11_in 7 = .ok (.if_icmp .gt 7, 3) := by decide +kernel
theorem dX11_in_10 : decode cX11_in 10 = .ok (.iconst 1, 1) := by decide +kernel
theorem dX11_in_11 : decode cX11_in 11 = .ok (.goto 4, 3) := by decide +kernel
theorem dX11_in_14 : decode cX11_in 14 = .ok (.iconst 0, 1) := by decide +kernel
theorem dX11_in_15 : decode cX11_in 15 = .ok (.ireturn, 1) := by decide +kernel
set_option maxRecDepth 20000 in
theorem ggX11_setOffset_X11_in : GoodIn wsX11_setOffset wsX11_in := goodIn_r _ [5] (by decide +kernel) (by decide +kernel)
set_option maxRecDepth 20000 in
theorem gX11_setOffset_X11_in : GoodIn wsX11_setOffset (va_wsS RX11 44 yX11_in wsX11_in) := goodIn_app (goodIn_of _ (by decide +kernel)) ggX11_setOffset_X11_in
set_option maxRecDepth 20000 in
theorem ggX11_setOffset_X11_holds : GoodIn wsX11_setOffset wsX11_holds := goodIn_r _ [9, 10, 11, 12, 13, 14, 15, 16, 17, 18, 19, 20, 21, 22, 23, 24, 25, 26, 27, 28, 29, 30, 31, 32, 33, 34, 35, 36, 37, 38, 39, 40, 41, 42, 43, 44, 45, 46, 47] (by decide +kernel) (by decide +kernel)
set_option maxRecDepth 20000 in
theorem gX11_setOffset_X11_holds : GoodIn wsX11_setOffset (wsV RX11 48 RX11 yX11_holds wsX11_holds) := goodIn_app (goodIn_of _ (by decide +kernel)) ggX11_setOffset_X11_holds
theorem dX11_setOffset_0 : decode cX11_setOffset 0 = .ok (.aload_n 0, 1) := by decide +kernel
theorem dX11_setOffset_1 : decode cX11_setOffset 1 = .ok (.iload_n 1, 1) := by decide +kernel
theorem dX11_setOffset_2 : decode cX11_setOffset 2 = .ok (.sipush (-300), 3) := by decide +kernel
theorem dX11_setOffset_5 : decode cX11_setOffset 5 = .ok (.sipush 300, 3) := by decide +kernel
theorem dX11_setOffset_8 : decode cX11_setOffset 8 = .ok (.invokestatic 44, 3) := by decide +kernel
theorem dX11_setOffset_11 : decode cX11_setOffset 11 = .ok (.ifCond .eq 7, 3) := by decide +kernel
theorem dX11_setOffset_14 : decode cX11_setOffset 14 = .ok (.iconst 0, 1) := by decide +kernel
theorem dX11_setOffset_15 : decode cX11_setOffset 15 = .ok (.goto 4, 3) := by decide +kernel
theorem dX11_setOffset_18 : decode cX11_setOffset 18 = .ok (.iconst 1, 1) := by decide +kernel
theorem dX11_setOffset_19 : decode cX11_setOffset 19 = .ok (.invokevirtual 48, 3) := by decide +kernel
theorem dX11_setOffset_22 : decode cX11_setOffset 22 = .ok (.ifCond .ne 5, 3) := by decide +kernel
theorem dX11_setOffset_25 : decode cX11_setOffset 25 = .ok (.iconst 0, 1) := by decide +kernel
theorem dX11_setOffset_26 : decode cX11_setOffset 26 = .ok (.ireturn, 1) := by decide +kernel
theorem dX11_setOffset_27 : decode cX11_setOffset 27 = .ok (.aload_n 0, 1) := by decide +kernel
theorem dX11_setOffset_28 : decode cX11_setOffset 28 = .ok (.sipush 4096, 3) := by decide +kernel
theorem dX11_setOffset_31 : decode cX11_setOffset 31 = .ok (.iload_n 1, 1) := by decide +kernel
theorem dX11_setOffset_32 : decode cX11_setOffset 32 = .ok (.iadd, 1) := by decide +kernel
theorem dX11_setOffset_33 : decode cX11_setOffset 33 = .ok (.putfield 9, 3) := by decide +kernel
theorem dX11_setOffset_36 : decode cX11_setOffset 36 = .ok (.aload_n 0, 1) := by decide +kernel
theorem dX11_setOffset_37 : decode cX11_setOffset 37 = .ok (.getfield 9, 3) := by decide +kernel
theorem dX11_setOffset_40 : decode cX11_setOffset 40 = .ok (.ireturn, 1) := by decide +kernel
set_option maxRecDepth 20000 in
theorem ggX11_setJitter_X11_in : GoodIn wsX11_setJitter wsX11_in := goodIn_r _ [6] (by decide +kernel) (by decide +kernel)
set_option maxRecDepth 20000 in
theorem gX11_setJitter_X11_in : GoodIn wsX11_setJitter (va_wsS RX11 44 yX11_in wsX11_in) := goodIn_app (goodIn_of _ (by decide +kernel)) ggX11_setJitter_X11_in
set_option maxRecDepth 20000 in
theorem ggX11_setJitter_X11_holds : GoodIn wsX11_setJitter wsX11_holds := goodIn_r _ [10, 11, 12, 13, 14, 15, 16, 17, 18, 19, 20, 21, 22, 23, 24, 25, 26, 27, 28, 29, 30, 31, 32, 33, 34, 35, 36, 37, 38, 39, 40, 41, 42, 43, 44, 45, 46, 47, 48] (by decide +kernel) (by decide +kernel)
set_option maxRecDepth 20000 in
theorem gX11_setJitter_X11_holds : GoodIn wsX11_setJitter (wsV RX11 48 RX11 yX11_holds wsX11_holds) := goodIn_app (goodIn_of _ (by decide +kernel)) ggX11_setJitter_X11_holds
theorem dX11_setJitter_0 : decode cX11_setJitter 0 = .ok (.aload_n 0, 1) := by decide +kernel
theorem dX11_setJitter_1 : decode cX11_setJitter 1 = .ok (.iload_n 1, 1) := by decide +kernel
theorem dX11_setJitter_2 : decode cX11_setJitter 2 = .ok (.iconst 0, 1) := by decide +kernel
theorem dX11_setJitter_3 : decode cX11_setJitter 3 = .ok (.sipush 2000, 3) := by decide +kernel
theorem dX11_setJitter_6 : decode cX11_setJitter 6 = .ok (.invokestatic 44, 3) := by decide +kernel
theorem dX11_setJitter_9 : decode cX11_setJitter 9 = .ok (.ifCond .eq 11, 3) := by decide +kernel
theorem dX11_setJitter_12 : decode cX11_setJitter 12 = .ok (.iload_n 2, 1) := by decide +kernel
theorem dX11_setJitter_13 : decode cX11_setJitter 13 = .ok (.ifCond .lt 7, 3) := by decide +kernel
theorem dX11_setJitter_16 : decode cX11_setJitter 16 = .ok (.iconst 0, 1) := by decide +kernel
theorem dX11_setJitter_17 : decode cX11_setJitter 17 = .ok (.goto 4, 3) := by decide +kernel
theorem dX11_setJitter_20 : decode cX11_setJitter 20 = .ok (.iconst 1, 1) := by decide +kernel
theorem dX11_setJitter_21 : decode cX11_setJitter 21 = .ok (.invokevirtual 48, 3) := by decide +kernel
theorem dX11_setJitter_24 : decode cX11_setJitter 24 = .ok (.ifCond .eq 14, 3) := by decide +kernel
theorem dX11_setJitter_27 : decode cX11_setJitter 27 = .ok (.aload_n 0, 1) := by decide +kernel
theorem dX11_setJitter_28 : decode cX11_setJitter 28 = .ok (.iload_n 1, 1) := by decide +kernel
theorem dX11_setJitter_29 : decode cX11_setJitter 29 = .ok (.putfield 52, 3) := by decide +kernel
theorem dX11_setJitter_32 : decode cX11_setJitter 32 = .ok (.aload_n 0, 1) := by decide +kernel
theorem dX11_setJitter_33 : decode cX11_setJitter 33 = .ok (.iload_n 2, 1) := by decide +kernel
theorem dX11_setJitter_34 : decode cX11_setJitter 34 = .ok (.i2l, 1) := by decide +kernel
theorem dX11_setJitter_35 : decode cX11_setJitter 35 = .ok (.putfield 13, 3) := by decide +kernel
theorem dX11_setJitter_38 : decode cX11_setJitter 38 = .ok (.return_, 1) := by decide +kernel
set_option maxRecDepth 20000 in
theorem ggX11_setDetector_X11_in : GoodIn wsX11_setDetector wsX11_in := goodIn_r _ [5] (by decide +kernel) (by decide +kernel)
set_option maxRecDepth 20000 in
theorem gX11_setDetector_X11_in : GoodIn wsX11_setDetector (va_wsS RX11 44 yX11_in wsX11_in) := goodIn_app (goodIn_of _ (by decide +kernel)) ggX11_setDetector_X11_in
set_option maxRecDepth 20000 in
theorem ggX11_setDetector_X11_holds : GoodIn wsX11_setDetector wsX11_holds := goodIn_r _ [9, 10, 11, 12, 13, 14, 15, 16, 17, 18, 19, 20, 21, 22, 23, 24, 25, 26, 27, 28, 29, 30, 31, 32, 33, 34, 35, 36, 37, 38, 39, 40, 41, 42, 43, 44, 45, 46, 47] (by decide +kernel) (by decide +kernel)
set_option maxRecDepth 20000 in
theorem gX11_setDetector_X11_holds : GoodIn wsX11_setDetector (wsV RX11 48 RX11 yX11_holds wsX11_holds) := goodIn_app (goodIn_of _ (by decide +kernel)) ggX11_setDetector_X11_holds
theorem dX11_setDetector_0 : decode cX11_setDetector 0 = .ok (.aload_n 0, 1) := by decide +kernel
theorem dX11_setDetector_1 : decode cX11_setDetector 1 = .ok (.iload_n 1, 1) := by decide +kernel
theorem dX11_setDetector_2 : decode cX11_setDetector 2 = .ok (.iconst 0, 1) := by decide +kernel
theorem dX11_setDetector_3 : decode cX11_setDetector 3 = .ok (.iconst 4, 1) := by decide +kernel
theorem dX11_setDetector_4 : decode cX11_setDetector 4 = .ok (.invokestatic 44, 3) := by decide +kernel
theorem dX11_setDetector_7 : decode cX11_setDetector 7 = .ok (.ifCond .eq 7, 3) := by decide +kernel
theorem dX11_setDetector_10 : decode cX11_setDetector 10 = .ok (.iconst 0, 1) := by decide +kernel
theorem dX11_setDetector_11 : decode cX11_setDetector 11 = .ok (.goto 4, 3) := by decide +kernel
theorem dX11_setDetector_14 : decode cX11_setDetector 14 = .ok (.iconst 1, 1) := by decide +kernel
theorem dX11_setDetector_15 : decode cX11_setDetector 15 = .ok (.invokevirtual 48, 3) := by decide +kernel
theorem dX11_setDetector_18 : decode cX11_setDetector 18 = .ok (.ifCond .ne 5, 3) := by decide +kernel
theorem dX11_setDetector_21 : decode cX11_setDetector 21 = .ok (.iconst 0, 1) := by decide +kernel
theorem dX11_setDetector_22 : decode cX11_setDetector 22 = .ok (.ireturn, 1) := by decide +kernel
theorem dX11_setDetector_23 : decode cX11_setDetector 23 = .ok (.aload_n 0, 1) := by decide +kernel
theorem dX11_setDetector_24 : decode cX11_setDetector 24 = .ok (.getfield 55, 3) := by decide +kernel
theorem dX11_setDetector_27 : decode cX11_setDetector 27 = .ok (.istore_n 2, 1) := by decide +kernel
theorem dX11_setDetector_28 : decode cX11_setDetector 28 = .ok (.aload_n 0, 1) := by decide +kernel
theorem dX11_setDetector_29 : decode cX11_setDetector 29 = .ok (.iload_n 1, 1) := by decide +kernel
theorem dX11_setDetector_30 : decode cX11_setDetector 30 = .ok (.putfield 55, 3) := by decide +kernel
theorem dX11_setDetector_33 : decode cX11_setDetector 33 = .ok (.iload_n 2, 1) := by decide +kernel
theorem dX11_setDetector_34 : decode cX11_setDetector 34 = .ok (.ireturn, 1) := by decide +kernel
set_option maxRecDepth 20000 in
theorem ggX11_setGains_X11_in : GoodIn wsX11_setGains wsX11_in := goodIn_r _ [6] (by decide +kernel) (by decide +kernel)
set_option maxRecDepth 20000 in
theorem gX11_setGains_X11_in : GoodIn wsX11_setGains (va_wsS RX11 44 yX11_in wsX11_in) := goodIn_app (goodIn_of _ (by decide +kernel)) ggX11_setGains_X11_in
set_option maxRecDepth 20000 in
theorem ggX11_setGains_X11_holds : GoodIn wsX11_setGains wsX11_holds := goodIn_r _ [10, 11, 12, 13, 14, 15, 16, 17, 18, 19, 20, 21, 22, 23, 24, 25, 26, 27, 28, 29, 30, 31, 32, 33, 34, 35, 36, 37, 38, 39, 40, 41, 42, 43, 44, 45, 46, 47, 48] (by decide +kernel) (by decide +kernel)
set_option maxRecDepth 20000 in
theorem gX11_setGains_X11_holds : GoodIn wsX11_setGains (wsV RX11 48 RX11 yX11_holds wsX11_holds) := goodIn_app (goodIn_of _ (by decide +kernel)) ggX11_setGains_X11_holds
theorem dX11_setGains_0 : decode cX11_setGains 0 = .ok (.aload_n 0, 1) := by decide +kernel
theorem dX11_setGains_1 : decode cX11_setGains 1 = .ok (.iload_n 1, 1) := by decide +kernel
theorem dX11_setGains_2 : decode cX11_setGains 2 = .ok (.iconst 0, 1) := by decide +kernel
theorem dX11_setGains_3 : decode cX11_setGains 3 = .ok (.bipush 64, 2) := by decide +kernel
theorem dX11_setGains_5 : decode cX11_setGains 5 = .ok (.invokestatic 44, 3) := by decide +kernel
theorem dX11_setGains_8 : decode cX11_setGains 8 = .ok (.ifCond .eq 17, 3) := by decide +kernel
theorem dX11_setGains_11 : decode cX11_setGains 11 = .ok (.iload_n 2, 1) := by decide +kernel
theorem dX11_setGains_12 : decode cX11_setGains 12 = .ok (.iconst 0, 1) := by decide +kernel
theorem dX11_setGains_13 : decode cX11_setGains 13 = .ok (.bipush 64, 2) := by decide +kernel
theorem dX11_setGains_15 : decode cX11_setGains 15 = .ok (.invokestatic 44, 3) := by decide +kernel
theorem dX11_setGains_18 : decode cX11_setGains 18 = .ok (.ifCond .eq 7, 3) := by decide +kernel
theorem dX11_setGains_21 : decode cX11_setGains 21 = .ok (.iconst 0, 1) := by decide +kernel
theorem dX11_setGains_22 : decode cX11_setGains 22 = .ok (.goto 4, 3) := by decide +kernel
theorem dX11_setGains_25 : decode cX11_setGains 25 = .ok (.iconst 1, 1) := by decide +kernel
theorem dX11_setGains_26 : decode cX11_setGains 26 = .ok (.invokevirtual 48, 3) := by decide +kernel
theorem dX11_setGains_29 : decode cX11_setGains 29 = .ok (.ifCond .eq 13, 3) := by decide +kernel
theorem dX11_setGains_32 : decode cX11_setGains 32 = .ok (.aload_n 0, 1) := by decide +kernel
theorem dX11_setGains_33 : decode cX11_setGains 33 = .ok (.iload_n 1, 1) := by decide +kernel
theorem dX11_setGains_34 : decode cX11_setGains 34 = .ok (.putfield 31, 3) := by decide +kernel
theorem dX11_setGains_37 : decode cX11_setGains 37 = .ok (.aload_n 0, 1) := by decide +kernel
theorem dX11_setGains_38 : decode cX11_setGains 38 = .ok (.iload_n 2, 1) := by decide +kernel
theorem dX11_setGains_39 : decode cX11_setGains 39 = .ok (.putfield 34, 3) := by decide +kernel
theorem dX11_setGains_42 : decode cX11_setGains 42 = .ok (.return_, 1) := by decide +kernel
set_option maxRecDepth 20000 in
theorem ggX11_setPhase_X11_in : GoodIn wsX11_setPhase wsX11_in := goodIn_r _ [6] (by decide +kernel) (by decide +kernel)
set_option maxRecDepth 20000 in
theorem gX11_setPhase_X11_in : GoodIn wsX11_setPhase (va_wsS RX11 44 yX11_in wsX11_in) := goodIn_app (goodIn_of _ (by decide +kernel)) ggX11_setPhase_X11_in
set_option maxRecDepth 20000 in
theorem ggX11_setPhase_X11_holds : GoodIn wsX11_setPhase wsX11_holds := goodIn_r _ [10, 11, 12, 13, 14, 15, 16, 17, 18, 19, 20, 21, 22, 23, 24, 25, 26, 27, 28, 29, 30, 31, 32, 33, 34, 35, 36, 37, 38, 39, 40, 41, 42, 43, 44, 45, 46, 47, 48] (by decide +kernel) (by decide +kernel)
set_option maxRecDepth 20000 in
theorem gX11_setPhase_X11_holds : GoodIn wsX11_setPhase (wsV RX11 48 RX11 yX11_holds wsX11_holds) := goodIn_app (goodIn_of _ (by decide +kernel)) ggX11_setPhase_X11_holds
theorem dX11_setPhase_0 : decode cX11_setPhase 0 = .ok (.aload_n 0, 1) := by decide +kernel
theorem dX11_setPhase_1 : decode cX11_setPhase 1 = .ok (.iload_n 1, 1) := by decide +kernel
theorem dX11_setPhase_2 : decode cX11_setPhase 2 = .ok (.iconst 0, 1) := by decide +kernel
theorem dX11_setPhase_3 : decode cX11_setPhase 3 = .ok (.ldc 23, 2) := by decide +kernel
theorem dX11_setPhase_5 : decode cX11_setPhase 5 = .ok (.invokestatic 44, 3) := by decide +kernel
theorem dX11_setPhase_8 : decode cX11_setPhase 8 = .ok (.ifCond .eq 7, 3) := by decide +kernel
theorem dX11_setPhase_11 : decode cX11_setPhase 11 = .ok (.iconst 0, 1) := by decide +kernel
theorem dX11_setPhase_12 : decode cX11_setPhase 12 = .ok (.goto 4, 3) := by decide +kernel
theorem dX11_setPhase_15 : decode cX11_setPhase 15 = .ok (.iconst 1, 1) := by decide +kernel
theorem dX11_setPhase_16 : decode cX11_setPhase 16 = .ok (.invokevirtual 48, 3) := by decide +kernel
theorem dX11_setPhase_19 : decode cX11_setPhase 19 = .ok (.ifCond .ne 5, 3) := by decide +kernel
theorem dX11_setPhase_22 : decode cX11_setPhase 22 = .ok (.iconst 0, 1) := by decide +kernel
theorem dX11_setPhase_23 : decode cX11_setPhase 23 = .ok (.ireturn, 1) := by decide +kernel
theorem dX11_setPhase_24 : decode cX11_setPhase 24 = .ok (.aload_n 0, 1) := by decide +kernel
theorem dX11_setPhase_25 : decode cX11_setPhase 25 = .ok (.getfield 58, 3) := by decide +kernel
theorem dX11_setPhase_28 : decode cX11_setPhase 28 = .ok (.istore_n 2, 1) := by decide +kernel
theorem dX11_setPhase_29 : decode cX11_setPhase 29 = .ok (.aload_n 0, 1) := by decide +kernel
theorem dX11_setPhase_30 : decode cX11_setPhase 30 = .ok (.iload_n 1, 1) := by decide +kernel
theorem dX11_setPhase_31 : decode cX11_setPhase 31 = .ok (.putfield 58, 3) := by decide +kernel
theorem dX11_setPhase_34 : decode cX11_setPhase 34 = .ok (.iload_n 2, 1) := by decide +kernel
theorem dX11_setPhase_35 : decode cX11_setPhase 35 = .ok (.ireturn, 1) := by decide +kernel
theorem dX11_release_0 : decode cX11_release 0 = .ok (.aload_n 0, 1) := by decide +kernel
theorem dX11_release_1 : decode cX11_release 1 = .ok (.iconst 0, 1) := by decide +kernel
theorem dX11_release_2 : decode cX11_release 2 = .ok (.putfield 41, 3) := by decide +kernel
theorem dX11_release_5 : decode cX11_release 5 = .ok (.aload_n 0, 1) := by decide +kernel
theorem dX11_release_6 : decode cX11_release 6 = .ok (.iconst 0, 1) := by decide +kernel
theorem dX11_release_7 : decode cX11_release 7 = .ok (.putfield 61, 3) := by decide +kernel
theorem dX11_release_10 : decode cX11_release 10 = .ok (.aload_n 0, 1) := by decide +kernel
theorem dX11_release_11 : decode cX11_release 11 = .ok (.iconst 0, 1) := by decide +kernel
theorem dX11_release_12 : decode cX11_release 12 = .ok (.putfield 64, 3) := by decide +kernel
theorem dX11_release_15 : decode cX11_release 15 = .ok (.return_, 1) := by decide +kernel
theorem dX11_kept_0 : decode cX11_kept 0 = .ok (.iload_n 0, 1) := by decide +kernel
theorem dX11_kept_1 : decode cX11_kept 1 = .ok (.iload_n 1, 1) := by decide +kernel
theorem dX11_kept_2 : decode cX11_kept 2 = .ok (.if_icmp .le 7, 3) := by decide +kernel
theorem dX11_kept_5 : decode cX11_kept 5 = .ok (.iload_n 1, 1) := by decide +kernel
theorem dX11_kept_6 : decode cX11_kept 6 = .ok (.goto 15, 3) := by decide +kernel
theorem dX11_kept_9 : decode cX11_kept 9 = .ok (.iload_n 0, 1) := by decide +kernel
theorem dX11_kept_10 : decode cX11_kept 10 = .ok (.iload_n 1, 1) := by decide +kernel
theorem dX11_kept_11 : decode cX11_kept 11 = .ok (.ineg, 1) := by decide +kernel
theorem dX11_kept_12 : decode cX11_kept 12 = .ok (.if_icmp .ge 8, 3) := by decide +kernel
theorem dX11_kept_15 : decode cX11_kept 15 = .ok (.iload_n 1, 1) := by decide +kernel
theorem dX11_kept_16 : decode cX11_kept 16 = .ok (.ineg, 1) := by decide +kernel
theorem dX11_kept_17 : decode cX11_kept 17 = .ok (.goto 4, 3) := by decide +kernel
theorem dX11_kept_20 : decode cX11_kept 20 = .ok (.iload_n 0, 1) := by decide +kernel
theorem dX11_kept_21 : decode cX11_kept 21 = .ok (.ireturn, 1) := by decide +kernel
set_option maxRecDepth 20000 in
theorem ggX11_measures_X11_kept : GoodIn wsX11_measures wsX11_kept := goodIn_r _ [10] (by decide +kernel) (by decide +kernel)
set_option maxRecDepth 20000 in
theorem gX11_measures_X11_kept : GoodIn wsX11_measures (va_wsS RX11 71 yX11_kept wsX11_kept) := goodIn_app (goodIn_of _ (by decide +kernel)) ggX11_measures_X11_kept
theorem dX11_measures_0 : decode cX11_measures 0 = .ok (.aload_n 0, 1) := by decide +kernel
theorem dX11_measures_1 : decode cX11_measures 1 = .ok (.iload_n 1, 1) := by decide +kernel
theorem dX11_measures_2 : decode cX11_measures 2 = .ok (.putfield 67, 3) := by decide +kernel
theorem dX11_measures_5 : decode cX11_measures 5 = .ok (.aload_n 0, 1) := by decide +kernel
theorem dX11_measures_6 : decode cX11_measures 6 = .ok (.aload_n 0, 1) := by decide +kernel
theorem dX11_measures_7 : decode cX11_measures 7 = .ok (.getfield 61, 3) := by decide +kernel
theorem dX11_measures_10 : decode cX11_measures 10 = .ok (.aload_n 0, 1) := by decide +kernel
theorem dX11_measures_11 : decode cX11_measures 11 = .ok (.getfield 34, 3) := by decide +kernel
theorem dX11_measures_14 : decode cX11_measures 14 = .ok (.iload_n 1, 1) := by decide +kernel
theorem dX11_measures_15 : decode cX11_measures 15 = .ok (.imul, 1) := by decide +kernel
theorem dX11_measures_16 : decode cX11_measures 16 = .ok (.iadd, 1) := by decide +kernel
theorem dX11_measures_17 : decode cX11_measures 17 = .ok (.ldc 70, 2) := by decide +kernel
theorem dX11_measures_19 : decode cX11_measures 19 = .ok (.invokestatic 71, 3) := by decide +kernel
theorem dX11_measures_22 : decode cX11_measures 22 = .ok (.putfield 61, 3) := by decide +kernel
theorem dX11_measures_25 : decode cX11_measures 25 = .ok (.aload_n 0, 1) := by decide +kernel
theorem dX11_measures_26 : decode cX11_measures 26 = .ok (.aload_n 0, 1) := by decide +kernel
theorem dX11_measures_27 : decode cX11_measures 27 = .ok (.getfield 31, 3) := by decide +kernel
theorem dX11_measures_30 : decode cX11_measures 30 = .ok (.iload_n 1, 1) := by decide +kernel
theorem dX11_measures_31 : decode cX11_measures 31 = .ok (.imul, 1) := by decide +kernel
theorem dX11_measures_32 : decode cX11_measures 32 = .ok (.aload_n 0, 1) := by decide +kernel
theorem dX11_measures_33 : decode cX11_measures 33 = .ok (.getfield 61, 3) := by decide +kernel
theorem dX11_measures_36 : decode cX11_measures 36 = .ok (.bipush 8, 2) := by decide +kernel
theorem dX11_measures_38 : decode cX11_measures 38 = .ok (.ishr, 1) := by decide +kernel
theorem dX11_measures_39 : decode cX11_measures 39 = .ok (.iadd, 1) := by decide +kernel
theorem dX11_measures_40 : decode cX11_measures 40 = .ok (.sipush 1024, 3) := by decide +kernel
theorem dX11_measures_43 : decode cX11_measures 43 = .ok (.invokestatic 71, 3) := by decide +kernel
theorem dX11_measures_46 : decode cX11_measures 46 = .ok (.putfield 64, 3) := by decide +kernel
theorem dX11_measures_49 : decode cX11_measures 49 = .ok (.return_, 1) := by decide +kernel
theorem dX11_sends_0 : decode cX11_sends 0 = .ok (.aload_n 0, 1) := by decide +kernel
theorem dX11_sends_1 : decode cX11_sends 1 = .ok (.dup, 1) := by decide +kernel
theorem dX11_sends_2 : decode cX11_sends 2 = .ok (.getfield 75, 3) := by decide +kernel
theorem dX11_sends_5 : decode cX11_sends 5 = .ok (.iconst 1, 1) := by decide +kernel
theorem dX11_sends_6 : decode cX11_sends 6 = .ok (.iadd, 1) := by decide +kernel
theorem dX11_sends_7 : decode cX11_sends 7 = .ok (.putfield 75, 3) := by decide +kernel
theorem dX11_sends_10 : decode cX11_sends 10 = .ok (.aload_n 0, 1) := by decide +kernel
theorem dX11_sends_11 : decode cX11_sends 11 = .ok (.getfield 75, 3) := by decide +kernel
theorem dX11_sends_14 : decode cX11_sends 14 = .ok (.bipush 24, 2) := by decide +kernel
theorem dX11_sends_16 : decode cX11_sends 16 = .ok (.irem, 1) := by decide +kernel
theorem dX11_sends_17 : decode cX11_sends 17 = .ok (.istore_n 1, 1) := by decide +kernel
theorem dX11_sends_18 : decode cX11_sends 18 = .ok (.iload_n 1, 1) := by decide +kernel
theorem dX11_sends_19 : decode cX11_sends 19 = .ok (.bipush 6, 2) := by decide +kernel
theorem dX11_sends_21 : decode cX11_sends 21 = .ok (.if_icmp .ge 18, 3) := by decide +kernel
theorem dX11_sends_24 : decode cX11_sends 24 = .ok (.aload_n 0, 1) := by decide +kernel
