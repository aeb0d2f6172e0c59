theorem dX11_sends_25 : decode cX11_sends 25 = .ok (.bipush 52, 2) := by decide +kernel
theorem dX11_sends_27 : decode cX11_sends 27 = .ok (.iconst 5, 1) := by decide +kernel
theorem dX11_sends_28 : decode cX11_sends 28 = .ok (.iload_n 1, 1) := by decide +kernel
theorem dX11_sends_29 : decode cX11_sends 29 = .ok (.isub, 1) := by decide +kernel
theorem dX11_sends_30 : decode cX11_sends 30 = .ok (.ishr, 1) := by decide +kernel
theorem dX11_sends_31 : decode cX11_sends 31 = .ok (.iconst 1, 1) := by decide +kernel
theorem dX11_sends_32 : decode cX11_sends 32 = .ok (.iand, 1) := by decide +kernel
theorem dX11_sends_33 : decode cX11_sends 33 = .ok (.putfield 20, 3) := by decide +kernel
theorem dX11_sends_36 : decode cX11_sends 36 = .ok (.goto 40, 3) := by decide +kernel
theorem dX11_sends_39 : decode cX11_sends 39 = .ok (.aload_n 0, 1) := by decide +kernel
theorem dX11_sends_40 : decode cX11_sends 40 = .ok (.aload_n 0, 1) := by decide +kernel
theorem dX11_sends_41 : decode cX11_sends 41 = .ok (.getfield 17, 3) := by decide +kernel
theorem dX11_sends_44 : decode cX11_sends 44 = .ok (.iconst 1, 1) := by decide +kernel
theorem dX11_sends_45 : decode cX11_sends 45 = .ok (.iand, 1) := by decide +kernel
theorem dX11_sends_46 : decode cX11_sends 46 = .ok (.putfield 20, 3) := by decide +kernel
theorem dX11_sends_49 : decode cX11_sends 49 = .ok (.aload_n 0, 1) := by decide +kernel
theorem dX11_sends_50 : decode cX11_sends 50 = .ok (.aload_n 0, 1) := by decide +kernel
theorem dX11_sends_51 : decode cX11_sends 51 = .ok (.getfield 17, 3) := by decide +kernel
theorem dX11_sends_54 : decode cX11_sends 54 = .ok (.iconst 1, 1) := by decide +kernel
theorem dX11_sends_55 : decode cX11_sends 55 = .ok (.ishr, 1) := by decide +kernel
theorem dX11_sends_56 : decode cX11_sends 56 = .ok (.aload_n 0, 1) := by decide +kernel
theorem dX11_sends_57 : decode cX11_sends 57 = .ok (.getfield 17, 3) := by decide +kernel
theorem dX11_sends_60 : decode cX11_sends 60 = .ok (.aload_n 0, 1) := by decide +kernel
theorem dX11_sends_61 : decode cX11_sends 61 = .ok (.getfield 17, 3) := by decide +kernel
theorem dX11_sends_64 : decode cX11_sends 64 = .ok (.iconst 1, 1) := by decide +kernel
theorem dX11_sends_65 : decode cX11_sends 65 = .ok (.ishr, 1) := by decide +kernel
theorem dX11_sends_66 : decode cX11_sends 66 = .ok (.ixor, 1) := by decide +kernel
theorem dX11_sends_67 : decode cX11_sends 67 = .ok (.iconst 1, 1) := by decide +kernel
theorem dX11_sends_68 : decode cX11_sends 68 = .ok (.iand, 1) := by decide +kernel
theorem dX11_sends_69 : decode cX11_sends 69 = .ok (.bipush 6, 2) := by decide +kernel
theorem dX11_sends_71 : decode cX11_sends 71 = .ok (.ishl, 1) := by decide +kernel
theorem dX11_sends_72 : decode cX11_sends 72 = .ok (.ior, 1) := by decide +kernel
theorem dX11_sends_73 : decode cX11_sends 73 = .ok (.putfield 17, 3) := by decide +kernel
theorem dX11_sends_76 : decode cX11_sends 76 = .ok (.return_, 1) := by decide +kernel
set_option maxRecDepth 20000 in
theorem ggX11_transmits_X11_sends : GoodIn wsX11_transmits wsX11_sends := goodIn_r _ [19, 20, 13, 21, 22, 23, 24, 25, 26, 27, 28, 29, 30, 31, 32, 33, 34, 35, 36, 37, 38, 39, 40, 41, 42, 43, 44, 45, 46, 47, 48, 49, 50, 51, 52, 53, 54, 55, 56, 57, 58] (by decide +kernel) (by decide +kernel)
set_option maxRecDepth 20000 in
theorem gX11_transmits_X11_sends : GoodIn wsX11_transmits (wsV RX11 90 RX11 yX11_sends wsX11_sends) := goodIn_app (goodIn_of _ (by decide +kernel)) ggX11_transmits_X11_sends
theorem dX11_transmits_0 : decode cX11_transmits 0 = .ok (.iconst 0, 1) := by decide +kernel
theorem dX11_transmits_1 : decode cX11_transmits 1 = .ok (.istore_n 1, 1) := by decide +kernel
theorem dX11_transmits_2 : decode cX11_transmits 2 = .ok (.aload_n 0, 1) := by decide +kernel
theorem dX11_transmits_3 : decode cX11_transmits 3 = .ok (.getfield 52, 3) := by decide +kernel
theorem dX11_transmits_6 : decode cX11_transmits 6 = .ok (.ifCond .eq 48, 3) := by decide +kernel
theorem dX11_transmits_9 : decode cX11_transmits 9 = .ok (.aload_n 0, 1) := by decide +kernel
theorem dX11_transmits_10 : decode cX11_transmits 10 = .ok (.ldc2_w 78, 3) := by decide +kernel
theorem dX11_transmits_13 : decode cX11_transmits 13 = .ok (.aload_n 0, 1) := by decide +kernel
theorem dX11_transmits_14 : decode cX11_transmits 14 = .ok (.getfield 13, 3) := by decide +kernel
theorem dX11_transmits_17 : decode cX11_transmits 17 = .ok (.lmul, 1) := by decide +kernel
theorem dX11_transmits_18 : decode cX11_transmits 18 = .ok (.ldc2_w 80, 3) := by decide +kernel
theorem dX11_transmits_21 : decode cX11_transmits 21 = .ok (.ladd, 1) := by decide +kernel
theorem dX11_transmits_22 : decode cX11_transmits 22 = .ok (.ldc2_w 82, 3) := by decide +kernel
theorem dX11_transmits_25 : decode cX11_transmits 25 = .ok (.lrem, 1) := by decide +kernel
theorem dX11_transmits_26 : decode cX11_transmits 26 = .ok (.putfield 13, 3) := by decide +kernel
theorem dX11_transmits_29 : decode cX11_transmits 29 = .ok (.aload_n 0, 1) := by decide +kernel
theorem dX11_transmits_30 : decode cX11_transmits 30 = .ok (.getfield 13, 3) := by decide +kernel
theorem dX11_transmits_33 : decode cX11_transmits 33 = .ok (.ldc2_w 84, 3) := by decide +kernel
theorem dX11_transmits_36 : decode cX11_transmits 36 = .ok (.ldiv, 1) := by decide +kernel
theorem dX11_transmits_37 : decode cX11_transmits 37 = .ok (.iconst 2, 1) := by decide +kernel
theorem dX11_transmits_38 : decode cX11_transmits 38 = .ok (.aload_n 0, 1) := by decide +kernel
theorem dX11_transmits_39 : decode cX11_transmits 39 = .ok (.getfield 52, 3) := by decide +kernel
theorem dX11_transmits_42 : decode cX11_transmits 42 = .ok (.imul, 1) := by decide +kernel
theorem dX11_transmits_43 : decode cX11_transmits 43 = .ok (.iconst 1, 1) := by decide +kernel
theorem dX11_transmits_44 : decode cX11_transmits 44 = .ok (.iadd, 1) := by decide +kernel
theorem dX11_transmits_45 : decode cX11_transmits 45 = .ok (.i2l, 1) := by decide +kernel
theorem dX11_transmits_46 : decode cX11_transmits 46 = .ok (.lrem, 1) := by decide +kernel
theorem dX11_transmits_47 : decode cX11_transmits 47 = .ok (.l2i, 1) := by decide +kernel
theorem dX11_transmits_48 : decode cX11_transmits 48 = .ok (.aload_n 0, 1) := by decide +kernel
theorem dX11_transmits_49 : decode cX11_transmits 49 = .ok (.getfield 52, 3) := by decide +kernel
theorem dX11_transmits_52 : decode cX11_transmits 52 = .ok (.isub, 1) := by decide +kernel
theorem dX11_transmits_53 : decode cX11_transmits 53 = .ok (.istore_n 1, 1) := by decide +kernel
theorem dX11_transmits_54 : decode cX11_transmits 54 = .ok (.aload_n 0, 1) := by decide +kernel
theorem dX11_transmits_55 : decode cX11_transmits 55 = .ok (.dup, 1) := by decide +kernel
theorem dX11_transmits_56 : decode cX11_transmits 56 = .ok (.getfield 86, 3) := by decide +kernel
theorem dX11_transmits_59 : decode cX11_transmits 59 = .ok (.aload_n 0, 1) := by decide +kernel
theorem dX11_transmits_60 : decode cX11_transmits 60 = .ok (.getfield 9, 3) := by decide +kernel
theorem dX11_transmits_63 : decode cX11_transmits 63 = .ok (.iload_n 1, 1) := by decide +kernel
theorem dX11_transmits_64 : decode cX11_transmits 64 = .ok (.iadd, 1) := by decide +kernel
theorem dX11_transmits_65 : decode cX11_transmits 65 = .ok (.iadd, 1) := by decide +kernel
theorem dX11_transmits_66 : decode cX11_transmits 66 = .ok (.putfield 86, 3) := by decide +kernel
theorem dX11_transmits_69 : decode cX11_transmits 69 = .ok (.aload_n 0, 1) := by decide +kernel
theorem dX11_transmits_70 : decode cX11_transmits 70 = .ok (.getfield 86, 3) := by decide +kernel
theorem dX11_transmits_73 : decode cX11_transmits 73 = .ok (.ldc 89, 2) := by decide +kernel
theorem dX11_transmits_75 : decode cX11_transmits 75 = .ok (.if_icmp .lt 18, 3) := by decide +kernel
theorem dX11_transmits_78 : decode cX11_transmits 78 = .ok (.aload_n 0, 1) := by decide +kernel
theorem dX11_transmits_79 : decode cX11_transmits 79 = .ok (.dup, 1) := by decide +kernel
theorem dX11_transmits_80 : decode cX11_transmits 80 = .ok (.getfield 86, 3) := by decide +kernel
theorem dX11_transmits_83 : decode cX11_transmits 83 = .ok (.ldc 89, 2) := by decide +kernel
theorem dX11_transmits_85 : decode cX11_transmits 85 = .ok (.isub, 1) := by decide +kernel
theorem dX11_transmits_86 : decode cX11_transmits 86 = .ok (.putfield 86, 3) := by decide +kernel
theorem dX11_transmits_89 : decode cX11_transmits 89 = .ok (.aload_n 0, 1) := by decide +kernel
theorem dX11_transmits_90 : decode cX11_transmits 90 = .ok (.invokevirtual 90, 3) := by decide +kernel
theorem dX11_transmits_93 : decode cX11_transmits 93 = .ok (.aload_n 0, 1) := by decide +kernel
theorem dX11_transmits_94 : decode cX11_transmits 94 = .ok (.dup, 1) := by decide +kernel
theorem dX11_transmits_95 : decode cX11_transmits 95 = .ok (.getfield 93, 3) := by decide +kernel
theorem dX11_transmits_98 : decode cX11_transmits 98 = .ok (.iconst 1, 1) := by decide +kernel
theorem dX11_transmits_99 : decode cX11_transmits 99 = .ok (.iadd, 1) := by decide +kernel
theorem dX11_transmits_100 : decode cX11_transmits 100 = .ok (.putfield 93, 3) := by decide +kernel
theorem dX11_transmits_103 : decode cX11_transmits 103 = .ok (.aload_n 0, 1) := by decide +kernel
theorem dX11_transmits_104 : decode cX11_transmits 104 = .ok (.aload_n 0, 1) := by decide +kernel
theorem dX11_transmits_105 : decode cX11_transmits 105 = .ok (.getfield 24, 3) := by decide +kernel
theorem dX11_transmits_108 : decode cX11_transmits 108 = .ok (.iconst 1, 1) := by decide +kernel
theorem dX11_transmits_109 : decode cX11_transmits 109 = .ok (.ishl, 1) := by decide +kernel
theorem dX11_transmits_110 : decode cX11_transmits 110 = .ok (.ldc 23, 2) := by decide +kernel
theorem dX11_transmits_112 : decode cX11_transmits 112 = .ok (.iand, 1) := by decide +kernel
theorem dX11_transmits_113 : decode cX11_transmits 113 = .ok (.aload_n 0, 1) := by decide +kernel
theorem dX11_transmits_114 : decode cX11_transmits 114 = .ok (.getfield 20, 3) := by decide +kernel
theorem dX11_transmits_117 : decode cX11_transmits 117 = .ok (.ior, 1) := by decide +kernel
theorem dX11_transmits_118 : decode cX11_transmits 118 = .ok (.putfield 24, 3) := by decide +kernel
theorem dX11_transmits_121 : decode cX11_transmits 121 = .ok (.aload_n 0, 1) := by decide +kernel
theorem dX11_transmits_122 : decode cX11_transmits 122 = .ok (.getfield 27, 3) := by decide +kernel
theorem dX11_transmits_125 : decode cX11_transmits 125 = .ok (.aload_n 0, 1) := by decide +kernel
theorem dX11_transmits_126 : decode cX11_transmits 126 = .ok (.getfield 93, 3) := by decide +kernel
theorem dX11_transmits_129 : decode cX11_transmits 129 = .ok (.sipush 256, 3) := by decide +kernel
theorem dX11_transmits_132 : decode cX11_transmits 132 = .ok (.irem, 1) := by decide +kernel
theorem dX11_transmits_133 : decode cX11_transmits 133 = .ok (.aload_n 0, 1) := by decide +kernel
theorem dX11_transmits_134 : decode cX11_transmits 134 = .ok (.getfield 24, 3) := by decide +kernel
theorem dX11_transmits_137 : decode cX11_transmits 137 = .ok (.iconst 1, 1) := by decide +kernel
theorem dX11_transmits_138 : decode cX11_transmits 138 = .ok (.iand, 1) := by decide +kernel
theorem dX11_transmits_139 : decode cX11_transmits 139 = .ok (.aload_n 0, 1) := by decide +kernel
theorem dX11_transmits_140 : decode cX11_transmits 140 = .ok (.getfield 24, 3) := by decide +kernel
theorem dX11_transmits_143 : decode cX11_transmits 143 = .ok (.iconst 1, 1) := by decide +kernel
theorem dX11_transmits_144 : decode cX11_transmits 144 = .ok (.ishr, 1) := by decide +kernel
theorem dX11_transmits_145 : decode cX11_transmits 145 = .ok (.iconst 1, 1) := by decide +kernel
theorem dX11_transmits_146 : decode cX11_transmits 146 = .ok (.iand, 1) := by decide +kernel
theorem dX11_transmits_147 : decode cX11_transmits 147 = .ok (.if_icmp .eq 7, 3) := by decide +kernel
theorem dX11_transmits_150 : decode cX11_transmits 150 = .ok (.iconst 1, 1) := by decide +kernel
theorem dX11_transmits_151 : decode cX11_transmits 151 = .ok (.goto 4, 3) := by decide +kernel
theorem dX11_transmits_154 : decode cX11_transmits 154 = .ok (.iconst 0, 1) := by decide +kernel
theorem dX11_transmits_155 : decode cX11_transmits 155 = .ok (.bastore, 1) := by decide +kernel
theorem dX11_transmits_156 : decode cX11_transmits 156 = .ok (.return_, 1) := by decide +kernel
theorem dX11_levelNow_0 : decode cX11_levelNow 0 = .ok (.iconst 0, 1) := by decide +kernel
theorem dX11_levelNow_1 : decode cX11_levelNow 1 = .ok (.istore_n 1, 1) := by decide +kernel
theorem dX11_levelNow_2 : decode cX11_levelNow 2 = .ok (.iconst 0, 1) := by decide +kernel
theorem dX11_levelNow_3 : decode cX11_levelNow 3 = .ok (.istore_n 2, 1) := by decide +kernel
theorem dX11_levelNow_4 : decode cX11_levelNow 4 = .ok (.iload_n 2, 1) := by decide +kernel
theorem dX11_levelNow_5 : decode cX11_levelNow 5 = .ok (.bipush 8, 2) := by decide +kernel
theorem dX11_levelNow_7 : decode cX11_levelNow 7 = .ok (.if_icmp .ge 20, 3) := by decide +kernel
theorem dX11_levelNow_10 : decode cX11_levelNow 10 = .ok (.iload_n 1, 1) := by decide +kernel
theorem dX11_levelNow_11 : decode cX11_levelNow 11 = .ok (.aload_n 0, 1) := by decide +kernel
theorem dX11_levelNow_12 : decode cX11_levelNow 12 = .ok (.getfield 24, 3) := by decide +kernel
theorem dX11_levelNow_15 : decode cX11_levelNow 15 = .ok (.iload_n 2, 1) := by decide +kernel
theorem dX11_levelNow_16 : decode cX11_levelNow 16 = .ok (.ishr, 1) := by decide +kernel
theorem dX11_levelNow_17 : decode cX11_levelNow 17 = .ok (.iconst 1, 1) := by decide +kernel
theorem dX11_levelNow_18 : decode cX11_levelNow 18 = .ok (.iand, 1) := by decide +kernel
theorem dX11_levelNow_19 : decode cX11_levelNow 19 = .ok (.iadd, 1) := by decide +kernel
theorem dX11_levelNow_20 : decode cX11_levelNow 20 = .ok (.istore_n 1, 1) := by decide +kernel
theorem dX11_levelNow_21 : decode cX11_levelNow 21 = .ok (.iinc 2 1, 3) := by decide +kernel
theorem dX11_levelNow_24 : decode cX11_levelNow 24 = .ok (.goto (-20), 3) := by decide +kernel
theorem dX11_levelNow_27 : decode cX11_levelNow 27 = .ok (.iconst 2, 1) := by decide +kernel
theorem dX11_levelNow_28 : decode cX11_levelNow 28 = .ok (.iload_n 1, 1) := by decide +kernel
theorem dX11_levelNow_29 : decode cX11_levelNow 29 = .ok (.imul, 1) := by decide +kernel
theorem dX11_levelNow_30 : decode cX11_levelNow 30 = .ok (.bipush 8, 2) := by decide +kernel
theorem dX11_levelNow_32 : decode cX11_levelNow 32 = .ok (.isub, 1) := by decide +kernel
theorem dX11_levelNow_33 : decode cX11_levelNow 33 = .ok (.ireturn, 1) := by decide +kernel
theorem dX11_size_0 : decode cX11_size 0 = .ok (.iload_n 0, 1) := by decide +kernel
theorem dX11_size_1 : decode cX11_size 1 = .ok (.ifCond .ge 8, 3) := by decide +kernel
theorem dX11_size_4 : decode cX11_size 4 = .ok (.iload_n 0, 1) := by decide +kernel
theorem dX11_size_5 : decode cX11_size 5 = .ok (.ineg, 1) := by decide +kernel
theorem dX11_size_6 : decode cX11_size 6 = .ok (.goto 4, 3) := by decide +kernel
theorem dX11_size_9 : decode cX11_size 9 = .ok (.iload_n 0, 1) := by decide +kernel
theorem dX11_size_10 : decode cX11_size 10 = .ok (.ireturn, 1) := by decide +kernel
set_option maxRecDepth 20000 in
theorem ggX11_measured_X11_levelNow : GoodIn wsX11_measured wsX11_levelNow := goodIn_r _ [13, 14, 15, 16, 17, 18, 19, 20, 21, 22, 23, 24, 25, 26, 27, 28, 29, 30, 31, 32, 33, 34, 35, 36, 37, 38, 39, 40, 41, 42, 43, 44, 45, 46, 47, 48, 49, 50, 51] (by decide +kernel) (by decide +kernel)
set_option maxRecDepth 20000 in
theorem gX11_measured_X11_levelNow : GoodIn wsX11_measured (wsV RX11 114 RX11 yX11_levelNow wsX11_levelNow) := goodIn_app (goodIn_of _ (by decide +kernel)) ggX11_measured_X11_levelNow
theorem dX11_measured_0 : decode cX11_measured 0 = .ok (.aload_n 0, 1) := by decide +kernel
theorem dX11_measured_1 : decode cX11_measured 1 = .ok (.getfield 96, 3) := by decide +kernel
theorem dX11_measured_4 : decode cX11_measured 4 = .ok (.iconst 1, 1) := by decide +kernel
theorem dX11_measured_5 : decode cX11_measured 5 = .ok (.ishr, 1) := by decide +kernel
theorem dX11_measured_6 : decode cX11_measured 6 = .ok (.iconst 1, 1) := by decide +kernel
theorem dX11_measured_7 : decode cX11_measured 7 = .ok (.iand, 1) := by decide +kernel
theorem dX11_measured_8 : decode cX11_measured 8 = .ok (.istore_n 1, 1) := by decide +kernel
theorem dX11_measured_9 : decode cX11_measured 9 = .ok (.aload_n 0, 1) := by decide +kernel
theorem dX11_measured_10 : decode cX11_measured 10 = .ok (.getfield 55, 3) := by decide +kernel
theorem dX11_measured_13 : decode cX11_measured 13 = .ok (.ifCond .ne 39, 3) := by decide +kernel
theorem dX11_measured_16 : decode cX11_measured 16 = .ok (.aload_n 0, 1) := by decide +kernel
theorem dX11_measured_17 : decode cX11_measured 17 = .ok (.getfield 99, 3) := by decide +kernel
theorem dX11_measured_20 : decode cX11_measured 20 = .ok (.iconst 1, 1) := by decide +kernel
theorem dX11_measured_21 : decode cX11_measured 21 = .ok (.if_icmp .eq 13, 3) := by decide +kernel
theorem dX11_measured_24 : decode cX11_measured 24 = .ok (.aload_n 0, 1) := by decide +kernel
theorem dX11_measured_25 : decode cX11_measured 25 = .ok (.getfield 96, 3) := by decide +kernel
theorem dX11_measured_28 : decode cX11_measured 28 = .ok (.iconst 1, 1) := by decide +kernel
theorem dX11_measured_29 : decode cX11_measured 29 = .ok (.iand, 1) := by decide +kernel
theorem dX11_measured_30 : decode cX11_measured 30 = .ok (.iload_n 1, 1) := by decide +kernel
theorem dX11_measured_31 : decode cX11_measured 31 = .ok (.if_icmp .ne 7, 3) := by decide +kernel
theorem dX11_measured_34 : decode cX11_measured 34 = .ok (.iconst 0, 1) := by decide +kernel
theorem dX11_measured_35 : decode cX11_measured 35 = .ok (.goto 16, 3) := by decide +kernel
theorem dX11_measured_38 : decode cX11_measured 38 = .ok (.aload_n 0, 1) := by decide +kernel
theorem dX11_measured_39 : decode cX11_measured 39 = .ok (.getfield 102, 3) := by decide +kernel
theorem dX11_measured_42 : decode cX11_measured 42 = .ok (.iload_n 1, 1) := by decide +kernel
theorem dX11_measured_43 : decode cX11_measured 43 = .ok (.if_icmp .ne 7, 3) := by decide +kernel
theorem dX11_measured_46 : decode cX11_measured 46 = .ok (.iconst (-1), 1) := by decide +kernel
theorem dX11_measured_47 : decode cX11_measured 47 = .ok (.goto 4, 3) := by decide +kernel
theorem dX11_measured_50 : decode cX11_measured 50 = .ok (.iconst 1, 1) := by decide +kernel
theorem dX11_measured_51 : decode cX11_measured 51 = .ok (.ireturn, 1) := by decide +kernel
theorem dX11_measured_52 : decode cX11_measured 52 = .ok (.aload_n 0, 1) := by decide +kernel
theorem dX11_measured_53 : decode cX11_measured 53 = .ok (.getfield 55, 3) := by decide +kernel
theorem dX11_measured_56 : decode cX11_measured 56 = .ok (.iconst 1, 1) := by decide +kernel
theorem dX11_measured_57 : decode cX11_measured 57 = .ok (.if_icmp .ne 10, 3) := by decide +kernel
theorem dX11_measured_60 : decode cX11_measured 60 = .ok (.aload_n 0, 1) := by decide +kernel
theorem dX11_measured_61 : decode cX11_measured 61 = .ok (.getfield 105, 3) := by decide +kernel
theorem dX11_measured_64 : decode cX11_measured 64 = .ok (.goto 32, 3) := by decide +kernel
theorem dX11_measured_67 : decode cX11_measured 67 = .ok (.aload_n 0, 1) := by decide +kernel
theorem dX11_measured_68 : decode cX11_measured 68 = .ok (.getfield 55, 3) := by decide +kernel
theorem dX11_measured_71 : decode cX11_measured 71 = .ok (.iconst 2, 1) := by decide +kernel
theorem dX11_measured_72 : decode cX11_measured 72 = .ok (.if_icmp .ne 10, 3) := by decide +kernel
theorem dX11_measured_75 : decode cX11_measured 75 = .ok (.aload_n 0, 1) := by decide +kernel
theorem dX11_measured_76 : decode cX11_measured 76 = .ok (.getfield 108, 3) := by decide +kernel
theorem dX11_measured_79 : decode cX11_measured 79 = .ok (.goto 17, 3) := by decide +kernel
theorem dX11_measured_82 : decode cX11_measured 82 = .ok (.aload_n 0, 1) := by decide +kernel
theorem dX11_measured_83 : decode cX11_measured 83 = .ok (.getfield 111, 3) := by decide +kernel
theorem dX11_measured_86 : decode cX11_measured 86 = .ok (.aload_n 0, 1) := by decide +kernel
theorem dX11_measured_87 : decode cX11_measured 87 = .ok (.invokevirtual 114, 3) := by decide +kernel
theorem dX11_measured_90 : decode cX11_measured 90 = .ok (.aload_n 0, 1) := by decide +kernel
theorem dX11_measured_91 : decode cX11_measured 91 = .ok (.getfield 118, 3) := by decide +kernel
theorem dX11_measured_94 : decode cX11_measured 94 = .ok (.isub, 1) := by decide +kernel
theorem dX11_measured_95 : decode cX11_measured 95 = .ok (.imul, 1) := by decide +kernel
theorem dX11_measured_96 : decode cX11_measured 96 = .ok (.ireturn, 1) := by decide +kernel
set_option maxRecDepth 20000 in
theorem ggX11_receives_X11_measured : GoodIn wsX11_receives wsX11_measured := goodIn_r _ [20, 10, 12, 3, 21, 13, 14, 22, 15, 23, 24, 25, 19, 26, 27, 51, 52, 53, 54, 55, 56, 57, 58, 59, 60, 61, 62, 63, 64, 65, 66, 67, 68, 69, 70, 71, 72, 73, 74, 75, 76, 77, 78, 79, 80, 81, 82, 83, 84, 85, 86, 87] (by decide +kernel) (by decide +kernel)
set_option maxRecDepth 20000 in
theorem gX11_receives_X11_measured : GoodIn wsX11_receives (wsV RX11 134 RX11 yX11_measured wsX11_measured) := goodIn_app (goodIn_of _ (by decide +kernel)) ggX11_receives_X11_measured
set_option maxRecDepth 20000 in
theorem ggX11_receives_X11_measures : GoodIn wsX11_receives wsX11_measures := goodIn_r _ [31, 32, 33, 34, 35, 36, 37, 38, 39, 19, 40, 51, 52, 53, 54, 55, 56, 57, 58, 59, 60, 61, 62, 63, 64, 65, 66, 67, 68, 69, 70, 71, 72, 73, 74, 75, 76, 77, 78, 79, 80, 81, 82, 83, 84, 85, 86, 87] (by decide +kernel) (by decide +kernel)
set_option maxRecDepth 20000 in
theorem gX11_receives_X11_measures : GoodIn wsX11_receives (wsV RX11 137 RX11 yX11_measures wsX11_measures) := goodIn_app (goodIn_of _ (by decide +kernel)) ggX11_receives_X11_measures
set_option maxRecDepth 20000 in
theorem ggX11_receives_X11_levelNow : GoodIn wsX11_receives wsX11_levelNow := goodIn_r _ [26, 27, 51, 52, 53, 54, 55, 56, 57, 58, 59, 60, 61, 62, 63, 64, 65, 66, 67, 68, 69, 70, 71, 72, 73, 74, 75, 76, 77, 78, 79, 80, 81, 82, 83, 84, 85, 86, 87] (by decide +kernel) (by decide +kernel)
set_option maxRecDepth 20000 in
theorem gX11_receives_X11_levelNow : GoodIn wsX11_receives (wsV RX11 114 RX11 yX11_levelNow wsX11_levelNow) := goodIn_app (goodIn_of _ (by decide +kernel)) ggX11_receives_X11_levelNow
set_option maxRecDepth 20000 in
theorem ggX11_receives_X11_aligns : GoodIn wsX11_receives wsX11_aligns := goodIn_r _ [44, 3, 10, 45, 46, 47, 48, 49, 50, 51, 52, 53, 54, 55, 56, 57, 58, 59, 60, 61, 62, 63, 64, 65, 66, 67, 68, 69, 70, 71, 72, 73, 74, 75, 76, 77, 78, 79, 80, 81, 82, 83, 84, 85, 86, 87] (by decide +kernel) (by decide +kernel)
set_option maxRecDepth 20000 in
theorem gX11_receives_X11_aligns : GoodIn wsX11_receives (wsV RX11 141 RX11 yX11_aligns wsX11_aligns) := goodIn_app (goodIn_of _ (by decide +kernel)) ggX11_receives_X11_aligns
theorem dX11_receives_0 : decode cX11_receives 0 = .ok (.aload_n 0, 1) := by decide +kernel
theorem dX11_receives_1 : decode cX11_receives 1 = .ok (.getfield 75, 3) := by decide +kernel
theorem dX11_receives_4 : decode cX11_receives 4 = .ok (.aload_n 0, 1) := by decide +kernel
theorem dX11_receives_5 : decode cX11_receives 5 = .ok (.getfield 121, 3) := by decide +kernel
theorem dX11_receives_8 : decode cX11_receives 8 = .ok (.isub, 1) := by decide +kernel
theorem dX11_receives_9 : decode cX11_receives 9 = .ok (.istore_n 1, 1) := by decide +kernel
theorem dX11_receives_10 : decode cX11_receives 10 = .ok (.aload_n 0, 1) := by decide +kernel
theorem dX11_receives_11 : decode cX11_receives 11 = .ok (.getfield 99, 3) := by decide +kernel
theorem dX11_receives_14 : decode cX11_receives 14 = .ok (.ifCond .le 12, 3) := by decide +kernel
theorem dX11_receives_17 : decode cX11_receives 17 = .ok (.iload_n 1, 1) := by decide +kernel
theorem dX11_receives_18 : decode cX11_receives 18 = .ok (.iconst 1, 1) := by decide +kernel
theorem dX11_receives_19 : decode cX11_receives 19 = .ok (.if_icmp .eq 7, 3) := by decide +kernel
theorem dX11_receives_22 : decode cX11_receives 22 = .ok (.iconst 1, 1) := by decide +kernel
theorem dX11_receives_23 : decode cX11_receives 23 = .ok (.goto 4, 3) := by decide +kernel
theorem dX11_receives_26 : decode cX11_receives 26 = .ok (.iconst 0, 1) := by decide +kernel
theorem dX11_receives_27 : decode cX11_receives 27 = .ok (.istore_n 2, 1) := by decide +kernel
theorem dX11_receives_28 : decode cX11_receives 28 = .ok (.aload_n 0, 1) := by decide +kernel
theorem dX11_receives_29 : decode cX11_receives 29 = .ok (.dup, 1) := by decide +kernel
theorem dX11_receives_30 : decode cX11_receives 30 = .ok (.getfield 124, 3) := by decide +kernel
theorem dX11_receives_33 : decode cX11_receives 33 = .ok (.iload_n 2, 1) := by decide +kernel
theorem dX11_receives_34 : decode cX11_receives 34 = .ok (.ifCond .eq 11, 3) := by decide +kernel
theorem dX11_receives_37 : decode cX11_receives 37 = .ok (.iload_n 1, 1) := by decide +kernel
theorem dX11_receives_38 : decode cX11_receives 38 = .ok (.ifCond .ne 7, 3) := by decide +kernel
theorem dX11_receives_41 : decode cX11_receives 41 = .ok (.iconst 1, 1) := by decide +kernel
theorem dX11_receives_42 : decode cX11_receives 42 = .ok (.goto 4, 3) := by decide +kernel
theorem dX11_receives_45 : decode cX11_receives 45 = .ok (.iconst 0, 1) := by decide +kernel
theorem dX11_receives_46 : decode cX11_receives 46 = .ok (.iadd, 1) := by decide +kernel
theorem dX11_receives_47 : decode cX11_receives 47 = .ok (.putfield 124, 3) := by decide +kernel
theorem dX11_receives_50 : decode cX11_receives 50 = .ok (.aload_n 0, 1) := by decide +kernel
theorem dX11_receives_51 : decode cX11_receives 51 = .ok (.dup, 1) := by decide +kernel
theorem dX11_receives_52 : decode cX11_receives 52 = .ok (.getfield 127, 3) := by decide +kernel
theorem dX11_receives_55 : decode cX11_receives 55 = .ok (.iload_n 2, 1) := by decide +kernel
theorem dX11_receives_56 : decode cX11_receives 56 = .ok (.ifCond .eq 14, 3) := by decide +kernel
theorem dX11_receives_59 : decode cX11_receives 59 = .ok (.iload_n 1, 1) := by decide +kernel
theorem dX11_receives_60 : decode cX11_receives 60 = .ok (.iconst 1, 1) := by decide +kernel
theorem dX11_receives_61 : decode cX11_receives 61 = .ok (.if_icmp .le 9, 3) := by decide +kernel
theorem dX11_receives_64 : decode cX11_receives 64 = .ok (.iload_n 1, 1) := by decide +kernel
theorem dX11_receives_65 : decode cX11_receives 65 = .ok (.iconst 1, 1) := by decide +kernel
theorem dX11_receives_66 : decode cX11_receives 66 = .ok (.isub, 1) := by decide +kernel
theorem dX11_receives_67 : decode cX11_receives 67 = .ok (.goto 4, 3) := by decide +kernel
theorem dX11_receives_70 : decode cX11_receives 70 = .ok (.iconst 0, 1) := by decide +kernel
theorem dX11_receives_71 : decode cX11_receives 71 = .ok (.iadd, 1) := by decide +kernel
theorem dX11_receives_72 : decode cX11_receives 72 = .ok (.putfield 127, 3) := by decide +kernel
theorem dX11_receives_75 : decode cX11_receives 75 = .ok (.aload_n 0, 1) := by decide +kernel
theorem dX11_receives_76 : decode cX11_receives 76 = .ok (.aload_n 0, 1) := by decide +kernel
theorem dX11_receives_77 : decode cX11_receives 77 = .ok (.getfield 130, 3) := by decide +kernel
theorem dX11_receives_80 : decode cX11_receives 80 = .ok (.iconst 1, 1) := by decide +kernel
theorem dX11_receives_81 : decode cX11_receives 81 = .ok (.ishl, 1) := by decide +kernel
theorem dX11_receives_82 : decode cX11_receives 82 = .ok (.iload_n 2, 1) := by decide +kernel
theorem dX11_receives_83 : decode cX11_receives 83 = .ok (.ifCond .eq 7, 3) := by decide +kernel
theorem dX11_receives_86 : decode cX11_receives 86 = .ok (.iconst 1, 1) := by decide +kernel
theorem dX11_receives_87 : decode cX11_receives 87 = .ok (.goto 4, 3) := by decide +kernel
theorem dX11_receives_90 : decode cX11_receives 90 = .ok (.iconst 0, 1) := by decide +kernel
theorem dX11_receives_91 : decode cX11_receives 91 = .ok (.ior, 1) := by decide +kernel
theorem dX11_receives_92 : decode cX11_receives 92 = .ok (.putfield 130, 3) := by decide +kernel
theorem dX11_receives_95 : decode cX11_receives 95 = .ok (.aload_n 0, 1) := by decide +kernel
theorem dX11_receives_96 : decode cX11_receives 96 = .ok (.getfield 37, 3) := by decide +kernel
theorem dX11_receives_99 : decode cX11_receives 99 = .ok (.aload_n 0, 1) := by decide +kernel
theorem dX11_receives_100 : decode cX11_receives 100 = .ok (.getfield 99, 3) := by decide +kernel
theorem dX11_receives_103 : decode cX11_receives 103 = .ok (.bipush 32, 2) := by decide +kernel
theorem dX11_receives_105 : decode cX11_receives 105 = .ok (.irem, 1) := by decide +kernel
theorem dX11_receives_106 : decode cX11_receives 106 = .ok (.aload_n 0, 1) := by decide +kernel
theorem dX11_receives_107 : decode cX11_receives 107 = .ok (.getfield 86, 3) := by decide +kernel
theorem dX11_receives_110 : decode cX11_receives 110 = .ok (.ldc 133, 2) := by decide +kernel
theorem dX11_receives_112 : decode cX11_receives 112 = .ok (.isub, 1) := by decide +kernel
theorem dX11_receives_113 : decode cX11_receives 113 = .ok (.iastore, 1) := by decide +kernel
theorem dX11_receives_114 : decode cX11_receives 114 = .ok (.aload_n 0, 1) := by decide +kernel
theorem dX11_receives_115 : decode cX11_receives 115 = .ok (.aload_n 0, 1) := by decide +kernel
theorem dX11_receives_116 : decode cX11_receives 116 = .ok (.getfield 75, 3) := by decide +kernel
theorem dX11_receives_119 : decode cX11_receives 119 = .ok (.putfield 121, 3) := by decide +kernel
theorem dX11_receives_122 : decode cX11_receives 122 = .ok (.aload_n 0, 1) := by decide +kernel
theorem dX11_receives_123 : decode cX11_receives 123 = .ok (.aload_n 0, 1) := by decide +kernel
theorem dX11_receives_124 : decode cX11_receives 124 = .ok (.getfield 96, 3) := by decide +kernel
theorem dX11_receives_127 : decode cX11_receives 127 = .ok (.iconst 1, 1) := by decide +kernel
theorem dX11_receives_128 : decode cX11_receives 128 = .ok (.ishl, 1) := by decide +kernel
theorem dX11_receives_129 : decode cX11_receives 129 = .ok (.aload_n 0, 1) := by decide +kernel
theorem dX11_receives_130 : decode cX11_receives 130 = .ok (.getfield 20, 3) := by decide +kernel
theorem dX11_receives_133 : decode cX11_receives 133 = .ok (.ior, 1) := by decide +kernel
theorem dX11_receives_134 : decode cX11_receives 134 = .ok (.putfield 96, 3) := by decide +kernel
theorem dX11_receives_137 : decode cX11_receives 137 = .ok (.aload_n 0, 1) := by decide +kernel
theorem dX11_receives_138 : decode cX11_receives 138 = .ok (.dup, 1) := by decide +kernel
theorem dX11_receives_139 : decode cX11_receives 139 = .ok (.getfield 99, 3) := by decide +kernel
theorem dX11_receives_142 : decode cX11_receives 142 = .ok (.iconst 1, 1) := by decide +kernel
theorem dX11_receives_143 : decode cX11_receives 143 = .ok (.iadd, 1) := by decide +kernel
theorem dX11_receives_144 : decode cX11_receives 144 = .ok (.putfield 99, 3) := by decide +kernel
theorem dX11_receives_147 : decode cX11_receives 147 = .ok (.aload_n 0, 1) := by decide +kernel
theorem dX11_receives_148 : decode cX11_receives 148 = .ok (.getfield 55, 3) := by decide +kernel
theorem dX11_receives_151 : decode cX11_receives 151 = .ok (.iconst 4, 1) := by decide +kernel
theorem dX11_receives_152 : decode cX11_receives 152 = .ok (.if_icmp .ge 11, 3) := by decide +kernel
theorem dX11_receives_155 : decode cX11_receives 155 = .ok (.aload_n 0, 1) := by decide +kernel
theorem dX11_receives_156 : decode cX11_receives 156 = .ok (.aload_n 0, 1) := by decide +kernel
theorem dX11_receives_157 : decode cX11_receives 157 = .ok (.invokevirtual 134, 3) := by decide +kernel
theorem dX11_receives_160 : decode cX11_receives 160 = .ok (.invokevirtual 137, 3) := by decide +kernel
theorem dX11_receives_163 : decode cX11_receives 163 = .ok (.aload_n 0, 1) := by decide +kernel
theorem dX11_receives_164 : decode cX11_receives 164 = .ok (.iconst 0, 1) := by decide +kernel
theorem dX11_receives_165 : decode cX11_receives 165 = .ok (.putfield 105, 3) := by decide +kernel
theorem dX11_receives_168 : decode cX11_receives 168 = .ok (.aload_n 0, 1) := by decide +kernel
theorem dX11_receives_169 : decode cX11_receives 169 = .ok (.iconst 0, 1) := by decide +kernel
theorem dX11_receives_170 : decode cX11_receives 170 = .ok (.putfield 108, 3) := by decide +kernel
theorem dX11_receives_173 : decode cX11_receives 173 = .ok (.aload_n 0, 1) := by decide +kernel
theorem dX11_receives_174 : decode cX11_receives 174 = .ok (.aload_n 0, 1) := by decide +kernel
theorem dX11_receives_175 : decode cX11_receives 175 = .ok (.invokevirtual 114, 3) := by decide +kernel
theorem dX11_receives_178 : decode cX11_receives 178 = .ok (.putfield 118, 3) := by decide +kernel
theorem dX11_receives_181 : decode cX11_receives 181 = .ok (.aload_n 0, 1) := by decide +kernel
theorem dX11_receives_182 : decode cX11_receives 182 = .ok (.invokevirtual 141, 3) := by decide +kernel
theorem dX11_receives_185 : decode cX11_receives 185 = .ok (.return_, 1) := by decide +kernel
theorem dX11_aligns_0 : decode cX11_aligns 0 = .ok (.aload_n 0, 1) := by decide +kernel
theorem dX11_aligns_1 : decode cX11_aligns 1 = .ok (.getfield 99, 3) := by decide +kernel
theorem dX11_aligns_4 : decode cX11_aligns 4 = .ok (.bipush 6, 2) := by decide +kernel
theorem dX11_aligns_6 : decode cX11_aligns 6 = .ok (.if_icmp .lt 19, 3) := by decide +kernel
theorem dX11_aligns_9 : decode cX11_aligns 9 = .ok (.aload_n 0, 1) := by decide +kernel
theorem dX11_aligns_10 : decode cX11_aligns 10 = .ok (.getfield 96, 3) := by decide +kernel
theorem dX11_aligns_13 : decode cX11_aligns 13 = .ok (.bipush 63, 2) := by decide +kernel
theorem dX11_aligns_15 : decode cX11_aligns 15 = .ok (.iand, 1) := by decide +kernel
theorem dX11_aligns_16 : decode cX11_aligns 16 = .ok (.bipush 52, 2) := by decide +kernel
theorem dX11_aligns_18 : decode cX11_aligns 18 = .ok (.if_icmp .ne 7, 3) := by decide +kernel
theorem dX11_aligns_21 : decode cX11_aligns 21 = .ok (.iconst 1, 1) := by decide +kernel
theorem dX11_aligns_22 : decode cX11_aligns 22 = .ok (.goto 4, 3) := by decide +kernel
theorem dX11_aligns_25 : decode cX11_aligns 25 = .ok (.iconst 0, 1) := by decide +kernel
theorem dX11_aligns_26 : decode cX11_aligns 26 = .ok (.istore_n 1, 1) := by decide +kernel
theorem dX11_aligns_27 : decode cX11_aligns 27 = .ok (.aload_n 0, 1) := by decide +kernel
theorem dX11_aligns_28 : decode cX11_aligns 28 = .ok (.dup, 1) := by decide +kernel
theorem dX11_aligns_29 : decode cX11_aligns 29 = .ok (.getfield 144, 3) := by decide +kernel
theorem dX11_aligns_32 : decode cX11_aligns 32 = .ok (.iconst 1, 1) := by decide +kernel
theorem dX11_aligns_33 : decode cX11_aligns 33 = .ok (.iadd, 1) := by decide +kernel
theorem dX11_aligns_34 : decode cX11_aligns 34 = .ok (.putfield 144, 3) := by decide +kernel
theorem dX11_aligns_37 : decode cX11_aligns 37 = .ok (.aload_n 0, 1) := by decide +kernel
theorem dX11_aligns_38 : decode cX11_aligns 38 = .ok (.getfield 147, 3) := by decide +kernel
theorem dX11_aligns_41 : decode cX11_aligns 41 = .ok (.ifCond .ne 29, 3) := by decide +kernel
theorem dX11_aligns_44 : decode cX11_aligns 44 = .ok (.aload_n 0, 1) := by decide +kernel
theorem dX11_aligns_45 : decode cX11_aligns 45 = .ok (.iload_n 1, 1) := by decide +kernel
theorem dX11_aligns_46 : decode cX11_aligns 46 = .ok (.ifCond .eq 7, 3) := by decide +kernel
theorem dX11_aligns_49 : decode cX11_aligns 49 = .ok (.iconst 1, 1) := by decide +kernel
theorem dX11_aligns_50 : decode cX11_aligns 50 = .ok (.goto 4, 3) := by decide +kernel
theorem dX11_aligns_53 : decode cX11_aligns 53 = .ok (.iconst 0, 1) := by decide +kernel
theorem dX11_aligns_54 : decode cX11_aligns 54 = .ok (.putfield 147, 3) := by decide +kernel
theorem dX11_aligns_57 : decode cX11_aligns 57 = .ok (.aload_n 0, 1) := by decide +kernel
theorem dX11_aligns_58 : decode cX11_aligns 58 = .ok (.iconst 0, 1) := by decide +kernel
theorem dX11_aligns_59 : decode cX11_aligns 59 = .ok (.putfield 150, 3) := by decide +kernel
theorem dX11_aligns_62 : decode cX11_aligns 62 = .ok (.aload_n 0, 1) := by decide +kernel
theorem dX11_aligns_63 : decode cX11_aligns 63 = .ok (.iconst 0, 1) := by decide +kernel
theorem dX11_aligns_64 : decode cX11_aligns 64 = .ok (.putfield 144, 3) := by decide +kernel
theorem dX11_aligns_67 : decode cX11_aligns 67 = .ok (.goto 139, 3) := by decide +kernel
theorem dX11_aligns_70 : decode cX11_aligns 70 = .ok (.aload_n 0, 1) := by decide +kernel
theorem dX11_aligns_71 : decode cX11_aligns 71 = .ok (.getfield 144, 3) := by decide +kernel
theorem dX11_aligns_74 : decode cX11_aligns 74 = .ok (.bipush 24, 2) := by decide +kernel
theorem dX11_aligns_76 : decode cX11_aligns 76 = .ok (.irem, 1) := by decide +kernel
theorem dX11_aligns_77 : decode cX11_aligns 77 = .ok (.ifCond .ne 129, 3) := by decide +kernel
theorem dX11_aligns_80 : decode cX11_aligns 80 = .ok (.aload_n 0, 1) := by decide +kernel
theorem dX11_aligns_81 : decode cX11_aligns 81 = .ok (.getfield 147, 3) := by decide +kernel
theorem dX11_aligns_84 : decode cX11_aligns 84 = .ok (.iconst 1, 1) := by decide +kernel
theorem dX11_aligns_85 : decode cX11_aligns 85 = .ok (.if_icmp .ne 46, 3) := by decide +kernel
theorem dX11_aligns_88 : decode cX11_aligns 88 = .ok (.aload_n 0, 1) := by decide +kernel
theorem dX11_aligns_89 : decode cX11_aligns 89 = .ok (.dup, 1) := by decide +kernel
theorem dX11_aligns_90 : decode cX11_aligns 90 = .ok (.getfield 150, 3) := by decide +kernel
theorem dX11_aligns_93 : decode cX11_aligns 93 = .ok (.iconst 1, 1) := by decide +kernel
theorem dX11_aligns_94 : decode cX11_aligns 94 = .ok (.iadd, 1) := by decide +kernel
theorem dX11_aligns_95 : decode cX11_aligns 95 = .ok (.putfield 150, 3) := by decide +kernel
theorem dX11_aligns_98 : decode cX11_aligns 98 = .ok (.aload_n 0, 1) := by decide +kernel
theorem dX11_aligns_99 : decode cX11_aligns 99 = .ok (.iconst 0, 1) := by decide +kernel
theorem dX11_aligns_100 : decode cX11_aligns 100 = .ok (.putfield 153, 3) := by decide +kernel
theorem dX11_aligns_103 : decode cX11_aligns 103 = .ok (.aload_n 0, 1) := by decide +kernel
theorem dX11_aligns_104 : decode cX11_aligns 104 = .ok (.iload_n 1, 1) := by decide +kernel
theorem dX11_aligns_105 : decode cX11_aligns 105 = .ok (.ifCond .ne 7, 3) := by decide +kernel
theorem dX11_aligns_108 : decode cX11_aligns 108 = .ok (.iconst 0, 1) := by decide +kernel
theorem dX11_aligns_109 : decode cX11_aligns 109 = .ok (.goto 16, 3) := by decide +kernel
theorem dX11_aligns_112 : decode cX11_aligns 112 = .ok (.aload_n 0, 1) := by decide +kernel
theorem dX11_aligns_113 : decode cX11_aligns 113 = .ok (.getfield 150, 3) := by decide +kernel
theorem dX11_aligns_116 : decode cX11_aligns 116 = .ok (.iconst 2, 1) := by decide +kernel
theorem dX11_aligns_117 : decode cX11_aligns 117 = .ok (.if_icmp .ne 7, 3) := by decide +kernel
theorem dX11_aligns_120 : decode cX11_aligns 120 = .ok (.iconst 2, 1) := by decide +kernel
theorem dX11_aligns_121 : decode cX11_aligns 121 = .ok (.goto 4, 3) := by decide +kernel
theorem dX11_aligns_124 : decode cX11_aligns 124 = .ok (.iconst 1, 1) := by decide +kernel
theorem dX11_aligns_125 : decode cX11_aligns 125 = .ok (.putfield 147, 3) := by decide +kernel
theorem dX11_aligns_128 : decode cX11_aligns 128 = .ok (.goto 78, 3) := by decide +kernel
theorem dX11_aligns_131 : decode cX11_aligns 131 = .ok (.aload_n 0, 1) := by decide +kernel
theorem dX11_aligns_132 : decode cX11_aligns 132 = .ok (.dup, 1) := by decide +kernel
theorem dX11_aligns_133 : decode cX11_aligns 133 = .ok (.getfield 156, 3) := by decide +kernel
theorem dX11_aligns_136 : decode cX11_aligns 136 = .ok (.iload_n 1, 1) := by decide +kernel
theorem dX11_aligns_137 : decode cX11_aligns 137 = .ok (.ifCond .eq 7, 3) := by decide +kernel
theorem dX11_aligns_140 : decode cX11_aligns 140 = .ok (.iconst 1, 1) := by decide +kernel
theorem dX11_aligns_141 : decode cX11_aligns 141 = .ok (.goto 4, 3) := by decide +kernel
theorem dX11_aligns_144 : decode cX11_aligns 144 = .ok (.iconst 0, 1) := by decide +kernel
theorem dX11_aligns_145 : decode cX11_aligns 145 = .ok (.iadd, 1) := by decide +kernel
theorem dX11_aligns_146 : decode cX11_aligns 146 = .ok (.putfield 156, 3) := by decide +kernel
theorem dX11_aligns_149 : decode cX11_aligns 149 = .ok (.aload_n 0, 1) := by decide +kernel
theorem dX11_aligns_150 : decode cX11_aligns 150 = .ok (.iload_n 1, 1) := by decide +kernel
theorem dX11_aligns_151 : decode cX11_aligns 151 = .ok (.ifCond .eq 7, 3) := by decide +kernel
theorem dX11_aligns_154 : decode cX11_aligns 154 = .ok (.iconst 0, 1) := by decide +kernel
theorem dX11_aligns_155 : decode cX11_aligns 155 = .ok (.goto 9, 3) := by decide +kernel
theorem dX11_aligns_158 : decode cX11_aligns 158 = .ok (.aload_n 0, 1) := by decide +kernel
theorem dX11_aligns_159 : decode cX11_aligns 159 = .ok (.getfield 153, 3) := by decide +kernel
theorem dX11_aligns_162 : decode cX11_aligns 162 = .ok (.iconst 1, 1) := by decide +kernel
theorem dX11_aligns_163 : decode cX11_aligns 163 = .ok (.iadd, 1) := by decide +kernel
theorem dX11_aligns_164 : decode cX11_aligns 164 = .ok (.putfield 153, 3) := by decide +kernel
theorem dX11_aligns_167 : decode cX11_aligns 167 = .ok (.aload_n 0, 1) := by decide +kernel
theorem dX11_aligns_168 : decode cX11_aligns 168 = .ok (.dup, 1) := by decide +kernel
theorem dX11_aligns_169 : decode cX11_aligns 169 = .ok (.getfield 159, 3) := by decide +kernel
theorem dX11_aligns_172 : decode cX11_aligns 172 = .ok (.aload_n 0, 1) := by decide +kernel
theorem dX11_aligns_173 : decode cX11_aligns 173 = .ok (.getfield 153, 3) := by decide +kernel
theorem dX11_aligns_176 : decode cX11_aligns 176 = .ok (.iconst 3, 1) := by decide +kernel
theorem dX11_aligns_177 : decode cX11_aligns 177 = .ok (.if_icmp .ne 7, 3) := by decide +kernel
theorem dX11_aligns_180 : decode cX11_aligns 180 = .ok (.iconst 1, 1) := by decide +kernel
theorem dX11_aligns_181 : decode cX11_aligns 181 = .ok (.goto 4, 3) := by decide +kernel
theorem dX11_aligns_184 : decode cX11_aligns 184 = .ok (.iconst 0, 1) := by decide +kernel
theorem dX11_aligns_185 : decode cX11_aligns 185 = .ok (.iadd, 1) := by decide +kernel
theorem dX11_aligns_186 : decode cX11_aligns 186 = .ok (.putfield 159, 3) := by decide +kernel
theorem dX11_aligns_189 : decode cX11_aligns 189 = .ok (.aload_n 0, 1) := by decide +kernel
theorem dX11_aligns_190 : decode cX11_aligns 190 = .ok (.aload_n 0, 1) := by decide +kernel
theorem dX11_aligns_191 : decode cX11_aligns 191 = .ok (.getfield 153, 3) := by decide +kernel
theorem dX11_aligns_194 : decode cX11_aligns 194 = .ok (.iconst 3, 1) := by decide +kernel
theorem dX11_aligns_195 : decode cX11_aligns 195 = .ok (.if_icmp .ne 7, 3) := by decide +kernel
theorem dX11_aligns_198 : decode cX11_aligns 198 = .ok (.iconst 0, 1) := by decide +kernel
theorem dX11_aligns_199 : decode cX11_aligns 199 = .ok (.goto 4, 3) := by decide +kernel
theorem dX11_aligns_202 : decode cX11_aligns 202 = .ok (.iconst 2, 1) := by decide +kernel
theorem dX11_aligns_203 : decode cX11_aligns 203 = .ok (.putfield 147, 3) := by decide +kernel
theorem dX11_aligns_206 : decode cX11_aligns 206 = .ok (.return_, 1) := by decide +kernel
set_option maxRecDepth 20000 in
theorem ggX11_strobes_X11_levelNow : GoodIn wsX11_strobes wsX11_levelNow := goodIn_r _ [14, 15, 62, 63, 64, 65, 66, 67, 68, 69, 70, 71, 72, 73, 74, 75, 76, 77, 78, 79, 80, 81, 82, 83, 84, 85, 86, 87, 88, 89, 90, 91, 92, 93, 94, 95, 96, 97, 98] (by decide +kernel) (by decide +kernel)
set_option maxRecDepth 20000 in
theorem gX11_strobes_X11_levelNow : GoodIn wsX11_strobes (wsV RX11 114 RX11 yX11_levelNow wsX11_levelNow) := goodIn_app (goodIn_of _ (by decide +kernel)) ggX11_strobes_X11_levelNow
set_option maxRecDepth 20000 in
theorem ggX11_strobes_X11_size : GoodIn wsX11_strobes wsX11_size := goodIn_r _ [18] (by decide +kernel) (by decide +kernel)
set_option maxRecDepth 20000 in
theorem gX11_strobes_X11_size : GoodIn wsX11_strobes (va_wsS RX11 165 yX11_size wsX11_size) := goodIn_app (goodIn_of _ (by decide +kernel)) ggX11_strobes_X11_size
set_option maxRecDepth 20000 in
theorem ggX11_strobes_X11_measures : GoodIn wsX11_strobes wsX11_measures := goodIn_r _ [22, 23, 24, 25, 26, 27, 28, 29, 30, 13, 31, 62, 63, 64, 65, 66, 67, 68, 69, 70, 71, 72, 73, 74, 75, 76, 77, 78, 79, 80, 81, 82, 83, 84, 85, 86, 87, 88, 89, 90, 91, 92, 93, 94, 95, 96, 97, 98] (by decide +kernel) (by decide +kernel)
set_option maxRecDepth 20000 in
theorem gX11_strobes_X11_measures : GoodIn wsX11_strobes (wsV RX11 137 RX11 yX11_measures wsX11_measures) := goodIn_app (goodIn_of _ (by decide +kernel)) ggX11_strobes_X11_measures
set_option maxRecDepth 20000 in
theorem ggX11_strobes_X11_receives : GoodIn wsX11_strobes wsX11_receives := goodIn_r _ [35, 36, 37, 38, 39, 40, 41, 42, 43, 4, 44, 5, 2, 45, 46, 47, 48, 49, 50, 13, 51, 6, 7, 10, 11, 12, 14, 15, 19, 20, 21, 22, 23, 24, 25, 26, 27, 28, 29, 30, 31, 52, 53, 54, 55, 56, 57, 58, 59, 60, 61, 62, 63, 64, 65, 66, 67, 68, 69, 70, 71, 72, 73, 74, 75, 76, 77, 78, 79, 80, 81, 82, 83, 84, 85, 86, 87, 88, 89, 90, 91, 92, 93, 94, 95, 96, 97, 98] (by decide +kernel) (by decide +kernel)
set_option maxRecDepth 20000 in
theorem gX11_strobes_X11_receives : GoodIn wsX11_strobes (wsV RX11 170 RX11 yX11_receives wsX11_receives) := goodIn_app (goodIn_of _ (by decide +kernel)) ggX11_strobes_X11_receives
theorem dX11_strobes_0 : decode cX11_strobes 0 = .ok (.iload_n 1, 1) := by decide +kernel
theorem dX11_strobes_1 : decode cX11_strobes 1 = .ok (.sipush 16384, 3) := by decide +kernel
theorem dX11_strobes_4 : decode cX11_strobes 4 = .ok (.if_icmp .ge 37, 3) := by decide +kernel
theorem dX11_strobes_7 : decode cX11_strobes 7 = .ok (.aload_n 0, 1) := by decide +kernel
theorem dX11_strobes_8 : decode cX11_strobes 8 = .ok (.getfield 58, 3) := by decide +kernel
theorem dX11_strobes_11 : decode cX11_strobes 11 = .ok (.sipush 16384, 3) := by decide +kernel
theorem dX11_strobes_14 : decode cX11_strobes 14 = .ok (.if_icmp .lt 27, 3) := by decide +kernel
theorem dX11_strobes_17 : decode cX11_strobes 17 = .ok (.aload_n 0, 1) := by decide +kernel
theorem dX11_strobes_18 : decode cX11_strobes 18 = .ok (.getfield 55, 3) := by decide +kernel
theorem dX11_strobes_21 : decode cX11_strobes 21 = .ok (.iconst 4, 1) := by decide +kernel
theorem dX11_strobes_22 : decode cX11_strobes 22 = .ok (.if_icmp .ne 19, 3) := by decide +kernel
theorem dX11_strobes_25 : decode cX11_strobes 25 = .ok (.aload_n 0, 1) := by decide +kernel
theorem dX11_strobes_26 : decode cX11_strobes 26 = .ok (.aload_n 0, 1) := by decide +kernel
theorem dX11_strobes_27 : decode cX11_strobes 27 = .ok (.getfield 162, 3) := by decide +kernel
theorem dX11_strobes_30 : decode cX11_strobes 30 = .ok (.aload_n 0, 1) := by decide +kernel
theorem dX11_strobes_31 : decode cX11_strobes 31 = .ok (.invokevirtual 114, 3) := by decide +kernel
theorem dX11_strobes_34 : decode cX11_strobes 34 = .ok (.invokestatic 165, 3) := by decide +kernel
theorem dX11_strobes_37 : decode cX11_strobes 37 = .ok (.isub, 1) := by decide +kernel
theorem dX11_strobes_38 : decode cX11_strobes 38 = .ok (.invokevirtual 137, 3) := by decide +kernel
theorem dX11_strobes_41 : decode cX11_strobes 41 = .ok (.iload_n 1, 1) := by decide +kernel
theorem dX11_strobes_42 : decode cX11_strobes 42 = .ok (.ldc 133, 2) := by decide +kernel
theorem dX11_strobes_44 : decode cX11_strobes 44 = .ok (.if_icmp .ge 28, 3) := by decide +kernel
theorem dX11_strobes_47 : decode cX11_strobes 47 = .ok (.aload_n 0, 1) := by decide +kernel
theorem dX11_strobes_48 : decode cX11_strobes 48 = .ok (.getfield 58, 3) := by decide +kernel
theorem dX11_strobes_51 : decode cX11_strobes 51 = .ok (.ldc 133, 2) := by decide +kernel
theorem dX11_strobes_53 : decode cX11_strobes 53 = .ok (.if_icmp .lt 19, 3) := by decide +kernel
theorem dX11_strobes_56 : decode cX11_strobes 56 = .ok (.aload_n 0, 1) := by decide +kernel
theorem dX11_strobes_57 : decode cX11_strobes 57 = .ok (.aload_n 0, 1) := by decide +kernel
theorem dX11_strobes_58 : decode cX11_strobes 58 = .ok (.getfield 20, 3) := by decide +kernel
theorem dX11_strobes_61 : decode cX11_strobes 61 = .ok (.putfield 102, 3) := by decide +kernel
theorem dX11_strobes_64 : decode cX11_strobes 64 = .ok (.aload_n 0, 1) := by decide +kernel
theorem dX11_strobes_65 : decode cX11_strobes 65 = .ok (.aload_n 0, 1) := by decide +kernel
theorem dX11_strobes_66 : decode cX11_strobes 66 = .ok (.invokevirtual 114, 3) := by decide +kernel
theorem dX11_strobes_69 : decode cX11_strobes 69 = .ok (.putfield 111, 3) := by decide +kernel
theorem dX11_strobes_72 : decode cX11_strobes 72 = .ok (.iload_n 1, 1) := by decide +kernel
theorem dX11_strobes_73 : decode cX11_strobes 73 = .ok (.ldc 169, 2) := by decide +kernel
theorem dX11_strobes_75 : decode cX11_strobes 75 = .ok (.if_icmp .ge 23, 3) := by decide +kernel
theorem dX11_strobes_78 : decode cX11_strobes 78 = .ok (.aload_n 0, 1) := by decide +kernel
theorem dX11_strobes_79 : decode cX11_strobes 79 = .ok (.getfield 58, 3) := by decide +kernel
theorem dX11_strobes_82 : decode cX11_strobes 82 = .ok (.ldc 169, 2) := by decide +kernel
theorem dX11_strobes_84 : decode cX11_strobes 84 = .ok (.if_icmp .lt 14, 3) := by decide +kernel
theorem dX11_strobes_87 : decode cX11_strobes 87 = .ok (.aload_n 0, 1) := by decide +kernel
theorem dX11_strobes_88 : decode cX11_strobes 88 = .ok (.aload_n 0, 1) := by decide +kernel
theorem dX11_strobes_89 : decode cX11_strobes 89 = .ok (.invokevirtual 114, 3) := by decide +kernel
theorem dX11_strobes_92 : decode cX11_strobes 92 = .ok (.invokestatic 165, 3) := by decide +kernel
theorem dX11_strobes_95 : decode cX11_strobes 95 = .ok (.putfield 162, 3) := by decide +kernel
theorem dX11_strobes_98 : decode cX11_strobes 98 = .ok (.aload_n 0, 1) := by decide +kernel
theorem dX11_strobes_99 : decode cX11_strobes 99 = .ok (.getfield 58, 3) := by decide +kernel
theorem dX11_strobes_102 : decode cX11_strobes 102 = .ok (.ldc 89, 2) := by decide +kernel
theorem dX11_strobes_104 : decode cX11_strobes 104 = .ok (.if_icmp .lt 18, 3) := by decide +kernel
theorem dX11_strobes_107 : decode cX11_strobes 107 = .ok (.aload_n 0, 1) := by decide +kernel
theorem dX11_strobes_108 : decode cX11_strobes 108 = .ok (.dup, 1) := by decide +kernel
theorem dX11_strobes_109 : decode cX11_strobes 109 = .ok (.getfield 58, 3) := by decide +kernel
theorem dX11_strobes_112 : decode cX11_strobes 112 = .ok (.ldc 89, 2) := by decide +kernel
theorem dX11_strobes_114 : decode cX11_strobes 114 = .ok (.isub, 1) := by decide +kernel
theorem dX11_strobes_115 : decode cX11_strobes 115 = .ok (.putfield 58, 3) := by decide +kernel
theorem dX11_strobes_118 : decode cX11_strobes 118 = .ok (.aload_n 0, 1) := by decide +kernel
theorem dX11_strobes_119 : decode cX11_strobes 119 = .ok (.invokevirtual 170, 3) := by decide +kernel
theorem dX11_strobes_122 : decode cX11_strobes 122 = .ok (.return_, 1) := by decide +kernel
set_option maxRecDepth 20000 in
theorem ggX11_passes_X11_transmits : GoodIn wsX11_passes wsX11_transmits := goodIn_r _ [14, 15, 16, 17, 18, 19, 20, 21, 22, 23, 2, 6, 24, 25, 1, 26, 27, 28, 13, 29, 30, 31, 89, 90, 91, 92, 93, 94, 95, 96, 97, 98, 99, 100, 101, 102, 103, 104, 105, 106, 107, 108, 109, 110, 111, 112, 113, 114, 115, 116, 117, 118, 119, 120, 121, 122, 123, 124, 125] (by decide +kernel) (by decide +kernel)
set_option maxRecDepth 20000 in
theorem gX11_passes_X11_transmits : GoodIn wsX11_passes (wsV RX11 173 RX11 yX11_transmits wsX11_transmits) := goodIn_app (goodIn_of _ (by decide +kernel)) ggX11_passes_X11_transmits
set_option maxRecDepth 20000 in
theorem ggX11_passes_X11_in : GoodIn wsX11_passes wsX11_in := goodIn_r _ [34] (by decide +kernel) (by decide +kernel)
set_option maxRecDepth 20000 in
theorem gX11_passes_X11_in : GoodIn wsX11_passes (va_wsS RX11 44 yX11_in wsX11_in) := goodIn_app (goodIn_of _ (by decide +kernel)) ggX11_passes_X11_in
set_option maxRecDepth 20000 in
theorem ggX11_passes_X11_strobes : GoodIn wsX11_passes wsX11_strobes := goodIn_r _ [38, 4, 39, 40, 3, 25, 41, 42, 43, 23, 44, 45, 46, 13, 47, 6, 48, 49, 50, 51, 52, 53, 54, 55, 56, 57, 58, 59, 9, 60, 61, 62, 63, 64, 65, 66, 30, 67, 68, 69, 70, 71, 72, 21, 73, 5, 7, 74, 75, 76, 77, 78, 79, 80, 81, 82, 83, 84, 85, 86, 87, 88, 89, 90, 91, 92, 93, 94, 95, 96, 97, 98, 99, 100, 101, 102, 103, 104, 105, 106, 107, 108, 109, 110, 111, 112, 113, 114, 115, 116, 117, 118, 119, 120, 121, 122, 123, 124, 125] (by decide +kernel) (by decide +kernel)
set_option maxRecDepth 20000 in
theorem gX11_passes_X11_strobes : GoodIn wsX11_passes (wsV RX11 177 RX11 yX11_strobes wsX11_strobes) := goodIn_app (goodIn_of _ (by decide +kernel)) ggX11_passes_X11_strobes
theorem dX11_passes_0 : decode cX11_passes 0 = .ok (.aload_n 0, 1) := by decide +kernel
theorem dX11_passes_1 : decode cX11_passes 1 = .ok (.invokevirtual 173, 3) := by decide +kernel
theorem dX11_passes_4 : decode cX11_passes 4 = .ok (.aload_n 0, 1) := by decide +kernel
theorem dX11_passes_5 : decode cX11_passes 5 = .ok (.getfield 27, 3) := by decide +kernel
theorem dX11_passes_8 : decode cX11_passes 8 = .ok (.aload_n 0, 1) := by decide +kernel
theorem dX11_passes_9 : decode cX11_passes 9 = .ok (.getfield 93, 3) := by decide +kernel
theorem dX11_passes_12 : decode cX11_passes 12 = .ok (.sipush 256, 3) := by decide +kernel
theorem dX11_passes_15 : decode cX11_passes 15 = .ok (.irem, 1) := by decide +kernel
theorem dX11_passes_16 : decode cX11_passes 16 = .ok (.baload, 1) := by decide +kernel
theorem dX11_passes_17 : decode cX11_passes 17 = .ok (.ifCond .eq 18, 3) := by decide +kernel
theorem dX11_passes_20 : decode cX11_passes 20 = .ok (.aload_n 0, 1) := by decide +kernel
theorem dX11_passes_21 : decode cX11_passes 21 = .ok (.ldc 133, 2) := by decide +kernel
theorem dX11_passes_23 : decode cX11_passes 23 = .ok (.aload_n 0, 1) := by decide +kernel
theorem dX11_passes_24 : decode cX11_passes 24 = .ok (.getfield 58, 3) := by decide +kernel
theorem dX11_passes_27 : decode cX11_passes 27 = .ok (.isub, 1) := by decide +kernel
theorem dX11_passes_28 : decode cX11_passes 28 = .ok (.sipush 256, 3) := by decide +kernel
theorem dX11_passes_31 : decode cX11_passes 31 = .ok (.idiv, 1) := by decide +kernel
theorem dX11_passes_32 : decode cX11_passes 32 = .ok (.putfield 105, 3) := by decide +kernel
theorem dX11_passes_35 : decode cX11_passes 35 = .ok (.aload_n 0, 1) := by decide +kernel
theorem dX11_passes_36 : decode cX11_passes 36 = .ok (.getfield 24, 3) := by decide +kernel
theorem dX11_passes_39 : decode cX11_passes 39 = .ok (.iconst 1, 1) := by decide +kernel
theorem dX11_passes_40 : decode cX11_passes 40 = .ok (.iand, 1) := by decide +kernel
theorem dX11_passes_41 : decode cX11_passes 41 = .ok (.aload_n 0, 1) := by decide +kernel
theorem dX11_passes_42 : decode cX11_passes 42 = .ok (.getfield 24, 3) := by decide +kernel
theorem dX11_passes_45 : decode cX11_passes 45 = .ok (.bipush 8, 2) := by decide +kernel
theorem dX11_passes_47 : decode cX11_passes 47 = .ok (.ishr, 1) := by decide +kernel
theorem dX11_passes_48 : decode cX11_passes 48 = .ok (.iconst 1, 1) := by decide +kernel
theorem dX11_passes_49 : decode cX11_passes 49 = .ok (.iand, 1) := by decide +kernel
theorem dX11_passes_50 : decode cX11_passes 50 = .ok (.if_icmp .eq 32, 3) := by decide +kernel
theorem dX11_passes_53 : decode cX11_passes 53 = .ok (.aload_n 0, 1) := by decide +kernel
theorem dX11_passes_54 : decode cX11_passes 54 = .ok (.dup, 1) := by decide +kernel
theorem dX11_passes_55 : decode cX11_passes 55 = .ok (.getfield 108, 3) := by decide +kernel
theorem dX11_passes_58 : decode cX11_passes 58 = .ok (.aload_n 0, 1) := by decide +kernel
theorem dX11_passes_59 : decode cX11_passes 59 = .ok (.getfield 58, 3) := by decide +kernel
theorem dX11_passes_62 : decode cX11_passes 62 = .ok (.sipush 16384, 3) := by decide +kernel
theorem dX11_passes_65 : decode cX11_passes 65 = .ok (.ldc 176, 2) := by decide +kernel
theorem dX11_passes_67 : decode cX11_passes 67 = .ok (.invokestatic 44, 3) := by decide +kernel
theorem dX11_passes_70 : decode cX11_passes 70 = .ok (.ifCond .eq 7, 3) := by decide +kernel
theorem dX11_passes_73 : decode cX11_passes 73 = .ok (.iconst 1, 1) := by decide +kernel
theorem dX11_passes_74 : decode cX11_passes 74 = .ok (.goto 4, 3) := by decide +kernel
theorem dX11_passes_77 : decode cX11_passes 77 = .ok (.iconst (-1), 1) := by decide +kernel
theorem dX11_passes_78 : decode cX11_passes 78 = .ok (.iadd, 1) := by decide +kernel
theorem dX11_passes_79 : decode cX11_passes 79 = .ok (.putfield 108, 3) := by decide +kernel
theorem dX11_passes_82 : decode cX11_passes 82 = .ok (.aload_n 0, 1) := by decide +kernel
theorem dX11_passes_83 : decode cX11_passes 83 = .ok (.getfield 58, 3) := by decide +kernel
theorem dX11_passes_86 : decode cX11_passes 86 = .ok (.istore_n 1, 1) := by decide +kernel
theorem dX11_passes_87 : decode cX11_passes 87 = .ok (.aload_n 0, 1) := by decide +kernel
theorem dX11_passes_88 : decode cX11_passes 88 = .ok (.dup, 1) := by decide +kernel
theorem dX11_passes_89 : decode cX11_passes 89 = .ok (.getfield 58, 3) := by decide +kernel
theorem dX11_passes_92 : decode cX11_passes 92 = .ok (.sipush 4096, 3) := by decide +kernel
theorem dX11_passes_95 : decode cX11_passes 95 = .ok (.aload_n 0, 1) := by decide +kernel
theorem dX11_passes_96 : decode cX11_passes 96 = .ok (.getfield 64, 3) := by decide +kernel
theorem dX11_passes_99 : decode cX11_passes 99 = .ok (.iadd, 1) := by decide +kernel
theorem dX11_passes_100 : decode cX11_passes 100 = .ok (.iadd, 1) := by decide +kernel
theorem dX11_passes_101 : decode cX11_passes 101 = .ok (.putfield 58, 3) := by decide +kernel
theorem dX11_passes_104 : decode cX11_passes 104 = .ok (.aload_n 0, 1) := by decide +kernel
theorem dX11_passes_105 : decode cX11_passes 105 = .ok (.iload_n 1, 1) := by decide +kernel
theorem dX11_passes_106 : decode cX11_passes 106 = .ok (.invokevirtual 177, 3) := by decide +kernel
theorem dX11_passes_109 : decode cX11_passes 109 = .ok (.return_, 1) := by decide +kernel
set_option maxRecDepth 20000 in
theorem ggX11_run_X11_in : GoodIn wsX11_run wsX11_in := goodIn_r _ [5] (by decide +kernel) (by decide +kernel)
set_option maxRecDepth 20000 in
theorem gX11_run_X11_in : GoodIn wsX11_run (va_wsS RX11 44 yX11_in wsX11_in) := goodIn_app (goodIn_of _ (by decide +kernel)) ggX11_run_X11_in
set_option maxRecDepth 20000 in
theorem ggX11_run_X11_holds : GoodIn wsX11_run wsX11_holds := goodIn_r _ [9, 10, 98, 99, 100, 101, 102, 103, 104, 105, 106, 107, 108, 109, 110, 111, 112, 113, 114, 115, 116, 117, 118, 119, 120, 121, 122, 123, 124, 125, 126, 127, 128, 129, 130, 131, 132, 133, 134] (by decide +kernel) (by decide +kernel)
set_option maxRecDepth 20000 in
theorem gX11_run_X11_holds : GoodIn wsX11_run (wsV RX11 48 RX11 yX11_holds wsX11_holds) := goodIn_app (goodIn_of _ (by decide +kernel)) ggX11_run_X11_holds
set_option maxRecDepth 20000 in
theorem ggX11_run_X11_passes : GoodIn wsX11_run wsX11_passes := goodIn_r _ [14, 15, 16, 17, 18, 19, 20, 21, 22, 23, 24, 25, 26, 4, 27, 28, 29, 30, 31, 32, 33, 34, 35, 36, 37, 38, 39, 40, 41, 42, 43, 44, 2, 3, 5, 45, 46, 47, 48, 49, 50, 51, 52, 53, 54, 55, 56, 57, 58, 59, 60, 61, 62, 63, 64, 65, 66, 67, 68, 69, 70, 71, 72, 73, 74, 75, 76, 77, 1, 78, 79, 80, 81, 82, 83, 84, 85, 86, 87, 88, 89, 90, 91, 92, 93, 94, 95, 96, 97, 98, 99, 100, 101, 102, 103, 104, 105, 106, 107, 108, 109, 110, 111, 112, 113, 114, 115, 116, 117, 118, 119, 120, 121, 122, 123, 124, 125, 126, 127, 128, 129, 130, 131, 132, 133, 134] (by decide +kernel) (by decide +kernel)
set_option maxRecDepth 20000 in
theorem gX11_run_X11_passes : GoodIn wsX11_run (wsV RX11 180 RX11 yX11_passes wsX11_passes) := goodIn_app (goodIn_of _ (by decide +kernel)) ggX11_run_X11_passes
theorem dX11_run_0 : decode cX11_run 0 = .ok (.aload_n 0, 1) := by decide +kernel
theorem dX11_run_1 : decode cX11_run 1 = .ok (.iload_n 1, 1) := by decide +kernel
theorem dX11_run_2 : decode cX11_run 2 = .ok (.iconst 1, 1) := by decide +kernel
theorem dX11_run_3 : decode cX11_run 3 = .ok (.sipush 800, 3) := by decide +kernel
theorem dX11_run_6 : decode cX11_run 6 = .ok (.invokestatic 44, 3) := by decide +kernel
theorem dX11_run_9 : decode cX11_run 9 = .ok (.ifCond .eq 7, 3) := by decide +kernel
theorem dX11_run_12 : decode cX11_run 12 = .ok (.iconst 0, 1) := by decide +kernel
theorem dX11_run_13 : decode cX11_run 13 = .ok (.goto 4, 3) := by decide +kernel
theorem dX11_run_16 : decode cX11_run 16 = .ok (.iconst 1, 1) := by decide +kernel
theorem dX11_run_17 : decode cX11_run 17 = .ok (.invokevirtual 48, 3) := by decide +kernel
theorem dX11_run_20 : decode cX11_run 20 = .ok (.ifCond .ne 5, 3) := by decide +kernel
theorem dX11_run_23 : decode cX11_run 23 = .ok (.iconst 0, 1) := by decide +kernel
theorem dX11_run_24 : decode cX11_run 24 = .ok (.ireturn, 1) := by decide +kernel
theorem dX11_run_25 : decode cX11_run 25 = .ok (.aload_n 0, 1) := by decide +kernel
theorem dX11_run_26 : decode cX11_run 26 = .ok (.getfield 99, 3) := by decide +kernel
theorem dX11_run_29 : decode cX11_run 29 = .ok (.istore_n 2, 1) := by decide +kernel
theorem dX11_run_30 : decode cX11_run 30 = .ok (.iconst 0, 1) := by decide +kernel
theorem dX11_run_31 : decode cX11_run 31 = .ok (.istore_n 3, 1) := by decide +kernel
theorem dX11_run_32 : decode cX11_run 32 = .ok (.iload_n 3, 1) := by decide +kernel
theorem dX11_run_33 : decode cX11_run 33 = .ok (.iload_n 1, 1) := by decide +kernel
theorem dX11_run_34 : decode cX11_run 34 = .ok (.if_icmp .ge 13, 3) := by decide +kernel
theorem dX11_run_37 : decode cX11_run 37 = .ok (.aload_n 0, 1) := by decide +kernel
theorem dX11_run_38 : decode cX11_run 38 = .ok (.invokevirtual 180, 3) := by decide +kernel
theorem dX11_run_41 : decode cX11_run 41 = .ok (.iinc 3 1, 3) := by decide +kernel
theorem dX11_run_44 : decode cX11_run 44 = .ok (.goto (-12), 3) := by decide +kernel
theorem dX11_run_47 : decode cX11_run 47 = .ok (.aload_n 0, 1) := by decide +kernel
theorem dX11_run_48 : decode cX11_run 48 = .ok (.getfield 99, 3) := by decide +kernel
theorem dX11_run_51 : decode cX11_run 51 = .ok (.iload_n 2, 1) := by decide +kernel
theorem dX11_run_52 : decode cX11_run 52 = .ok (.isub, 1) := by decide +kernel
theorem dX11_run_53 : decode cX11_run 53 = .ok (.ireturn, 1) := by decide +kernel
theorem dX11_ticks_0 : decode cX11_ticks 0 = .ok (.aload_n 0, 1) := by decide +kernel
theorem dX11_ticks_1 : decode cX11_ticks 1 = .ok (.iconst 0, 1) := by decide +kernel
theorem dX11_ticks_2 : decode cX11_ticks 2 = .ok (.putfield 41, 3) := by decide +kernel
theorem dX11_ticks_5 : decode cX11_ticks 5 = .ok (.aload_n 0, 1) := by decide +kernel
theorem dX11_ticks_6 : decode cX11_ticks 6 = .ok (.getfield 93, 3) := by decide +kernel
theorem dX11_ticks_9 : decode cX11_ticks 9 = .ok (.ireturn, 1) := by decide +kernel
theorem dX11_sent_0 : decode cX11_sent 0 = .ok (.aload_n 0, 1) := by decide +kernel
theorem dX11_sent_1 : decode cX11_sent 1 = .ok (.iconst 0, 1) := by decide +kernel
theorem dX11_sent_2 : decode cX11_sent 2 = .ok (.putfield 41, 3) := by decide +kernel
theorem dX11_sent_5 : decode cX11_sent 5 = .ok (.aload_n 0, 1) := by decide +kernel
theorem dX11_sent_6 : decode cX11_sent 6 = .ok (.getfield 75, 3) := by decide +kernel
theorem dX11_sent_9 : decode cX11_sent 9 = .ok (.ireturn, 1) := by decide +kernel
theorem dX11_line_0 : decode cX11_line 0 = .ok (.aload_n 0, 1) := by decide +kernel
theorem dX11_line_1 : decode cX11_line 1 = .ok (.iconst 0, 1) := by decide +kernel
theorem dX11_line_2 : decode cX11_line 2 = .ok (.putfield 41, 3) := by decide +kernel
theorem dX11_line_5 : decode cX11_line 5 = .ok (.aload_n 0, 1) := by decide +kernel
theorem dX11_line_6 : decode cX11_line 6 = .ok (.getfield 20, 3) := by decide +kernel
theorem dX11_line_9 : decode cX11_line 9 = .ok (.ireturn, 1) := by decide +kernel
set_option maxRecDepth 20000 in
theorem ggX11_level_X11_levelNow : GoodIn wsX11_level wsX11_levelNow := goodIn_r _ [6, 7, 8, 9, 10, 11, 12, 13, 14, 15, 16, 17, 18, 19, 20, 21, 22, 23, 24, 25, 26, 27, 28, 29, 30, 31, 32, 33, 34, 35, 36, 37, 38, 39, 40, 41, 42, 43, 44] (by decide +kernel) (by decide +kernel)
set_option maxRecDepth 20000 in
theorem gX11_level_X11_levelNow : GoodIn wsX11_level (wsV RX11 114 RX11 yX11_levelNow wsX11_levelNow) := goodIn_app (goodIn_of _ (by decide +kernel)) ggX11_level_X11_levelNow
theorem dX11_level_0 : decode cX11_level 0 = .ok (.aload_n 0, 1) := by decide +kernel
theorem dX11_level_1 : decode cX11_level 1 = .ok (.iconst 0, 1) := by decide +kernel
theorem dX11_level_2 : decode cX11_level 2 = .ok (.putfield 41, 3) := by decide +kernel
theorem dX11_level_5 : decode cX11_level 5 = .ok (.aload_n 0, 1) := by decide +kernel
theorem dX11_level_6 : decode cX11_level 6 = .ok (.invokevirtual 114, 3) := by decide +kernel
theorem dX11_level_9 : decode cX11_level 9 = .ok (.ireturn, 1) := by decide +kernel
theorem dX11_sender_0 : decode cX11_sender 0 = .ok (.aload_n 0, 1) := by decide +kernel
theorem dX11_sender_1 : decode cX11_sender 1 = .ok (.iconst 0, 1) := by decide +kernel
theorem dX11_sender_2 : decode cX11_sender 2 = .ok (.putfield 41, 3) := by decide +kernel
theorem dX11_sender_5 : decode cX11_sender 5 = .ok (.aload_n 0, 1) := by decide +kernel
theorem dX11_sender_6 : decode cX11_sender 6 = .ok (.getfield 86, 3) := by decide +kernel
theorem dX11_sender_9 : decode cX11_sender 9 = .ok (.ireturn, 1) := by decide +kernel
theorem dX11_receiver_0 : decode cX11_receiver 0 = .ok (.aload_n 0, 1) := by decide +kernel
theorem dX11_receiver_1 : decode cX11_receiver 1 = .ok (.iconst 0, 1) := by decide +kernel
theorem dX11_receiver_2 : decode cX11_receiver 2 = .ok (.putfield 41, 3) := by decide +kernel
theorem dX11_receiver_5 : decode cX11_receiver 5 = .ok (.aload_n 0, 1) := by decide +kernel
theorem dX11_receiver_6 : decode cX11_receiver 6 = .ok (.getfield 58, 3) := by decide +kernel
theorem dX11_receiver_9 : decode cX11_receiver 9 = .ok (.ireturn, 1) := by decide +kernel
theorem dX11_error_0 : decode cX11_error 0 = .ok (.aload_n 0, 1) := by decide +kernel
theorem dX11_error_1 : decode cX11_error 1 = .ok (.iconst 0, 1) := by decide +kernel
theorem dX11_error_2 : decode cX11_error 2 = .ok (.putfield 41, 3) := by decide +kernel
theorem dX11_error_5 : decode cX11_error 5 = .ok (.aload_n 0, 1) := by decide +kernel
theorem dX11_error_6 : decode cX11_error 6 = .ok (.getfield 67, 3) := by decide +kernel
theorem dX11_error_9 : decode cX11_error 9 = .ok (.ireturn, 1) := by decide +kernel
theorem dX11_integral_0 : decode cX11_integral 0 = .ok (.aload_n 0, 1) := by decide +kernel
theorem dX11_integral_1 : decode cX11_integral 1 = .ok (.iconst 0, 1) := by decide +kernel
theorem dX11_integral_2 : decode cX11_integral 2 = .ok (.putfield 41, 3) := by decide +kernel
theorem dX11_integral_5 : decode cX11_integral 5 = .ok (.aload_n 0, 1) := by decide +kernel
theorem dX11_integral_6 : decode cX11_integral 6 = .ok (.getfield 61, 3) := by decide +kernel
theorem dX11_integral_9 : decode cX11_integral 9 = .ok (.ireturn, 1) := by decide +kernel
theorem dX11_control_0 : decode cX11_control 0 = .ok (.aload_n 0, 1) := by decide +kernel
theorem dX11_control_1 : decode cX11_control 1 = .ok (.iconst 0, 1) := by decide +kernel
theorem dX11_control_2 : decode cX11_control 2 = .ok (.putfield 41, 3) := by decide +kernel
theorem dX11_control_5 : decode cX11_control 5 = .ok (.aload_n 0, 1) := by decide +kernel
theorem dX11_control_6 : decode cX11_control 6 = .ok (.getfield 64, 3) := by decide +kernel
theorem dX11_control_9 : decode cX11_control 9 = .ok (.ireturn, 1) := by decide +kernel
theorem dX11_received_0 : decode cX11_received 0 = .ok (.aload_n 0, 1) := by decide +kernel
theorem dX11_received_1 : decode cX11_received 1 = .ok (.iconst 0, 1) := by decide +kernel
theorem dX11_received_2 : decode cX11_received 2 = .ok (.putfield 41, 3) := by decide +kernel
theorem dX11_received_5 : decode cX11_received 5 = .ok (.aload_n 0, 1) := by decide +kernel
theorem dX11_received_6 : decode cX11_received 6 = .ok (.getfield 99, 3) := by decide +kernel
theorem dX11_received_9 : decode cX11_received 9 = .ok (.ireturn, 1) := by decide +kernel
theorem dX11_recent_0 : decode cX11_recent 0 = .ok (.aload_n 0, 1) := by decide +kernel
theorem dX11_recent_1 : decode cX11_recent 1 = .ok (.getfield 99, 3) := by decide +kernel
theorem dX11_recent_4 : decode cX11_recent 4 = .ok (.bipush 32, 2) := by decide +kernel
theorem dX11_recent_6 : decode cX11_recent 6 = .ok (.if_icmp .ge 10, 3) := by decide +kernel
theorem dX11_recent_9 : decode cX11_recent 9 = .ok (.aload_n 0, 1) := by decide +kernel
theorem dX11_recent_10 : decode cX11_recent 10 = .ok (.getfield 99, 3) := by decide +kernel
theorem dX11_recent_13 : decode cX11_recent 13 = .ok (.goto 5, 3) := by decide +kernel
theorem dX11_recent_16 : decode cX11_recent 16 = .ok (.bipush 32, 2) := by decide +kernel
theorem dX11_recent_18 : decode cX11_recent 18 = .ok (.ireturn, 1) := by decide +kernel
set_option maxRecDepth 20000 in
theorem ggX11_bit_X11_recent : GoodIn wsX11_bit wsX11_recent := goodIn_r _ [6, 7, 16, 17, 18, 19, 20, 21, 22, 23, 24, 25, 26, 27, 28, 29, 30, 31, 32, 33, 34, 35, 36, 37, 38, 39, 40, 41, 42, 43, 44, 45, 46, 47, 48, 49, 50, 51, 52] (by decide +kernel) (by decide +kernel)
set_option maxRecDepth 20000 in
theorem gX11_bit_X11_recent : GoodIn wsX11_bit (wsV RX11 183 RX11 yX11_recent wsX11_recent) := goodIn_app (goodIn_of _ (by decide +kernel)) ggX11_bit_X11_recent
set_option maxRecDepth 20000 in
theorem ggX11_bit_X11_in : GoodIn wsX11_bit wsX11_in := goodIn_r _ [10] (by decide +kernel) (by decide +kernel)
set_option maxRecDepth 20000 in
theorem gX11_bit_X11_in : GoodIn wsX11_bit (va_wsS RX11 44 yX11_in wsX11_in) := goodIn_app (goodIn_of _ (by decide +kernel)) ggX11_bit_X11_in
set_option maxRecDepth 20000 in
theorem ggX11_bit_X11_holds : GoodIn wsX11_bit wsX11_holds := goodIn_r _ [14, 15, 16, 17, 18, 19, 20, 21, 22, 23, 24, 25, 26, 27, 28, 29, 30, 31, 32, 33, 34, 35, 36, 37, 38, 39, 40, 41, 42, 43, 44, 45, 46, 47, 48, 49, 50, 51, 52] (by decide +kernel) (by decide +kernel)
set_option maxRecDepth 20000 in
theorem gX11_bit_X11_holds : GoodIn wsX11_bit (wsV RX11 48 RX11 yX11_holds wsX11_holds) := goodIn_app (goodIn_of _ (by decide +kernel)) ggX11_bit_X11_holds
theorem dX11_bit_0 : decode cX11_bit 0 = .ok (.aload_n 0, 1) := by decide +kernel
theorem dX11_bit_1 : decode cX11_bit 1 = .ok (.iload_n 1, 1) := by decide +kernel
theorem dX11_bit_2 : decode cX11_bit 2 = .ok (.iconst 1, 1) := by decide +kernel
theorem dX11_bit_3 : decode cX11_bit 3 = .ok (.aload_n 0, 1) := by decide +kernel
theorem dX11_bit_4 : decode cX11_bit 4 = .ok (.invokevirtual 183, 3) := by decide +kernel
theorem dX11_bit_7 : decode cX11_bit 7 = .ok (.invokestatic 44, 3) := by decide +kernel
theorem dX11_bit_10 : decode cX11_bit 10 = .ok (.ifCond .eq 7, 3) := by decide +kernel
theorem dX11_bit_13 : decode cX11_bit 13 = .ok (.iconst 0, 1) := by decide +kernel
theorem dX11_bit_14 : decode cX11_bit 14 = .ok (.goto 4, 3) := by decide +kernel
theorem dX11_bit_17 : decode cX11_bit 17 = .ok (.iconst 1, 1) := by decide +kernel
theorem dX11_bit_18 : decode cX11_bit 18 = .ok (.invokevirtual 48, 3) := by decide +kernel
theorem dX11_bit_21 : decode cX11_bit 21 = .ok (.ifCond .eq 16, 3) := by decide +kernel
theorem dX11_bit_24 : decode cX11_bit 24 = .ok (.aload_n 0, 1) := by decide +kernel
theorem dX11_bit_25 : decode cX11_bit 25 = .ok (.getfield 96, 3) := by decide +kernel
theorem dX11_bit_28 : decode cX11_bit 28 = .ok (.iload_n 1, 1) := by decide +kernel
theorem dX11_bit_29 : decode cX11_bit 29 = .ok (.iconst 1, 1) := by decide +kernel
theorem dX11_bit_30 : decode cX11_bit 30 = .ok (.isub, 1) := by decide +kernel
theorem dX11_bit_31 : decode cX11_bit 31 = .ok (.ishr, 1) := by decide +kernel
theorem dX11_bit_32 : decode cX11_bit 32 = .ok (.iconst 1, 1) := by decide +kernel
theorem dX11_bit_33 : decode cX11_bit 33 = .ok (.iand, 1) := by decide +kernel
theorem dX11_bit_34 : decode cX11_bit 34 = .ok (.goto 4, 3) := by decide +kernel
theorem dX11_bit_37 : decode cX11_bit 37 = .ok (.iconst 0, 1) := by decide +kernel
theorem dX11_bit_38 : decode cX11_bit 38 = .ok (.ireturn, 1) := by decide +kernel
set_option maxRecDepth 20000 in
theorem ggX11_phase_X11_holds : GoodIn wsX11_phase wsX11_holds := goodIn_r _ [7, 8, 9, 10, 11, 12, 13, 14, 15, 16, 17, 18, 19, 20, 21, 22, 23, 24, 25, 26, 27, 28, 29, 30, 31, 32, 33, 34, 35, 36, 37, 38, 39, 40, 41, 42, 43, 44, 45] (by decide +kernel) (by decide +kernel)
set_option maxRecDepth 20000 in
theorem gX11_phase_X11_holds : GoodIn wsX11_phase (wsV RX11 48 RX11 yX11_holds wsX11_holds) := goodIn_app (goodIn_of _ (by decide +kernel)) ggX11_phase_X11_holds
theorem dX11_phase_0 : decode cX11_phase 0 = .ok (.aload_n 0, 1) := by decide +kernel
theorem dX11_phase_1 : decode cX11_phase 1 = .ok (.aload_n 0, 1) := by decide +kernel
theorem dX11_phase_2 : decode cX11_phase 2 = .ok (.getfield 99, 3) := by decide +kernel
theorem dX11_phase_5 : decode cX11_phase 5 = .ok (.ifCond .ne 7, 3) := by decide +kernel
theorem dX11_phase_8 : decode cX11_phase 8 = .ok (.iconst 1, 1) := by decide +kernel
theorem dX11_phase_9 : decode cX11_phase 9 = .ok (.goto 4, 3) := by decide +kernel
theorem dX11_phase_12 : decode cX11_phase 12 = .ok (.iconst 0, 1) := by decide +kernel
theorem dX11_phase_13 : decode cX11_phase 13 = .ok (.invokevirtual 48, 3) := by decide +kernel
theorem dX11_phase_16 : decode cX11_phase 16 = .ok (.ifCond .eq 20, 3) := by decide +kernel
theorem dX11_phase_19 : decode cX11_phase 19 = .ok (.aload_n 0, 1) := by decide +kernel
theorem dX11_phase_20 : decode cX11_phase 20 = .ok (.getfield 37, 3) := by decide +kernel
theorem dX11_phase_23 : decode cX11_phase 23 = .ok (.aload_n 0, 1) := by decide +kernel
theorem dX11_phase_24 : decode cX11_phase 24 = .ok (.getfield 99, 3) := by decide +kernel
theorem dX11_phase_27 : decode cX11_phase 27 = .ok (.iconst 1, 1) := by decide +kernel
theorem dX11_phase_28 : decode cX11_phase 28 = .ok (.isub, 1) := by decide +kernel
theorem dX11_phase_29 : decode cX11_phase 29 = .ok (.bipush 32, 2) := by decide +kernel
theorem dX11_phase_31 : decode cX11_phase 31 = .ok (.irem, 1) := by decide +kernel
theorem dX11_phase_32 : decode cX11_phase 32 = .ok (.iaload, 1) := by decide +kernel
theorem dX11_phase_33 : decode cX11_phase 33 = .ok (.goto 4, 3) := by decide +kernel
theorem dX11_phase_36 : decode cX11_phase 36 = .ok (.iconst 0, 1) := by decide +kernel
theorem dX11_phase_37 : decode cX11_phase 37 = .ok (.ireturn, 1) := by decide +kernel
theorem dX11_repeated_0 : decode cX11_repeated 0 = .ok (.aload_n 0, 1) := by decide +kernel
theorem dX11_repeated_1 : decode cX11_repeated 1 = .ok (.iconst 0, 1) := by decide +kernel
theorem dX11_repeated_2 : decode cX11_repeated 2 = .ok (.putfield 41, 3) := by decide +kernel
theorem dX11_repeated_5 : decode cX11_repeated 5 = .ok (.aload_n 0, 1) := by decide +kernel
theorem dX11_repeated_6 : decode cX11_repeated 6 = .ok (.getfield 124, 3) := by decide +kernel
theorem dX11_repeated_9 : decode cX11_repeated 9 = .ok (.ireturn, 1) := by decide +kernel
theorem dX11_skipped_0 : decode cX11_skipped 0 = .ok (.aload_n 0, 1) := by decide +kernel
theorem dX11_skipped_1 : decode cX11_skipped 1 = .ok (.iconst 0, 1) := by decide +kernel
theorem dX11_skipped_2 : decode cX11_skipped 2 = .ok (.putfield 41, 3) := by decide +kernel
theorem dX11_skipped_5 : decode cX11_skipped 5 = .ok (.aload_n 0, 1) := by decide +kernel
theorem dX11_skipped_6 : decode cX11_skipped 6 = .ok (.getfield 127, 3) := by decide +kernel
theorem dX11_skipped_9 : decode cX11_skipped 9 = .ok (.ireturn, 1) := by decide +kernel
set_option maxRecDepth 20000 in
theorem ggX11_isLocked_X11_in : GoodIn wsX11_isLocked wsX11_in := goodIn_r _ [8] (by decide +kernel) (by decide +kernel)
set_option maxRecDepth 20000 in
theorem gX11_isLocked_X11_in : GoodIn wsX11_isLocked (va_wsS RX11 44 yX11_in wsX11_in) := goodIn_app (goodIn_of _ (by decide +kernel)) ggX11_isLocked_X11_in
theorem dX11_isLocked_0 : decode cX11_isLocked 0 = .ok (.aload_n 0, 1) := by decide +kernel
theorem dX11_isLocked_1 : decode cX11_isLocked 1 = .ok (.iconst 0, 1) := by decide +kernel
theorem dX11_isLocked_2 : decode cX11_isLocked 2 = .ok (.putfield 41, 3) := by decide +kernel
theorem dX11_isLocked_5 : decode cX11_isLocked 5 = .ok (.aload_n 0, 1) := by decide +kernel
theorem dX11_isLocked_6 : decode cX11_isLocked 6 = .ok (.getfield 99, 3) := by decide +kernel
theorem dX11_isLocked_9 : decode cX11_isLocked 9 = .ok (.bipush 32, 2) := by decide +kernel
theorem dX11_isLocked_11 : decode cX11_isLocked 11 = .ok (.if_icmp .lt 14, 3) := by decide +kernel
theorem dX11_isLocked_14 : decode cX11_isLocked 14 = .ok (.aload_n 0, 1) := by decide +kernel
theorem dX11_isLocked_15 : decode cX11_isLocked 15 = .ok (.getfield 130, 3) := by decide +kernel
theorem dX11_isLocked_18 : decode cX11_isLocked 18 = .ok (.ifCond .ne 7, 3) := by decide +kernel
theorem dX11_isLocked_21 : decode cX11_isLocked 21 = .ok (.iconst 1, 1) := by decide +kernel
theorem dX11_isLocked_22 : decode cX11_isLocked 22 = .ok (.goto 4, 3) := by decide +kernel
theorem dX11_isLocked_25 : decode cX11_isLocked 25 = .ok (.iconst 0, 1) := by decide +kernel
theorem dX11_isLocked_26 : decode cX11_isLocked 26 = .ok (.istore_n 1, 1) := by decide +kernel
theorem dX11_isLocked_27 : decode cX11_isLocked 27 = .ok (.iconst 0, 1) := by decide +kernel
theorem dX11_isLocked_28 : decode cX11_isLocked 28 = .ok (.istore_n 2, 1) := by decide +kernel
theorem dX11_isLocked_29 : decode cX11_isLocked 29 = .ok (.iload_n 2, 1) := by decide +kernel
theorem dX11_isLocked_30 : decode cX11_isLocked 30 = .ok (.bipush 32, 2) := by decide +kernel
theorem dX11_isLocked_32 : decode cX11_isLocked 32 = .ok (.if_icmp .ge 37, 3) := by decide +kernel
theorem dX11_isLocked_35 : decode cX11_isLocked 35 = .ok (.iload_n 1, 1) := by decide +kernel
theorem dX11_isLocked_36 : decode cX11_isLocked 36 = .ok (.ifCond .eq 25, 3) := by decide +kernel
theorem dX11_isLocked_39 : decode cX11_isLocked 39 = .ok (.aload_n 0, 1) := by decide +kernel
theorem dX11_isLocked_40 : decode cX11_isLocked 40 = .ok (.getfield 37, 3) := by decide +kernel
theorem dX11_isLocked_43 : decode cX11_isLocked 43 = .ok (.iload_n 2, 1) := by decide +kernel
theorem dX11_isLocked_44 : decode cX11_isLocked 44 = .ok (.iaload, 1) := by decide +kernel
theorem dX11_isLocked_45 : decode cX11_isLocked 45 = .ok (.sipush (-16384), 3) := by decide +kernel
theorem dX11_isLocked_48 : decode cX11_isLocked 48 = .ok (.sipush 16383, 3) := by decide +kernel
theorem dX11_isLocked_51 : decode cX11_isLocked 51 = .ok (.invokestatic 44, 3) := by decide +kernel
theorem dX11_isLocked_54 : decode cX11_isLocked 54 = .ok (.ifCond .eq 7, 3) := by decide +kernel
theorem dX11_isLocked_57 : decode cX11_isLocked 57 = .ok (.iconst 1, 1) := by decide +kernel
theorem dX11_isLocked_58 : decode cX11_isLocked 58 = .ok (.goto 4, 3) := by decide +kernel
theorem dX11_isLocked_61 : decode cX11_isLocked 61 = .ok (.iconst 0, 1) := by decide +kernel
theorem dX11_isLocked_62 : decode cX11_isLocked 62 = .ok (.istore_n 1, 1) := by decide +kernel
theorem dX11_isLocked_63 : decode cX11_isLocked 63 = .ok (.iinc 2 1, 3) := by decide +kernel
theorem dX11_isLocked_66 : decode cX11_isLocked 66 = .ok (.goto (-37), 3) := by decide +kernel
theorem dX11_isLocked_69 : decode cX11_isLocked 69 = .ok (.iload_n 1, 1) := by decide +kernel
theorem dX11_isLocked_70 : decode cX11_isLocked 70 = .ok (.ireturn, 1) := by decide +kernel
set_option maxRecDepth 20000 in
theorem ggX11_wander_X11_recent : GoodIn wsX11_wander wsX11_recent := goodIn_r _ [7, 8, 12, 13, 14, 15, 16, 17, 18, 19, 20, 21, 22, 23, 24, 25, 26, 27, 28, 29, 30, 31, 32, 33, 34, 35, 36, 37, 38, 39, 40, 41, 42, 43, 44, 45, 46, 47, 48] (by decide +kernel) (by decide +kernel)
set_option maxRecDepth 20000 in
theorem gX11_wander_X11_recent : GoodIn wsX11_wander (wsV RX11 183 RX11 yX11_recent wsX11_recent) := goodIn_app (goodIn_of _ (by decide +kernel)) ggX11_wander_X11_recent
set_option maxRecDepth 20000 in
theorem ggX11_wander_X11_size : GoodIn wsX11_wander wsX11_size := goodIn_r _ [11] (by decide +kernel) (by decide +kernel)
set_option maxRecDepth 20000 in
theorem gX11_wander_X11_size : GoodIn wsX11_wander (va_wsS RX11 165 yX11_size wsX11_size) := goodIn_app (goodIn_of _ (by decide +kernel)) ggX11_wander_X11_size
theorem dX11_wander_0 : decode cX11_wander 0 = .ok (.aload_n 0, 1) := by decide +kernel
theorem dX11_wander_1 : decode cX11_wander 1 = .ok (.iconst 0, 1) := by decide +kernel
theorem dX11_wander_2 : decode cX11_wander 2 = .ok (.putfield 41, 3) := by decide +kernel
theorem dX11_wander_5 : decode cX11_wander 5 = .ok (.iconst 0, 1) := by decide +kernel
theorem dX11_wander_6 : decode cX11_wander 6 = .ok (.istore_n 1, 1) := by decide +kernel
theorem dX11_wander_7 : decode cX11_wander 7 = .ok (.iconst 0, 1) := by decide +kernel
theorem dX11_wander_8 : decode cX11_wander 8 = .ok (.istore_n 2, 1) := by decide +kernel
theorem dX11_wander_9 : decode cX11_wander 9 = .ok (.iload_n 2, 1) := by decide +kernel
theorem dX11_wander_10 : decode cX11_wander 10 = .ok (.aload_n 0, 1) := by decide +kernel
theorem dX11_wander_11 : decode cX11_wander 11 = .ok (.invokevirtual 183, 3) := by decide +kernel
theorem dX11_wander_14 : decode cX11_wander 14 = .ok (.if_icmp .ge 21, 3) := by decide +kernel
theorem dX11_wander_17 : decode cX11_wander 17 = .ok (.iload_n 1, 1) := by decide +kernel
theorem dX11_wander_18 : decode cX11_wander 18 = .ok (.aload_n 0, 1) := by decide +kernel
theorem dX11_wander_19 : decode cX11_wander 19 = .ok (.getfield 37, 3) := by decide +kernel
theorem dX11_wander_22 : decode cX11_wander 22 = .ok (.iload_n 2, 1) := by decide +kernel
theorem dX11_wander_23 : decode cX11_wander 23 = .ok (.iaload, 1) := by decide +kernel
theorem dX11_wander_24 : decode cX11_wander 24 = .ok (.invokestatic 165, 3) := by decide +kernel
theorem dX11_wander_27 : decode cX11_wander 27 = .ok (.iadd, 1) := by decide +kernel
theorem dX11_wander_28 : decode cX11_wander 28 = .ok (.istore_n 1, 1) := by decide +kernel
theorem dX11_wander_29 : decode cX11_wander 29 = .ok (.iinc 2 1, 3) := by decide +kernel
theorem dX11_wander_32 : decode cX11_wander 32 = .ok (.goto (-23), 3) := by decide +kernel
theorem dX11_wander_35 : decode cX11_wander 35 = .ok (.iload_n 1, 1) := by decide +kernel
theorem dX11_wander_36 : decode cX11_wander 36 = .ok (.ireturn, 1) := by decide +kernel
theorem dX11_alignment_0 : decode cX11_alignment 0 = .ok (.aload_n 0, 1) := by decide +kernel
theorem dX11_alignment_1 : decode cX11_alignment 1 = .ok (.iconst 0, 1) := by decide +kernel
theorem dX11_alignment_2 : decode cX11_alignment 2 = .ok (.putfield 41, 3) := by decide +kernel
theorem dX11_alignment_5 : decode cX11_alignment 5 = .ok (.aload_n 0, 1) := by decide +kernel
theorem dX11_alignment_6 : decode cX11_alignment 6 = .ok (.getfield 147, 3) := by decide +kernel
theorem dX11_alignment_9 : decode cX11_alignment 9 = .ok (.ireturn, 1) := by decide +kernel
theorem dX11_frames_0 : decode cX11_frames 0 = .ok (.aload_n 0, 1) := by decide +kernel
theorem dX11_frames_1 : decode cX11_frames 1 = .ok (.iconst 0, 1) := by decide +kernel
theorem dX11_frames_2 : decode cX11_frames 2 = .ok (.putfield 41, 3) := by decide +kernel
theorem dX11_frames_5 : decode cX11_frames 5 = .ok (.aload_n 0, 1) := by decide +kernel
theorem dX11_frames_6 : decode cX11_frames 6 = .ok (.getfield 156, 3) := by decide +kernel
theorem dX11_frames_9 : decode cX11_frames 9 = .ok (.ireturn, 1) := by decide +kernel
theorem dX11_losses_0 : decode cX11_losses 0 = .ok (.aload_n 0, 1) := by decide +kernel
theorem dX11_losses_1 : decode cX11_losses 1 = .ok (.iconst 0, 1) := by decide +kernel
theorem dX11_losses_2 : decode cX11_losses 2 = .ok (.putfield 41, 3) := by decide +kernel
theorem dX11_losses_5 : decode cX11_losses 5 = .ok (.aload_n 0, 1) := by decide +kernel
theorem dX11_losses_6 : decode cX11_losses 6 = .ok (.getfield 159, 3) := by decide +kernel
theorem dX11_losses_9 : decode cX11_losses 9 = .ok (.ireturn, 1) := by decide +kernel
theorem dX11_costOf_0 : decode cX11_costOf 0 = .ok (.iconst 0, 1) := by decide +kernel
theorem dX11_costOf_1 : decode cX11_costOf 1 = .ok (.istore_n 2, 1) := by decide +kernel
theorem dX11_costOf_2 : decode cX11_costOf 2 = .ok (.aload_n 0, 1) := by decide +kernel
theorem dX11_costOf_3 : decode cX11_costOf 3 = .ok (.getfield 93, 3) := by decide +kernel
theorem dX11_costOf_6 : decode cX11_costOf 6 = .ok (.istore_n 3, 1) := by decide +kernel
theorem dX11_costOf_7 : decode cX11_costOf 7 = .ok (.iload_n 3, 1) := by decide +kernel
theorem dX11_costOf_8 : decode cX11_costOf 8 = .ok (.ifCond .le 79, 3) := by decide +kernel
theorem dX11_costOf_11 : decode cX11_costOf 11 = .ok (.iload_n 3, 1) := by decide +kernel
theorem dX11_costOf_12 : decode cX11_costOf 12 = .ok (.aload_n 0, 1) := by decide +kernel
theorem dX11_costOf_13 : decode cX11_costOf 13 = .ok (.getfield 93, 3) := by decide +kernel
theorem dX11_costOf_16 : decode cX11_costOf 16 = .ok (.sipush 256, 3) := by decide +kernel
theorem dX11_costOf_19 : decode cX11_costOf 19 = .ok (.isub, 1) := by decide +kernel
theorem dX11_costOf_20 : decode cX11_costOf 20 = .ok (.if_icmp .le 67, 3) := by decide +kernel
theorem dX11_costOf_23 : decode cX11_costOf 23 = .ok (.iload_n 1, 1) := by decide +kernel
theorem dX11_costOf_24 : decode cX11_costOf 24 = .ok (.iload_n 3, 1) := by decide +kernel
theorem dX11_costOf_25 : decode cX11_costOf 25 = .ok (.bipush 16, 2) := by decide +kernel
theorem dX11_costOf_27 : decode cX11_costOf 27 = .ok (.irem, 1) := by decide +kernel
theorem dX11_costOf_28 : decode cX11_costOf 28 = .ok (.isub, 1) := by decide +kernel
theorem dX11_costOf_29 : decode cX11_costOf 29 = .ok (.bipush 16, 2) := by decide +kernel
theorem dX11_costOf_31 : decode cX11_costOf 31 = .ok (.iadd, 1) := by decide +kernel
theorem dX11_costOf_32 : decode cX11_costOf 32 = .ok (.bipush 16, 2) := by decide +kernel
theorem dX11_costOf_34 : decode cX11_costOf 34 = .ok (.irem, 1) := by decide +kernel
theorem dX11_costOf_35 : decode cX11_costOf 35 = .ok (.istore 4, 2) := by decide +kernel
theorem dX11_costOf_37 : decode cX11_costOf 37 = .ok (.iload 4, 2) := by decide +kernel
theorem dX11_costOf_39 : decode cX11_costOf 39 = .ok (.bipush 8, 2) := by decide +kernel
theorem dX11_costOf_41 : decode cX11_costOf 41 = .ok (.if_icmp .ge 8, 3) := by decide +kernel
