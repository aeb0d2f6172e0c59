theorem dL_areAlike_11 : decode cL_areAlike 11 = .ok (.aload_n 0, 1) := by decide +kernel
theorem dL_areAlike_12 : decode cL_areAlike 12 = .ok (.invokevirtual 68, 3) := by decide +kernel
theorem dL_areAlike_15 : decode cL_areAlike 15 = .ok (.aload_n 1, 1) := by decide +kernel
theorem dL_areAlike_16 : decode cL_areAlike 16 = .ok (.invokevirtual 68, 3) := by decide +kernel
theorem dL_areAlike_19 : decode cL_areAlike 19 = .ok (.if_icmp .ne 139, 3) := by decide +kernel
theorem dL_areAlike_22 : decode cL_areAlike 22 = .ok (.aload_n 0, 1) := by decide +kernel
theorem dL_areAlike_23 : decode cL_areAlike 23 = .ok (.invokevirtual 71, 3) := by decide +kernel
theorem dL_areAlike_26 : decode cL_areAlike 26 = .ok (.aload_n 1, 1) := by decide +kernel
theorem dL_areAlike_27 : decode cL_areAlike 27 = .ok (.invokevirtual 71, 3) := by decide +kernel
theorem dL_areAlike_30 : decode cL_areAlike 30 = .ok (.if_icmp .ne 128, 3) := by decide +kernel
theorem dL_areAlike_33 : decode cL_areAlike 33 = .ok (.aload_n 0, 1) := by decide +kernel
theorem dL_areAlike_34 : decode cL_areAlike 34 = .ok (.invokevirtual 74, 3) := by decide +kernel
theorem dL_areAlike_37 : decode cL_areAlike 37 = .ok (.aload_n 1, 1) := by decide +kernel
theorem dL_areAlike_38 : decode cL_areAlike 38 = .ok (.invokevirtual 74, 3) := by decide +kernel
theorem dL_areAlike_41 : decode cL_areAlike 41 = .ok (.if_icmp .ne 117, 3) := by decide +kernel
theorem dL_areAlike_44 : decode cL_areAlike 44 = .ok (.aload_n 0, 1) := by decide +kernel
theorem dL_areAlike_45 : decode cL_areAlike 45 = .ok (.invokevirtual 77, 3) := by decide +kernel
theorem dL_areAlike_48 : decode cL_areAlike 48 = .ok (.aload_n 1, 1) := by decide +kernel
theorem dL_areAlike_49 : decode cL_areAlike 49 = .ok (.invokevirtual 77, 3) := by decide +kernel
theorem dL_areAlike_52 : decode cL_areAlike 52 = .ok (.if_icmp .ne 106, 3) := by decide +kernel
theorem dL_areAlike_55 : decode cL_areAlike 55 = .ok (.aload_n 0, 1) := by decide +kernel
theorem dL_areAlike_56 : decode cL_areAlike 56 = .ok (.invokevirtual 80, 3) := by decide +kernel
theorem dL_areAlike_59 : decode cL_areAlike 59 = .ok (.aload_n 1, 1) := by decide +kernel
theorem dL_areAlike_60 : decode cL_areAlike 60 = .ok (.invokevirtual 80, 3) := by decide +kernel
theorem dL_areAlike_63 : decode cL_areAlike 63 = .ok (.if_icmp .ne 95, 3) := by decide +kernel
theorem dL_areAlike_66 : decode cL_areAlike 66 = .ok (.aload_n 0, 1) := by decide +kernel
theorem dL_areAlike_67 : decode cL_areAlike 67 = .ok (.invokevirtual 83, 3) := by decide +kernel
theorem dL_areAlike_70 : decode cL_areAlike 70 = .ok (.aload_n 1, 1) := by decide +kernel
theorem dL_areAlike_71 : decode cL_areAlike 71 = .ok (.invokevirtual 83, 3) := by decide +kernel
theorem dL_areAlike_74 : decode cL_areAlike 74 = .ok (.if_icmp .ne 84, 3) := by decide +kernel
theorem dL_areAlike_77 : decode cL_areAlike 77 = .ok (.aload_n 0, 1) := by decide +kernel
theorem dL_areAlike_78 : decode cL_areAlike 78 = .ok (.invokevirtual 86, 3) := by decide +kernel
theorem dL_areAlike_81 : decode cL_areAlike 81 = .ok (.aload_n 1, 1) := by decide +kernel
theorem dL_areAlike_82 : decode cL_areAlike 82 = .ok (.invokevirtual 86, 3) := by decide +kernel
theorem dL_areAlike_85 : decode cL_areAlike 85 = .ok (.if_icmp .ne 73, 3) := by decide +kernel
theorem dL_areAlike_88 : decode cL_areAlike 88 = .ok (.aload_n 0, 1) := by decide +kernel
theorem dL_areAlike_89 : decode cL_areAlike 89 = .ok (.invokevirtual 89, 3) := by decide +kernel
theorem dL_areAlike_92 : decode cL_areAlike 92 = .ok (.aload_n 1, 1) := by decide +kernel
theorem dL_areAlike_93 : decode cL_areAlike 93 = .ok (.invokevirtual 89, 3) := by decide +kernel
theorem dL_areAlike_96 : decode cL_areAlike 96 = .ok (.if_icmp .ne 62, 3) := by decide +kernel
theorem dL_areAlike_99 : decode cL_areAlike 99 = .ok (.aload_n 0, 1) := by decide +kernel
theorem dL_areAlike_100 : decode cL_areAlike 100 = .ok (.invokevirtual 92, 3) := by decide +kernel
theorem dL_areAlike_103 : decode cL_areAlike 103 = .ok (.aload_n 1, 1) := by decide +kernel
theorem dL_areAlike_104 : decode cL_areAlike 104 = .ok (.invokevirtual 92, 3) := by decide +kernel
theorem dL_areAlike_107 : decode cL_areAlike 107 = .ok (.if_icmp .ne 51, 3) := by decide +kernel
theorem dL_areAlike_110 : decode cL_areAlike 110 = .ok (.aload_n 0, 1) := by decide +kernel
theorem dL_areAlike_111 : decode cL_areAlike 111 = .ok (.invokevirtual 95, 3) := by decide +kernel
theorem dL_areAlike_114 : decode cL_areAlike 114 = .ok (.aload_n 1, 1) := by decide +kernel
theorem dL_areAlike_115 : decode cL_areAlike 115 = .ok (.invokevirtual 95, 3) := by decide +kernel
theorem dL_areAlike_118 : decode cL_areAlike 118 = .ok (.if_icmp .ne 40, 3) := by decide +kernel
theorem dL_areAlike_121 : decode cL_areAlike 121 = .ok (.aload_n 0, 1) := by decide +kernel
theorem dL_areAlike_122 : decode cL_areAlike 122 = .ok (.invokevirtual 98, 3) := by decide +kernel
theorem dL_areAlike_125 : decode cL_areAlike 125 = .ok (.aload_n 1, 1) := by decide +kernel
theorem dL_areAlike_126 : decode cL_areAlike 126 = .ok (.invokevirtual 98, 3) := by decide +kernel
theorem dL_areAlike_129 : decode cL_areAlike 129 = .ok (.if_icmp .ne 29, 3) := by decide +kernel
theorem dL_areAlike_132 : decode cL_areAlike 132 = .ok (.aload_n 0, 1) := by decide +kernel
theorem dL_areAlike_133 : decode cL_areAlike 133 = .ok (.invokevirtual 101, 3) := by decide +kernel
theorem dL_areAlike_136 : decode cL_areAlike 136 = .ok (.aload_n 1, 1) := by decide +kernel
theorem dL_areAlike_137 : decode cL_areAlike 137 = .ok (.invokevirtual 101, 3) := by decide +kernel
theorem dL_areAlike_140 : decode cL_areAlike 140 = .ok (.if_icmp .ne 18, 3) := by decide +kernel
theorem dL_areAlike_143 : decode cL_areAlike 143 = .ok (.aload_n 0, 1) := by decide +kernel
theorem dL_areAlike_144 : decode cL_areAlike 144 = .ok (.invokevirtual 104, 3) := by decide +kernel
theorem dL_areAlike_147 : decode cL_areAlike 147 = .ok (.aload_n 1, 1) := by decide +kernel
theorem dL_areAlike_148 : decode cL_areAlike 148 = .ok (.invokevirtual 104, 3) := by decide +kernel
theorem dL_areAlike_151 : decode cL_areAlike 151 = .ok (.if_icmp .ne 7, 3) := by decide +kernel
theorem dL_areAlike_154 : decode cL_areAlike 154 = .ok (.iconst 1, 1) := by decide +kernel
theorem dL_areAlike_155 : decode cL_areAlike 155 = .ok (.goto 4, 3) := by decide +kernel
theorem dL_areAlike_158 : decode cL_areAlike 158 = .ok (.iconst 0, 1) := by decide +kernel
theorem dL_areAlike_159 : decode cL_areAlike 159 = .ok (.istore_n 2, 1) := by decide +kernel
theorem dL_areAlike_160 : decode cL_areAlike 160 = .ok (.iconst 1, 1) := by decide +kernel
theorem dL_areAlike_161 : decode cL_areAlike 161 = .ok (.istore_n 3, 1) := by decide +kernel
theorem dL_areAlike_162 : decode cL_areAlike 162 = .ok (.iload_n 3, 1) := by decide +kernel
theorem dL_areAlike_163 : decode cL_areAlike 163 = .ok (.bipush 33, 2) := by decide +kernel
theorem dL_areAlike_165 : decode cL_areAlike 165 = .ok (.if_icmp .ge 32, 3) := by decide +kernel
theorem dL_areAlike_168 : decode cL_areAlike 168 = .ok (.iload_n 2, 1) := by decide +kernel
theorem dL_areAlike_169 : decode cL_areAlike 169 = .ok (.ifCond .eq 28, 3) := by decide +kernel
theorem dL_areAlike_172 : decode cL_areAlike 172 = .ok (.aload_n 0, 1) := by decide +kernel
theorem dL_areAlike_173 : decode cL_areAlike 173 = .ok (.iload_n 3, 1) := by decide +kernel
theorem dL_areAlike_174 : decode cL_areAlike 174 = .ok (.invokestatic 107, 3) := by decide +kernel
theorem dL_areAlike_177 : decode cL_areAlike 177 = .ok (.aload_n 1, 1) := by decide +kernel
theorem dL_areAlike_178 : decode cL_areAlike 178 = .ok (.iload_n 3, 1) := by decide +kernel
theorem dL_areAlike_179 : decode cL_areAlike 179 = .ok (.invokestatic 107, 3) := by decide +kernel
theorem dL_areAlike_182 : decode cL_areAlike 182 = .ok (.if_icmp .ne 7, 3) := by decide +kernel
theorem dL_areAlike_185 : decode cL_areAlike 185 = .ok (.iconst 1, 1) := by decide +kernel
theorem dL_areAlike_186 : decode cL_areAlike 186 = .ok (.goto 4, 3) := by decide +kernel
theorem dL_areAlike_189 : decode cL_areAlike 189 = .ok (.iconst 0, 1) := by decide +kernel
theorem dL_areAlike_190 : decode cL_areAlike 190 = .ok (.istore_n 2, 1) := by decide +kernel
theorem dL_areAlike_191 : decode cL_areAlike 191 = .ok (.iinc 3 1, 3) := by decide +kernel
theorem dL_areAlike_194 : decode cL_areAlike 194 = .ok (.goto (-32), 3) := by decide +kernel
theorem dL_areAlike_197 : decode cL_areAlike 197 = .ok (.iload_n 2, 1) := by decide +kernel
theorem dL_areAlike_198 : decode cL_areAlike 198 = .ok (.ifCond .eq 31, 3) := by decide +kernel
theorem dL_areAlike_201 : decode cL_areAlike 201 = .ok (.aload_n 0, 1) := by decide +kernel
theorem dL_areAlike_202 : decode cL_areAlike 202 = .ok (.iconst 3, 1) := by decide +kernel
theorem dL_areAlike_203 : decode cL_areAlike 203 = .ok (.invokevirtual 110, 3) := by decide +kernel
theorem dL_areAlike_206 : decode cL_areAlike 206 = .ok (.aload_n 1, 1) := by decide +kernel
theorem dL_areAlike_207 : decode cL_areAlike 207 = .ok (.iconst 3, 1) := by decide +kernel
theorem dL_areAlike_208 : decode cL_areAlike 208 = .ok (.invokevirtual 110, 3) := by decide +kernel
theorem dL_areAlike_211 : decode cL_areAlike 211 = .ok (.if_icmp .ne 18, 3) := by decide +kernel
theorem dL_areAlike_214 : decode cL_areAlike 214 = .ok (.aload_n 0, 1) := by decide +kernel
theorem dL_areAlike_215 : decode cL_areAlike 215 = .ok (.invokestatic 113, 3) := by decide +kernel
theorem dL_areAlike_218 : decode cL_areAlike 218 = .ok (.aload_n 1, 1) := by decide +kernel
theorem dL_areAlike_219 : decode cL_areAlike 219 = .ok (.invokestatic 113, 3) := by decide +kernel
theorem dL_areAlike_222 : decode cL_areAlike 222 = .ok (.if_icmp .ne 7, 3) := by decide +kernel
theorem dL_areAlike_225 : decode cL_areAlike 225 = .ok (.iconst 1, 1) := by decide +kernel
theorem dL_areAlike_226 : decode cL_areAlike 226 = .ok (.goto 4, 3) := by decide +kernel
theorem dL_areAlike_229 : decode cL_areAlike 229 = .ok (.iconst 0, 1) := by decide +kernel
theorem dL_areAlike_230 : decode cL_areAlike 230 = .ok (.ireturn, 1) := by decide +kernel
set_option maxRecDepth 20000 in
theorem ggL_isLineSo_X10_line : GoodIn wsL_isLineSo wsX10_line := goodIn_r _ [8, 9, 10, 67, 68, 69, 70, 71, 72, 73, 74, 75, 76, 77, 78, 79, 80, 81, 82, 83] (by decide +kernel) (by decide +kernel)
set_option maxRecDepth 20000 in
theorem gL_isLineSo_X10_line : GoodIn wsL_isLineSo (wsV RL 116 RX10 yX10_line wsX10_line) := goodIn_app (goodIn_of _ (by decide +kernel)) ggL_isLineSo_X10_line
set_option maxRecDepth 20000 in
theorem ggL_isLineSo_X10_level : GoodIn wsL_isLineSo wsX10_level := goodIn_r _ [14, 15, 16, 17, 18, 19, 20, 21, 22, 23, 24, 25, 26, 27, 28, 67, 68, 69, 70, 71, 72, 73, 74, 75, 76, 84] (by decide +kernel) (by decide +kernel)
set_option maxRecDepth 20000 in
theorem gL_isLineSo_X10_level : GoodIn wsL_isLineSo (wsV RL 119 RX10 yX10_level wsX10_level) := goodIn_app (goodIn_of _ (by decide +kernel)) ggL_isLineSo_X10_level
set_option maxRecDepth 20000 in
theorem ggL_isLineSo_X10_sender : GoodIn wsL_isLineSo wsX10_sender := goodIn_r _ [32, 9, 33, 67, 68, 69, 70, 71, 72, 73, 74, 75, 76, 77, 78, 79, 80, 81, 82, 83] (by decide +kernel) (by decide +kernel)
set_option maxRecDepth 20000 in
theorem gL_isLineSo_X10_sender : GoodIn wsL_isLineSo (wsV RL 71 RX10 yX10_sender wsX10_sender) := goodIn_app (goodIn_of _ (by decide +kernel)) ggL_isLineSo_X10_sender
set_option maxRecDepth 20000 in
theorem ggL_isLineSo_X10_receiver : GoodIn wsL_isLineSo wsX10_receiver := goodIn_r _ [37, 38, 39, 67, 68, 69, 70, 71, 72, 73, 74, 75, 76, 85] (by decide +kernel) (by decide +kernel)
set_option maxRecDepth 20000 in
theorem gL_isLineSo_X10_receiver : GoodIn wsL_isLineSo (wsV RL 74 RX10 yX10_receiver wsX10_receiver) := goodIn_app (goodIn_of _ (by decide +kernel)) ggL_isLineSo_X10_receiver
set_option maxRecDepth 20000 in
theorem ggL_isLineSo_X10_integral : GoodIn wsL_isLineSo wsX10_integral := goodIn_r _ [43, 44, 45, 67, 68, 69, 70, 71, 72, 73, 74, 75, 76, 86, 87, 88, 89, 90] (by decide +kernel) (by decide +kernel)
set_option maxRecDepth 20000 in
theorem gL_isLineSo_X10_integral : GoodIn wsL_isLineSo (wsV RL 80 RX10 yX10_integral wsX10_integral) := goodIn_app (goodIn_of _ (by decide +kernel)) ggL_isLineSo_X10_integral
set_option maxRecDepth 20000 in
theorem ggL_isLineSo_X10_control : GoodIn wsL_isLineSo wsX10_control := goodIn_r _ [49, 44, 50, 67, 68, 69, 70, 71, 72, 73, 74, 75, 76, 86, 87, 88, 89, 90] (by decide +kernel) (by decide +kernel)
set_option maxRecDepth 20000 in
theorem gL_isLineSo_X10_control : GoodIn wsL_isLineSo (wsV RL 83 RX10 yX10_control wsX10_control) := goodIn_app (goodIn_of _ (by decide +kernel)) ggL_isLineSo_X10_control
set_option maxRecDepth 20000 in
theorem ggL_isLineSo_X10_error : GoodIn wsL_isLineSo wsX10_error := goodIn_r _ [54, 44, 55, 67, 68, 69, 70, 71, 72, 73, 74, 75, 76, 86, 87, 88, 89, 90] (by decide +kernel) (by decide +kernel)
set_option maxRecDepth 20000 in
theorem gL_isLineSo_X10_error : GoodIn wsL_isLineSo (wsV RL 77 RX10 yX10_error wsX10_error) := goodIn_app (goodIn_of _ (by decide +kernel)) ggL_isLineSo_X10_error
set_option maxRecDepth 20000 in
theorem ggL_isLineSo_X10_ticks : GoodIn wsL_isLineSo wsX10_ticks := goodIn_r _ [59, 60, 61, 67, 68, 69, 70, 71, 72, 73, 74, 75, 76, 91, 92] (by decide +kernel) (by decide +kernel)
set_option maxRecDepth 20000 in
theorem gL_isLineSo_X10_ticks : GoodIn wsL_isLineSo (wsV RL 65 RX10 yX10_ticks wsX10_ticks) := goodIn_app (goodIn_of _ (by decide +kernel)) ggL_isLineSo_X10_ticks
set_option maxRecDepth 20000 in
theorem ggL_isLineSo_X10_sent : GoodIn wsL_isLineSo wsX10_sent := goodIn_r _ [65, 9, 66, 67, 68, 69, 70, 71, 72, 73, 74, 75, 76, 77, 78, 79, 80, 81, 82, 83] (by decide +kernel) (by decide +kernel)
set_option maxRecDepth 20000 in
theorem gL_isLineSo_X10_sent : GoodIn wsL_isLineSo (wsV RL 68 RX10 yX10_sent wsX10_sent) := goodIn_app (goodIn_of _ (by decide +kernel)) ggL_isLineSo_X10_sent
theorem dL_isLineSo_0 : decode cL_isLineSo 0 = .ok (.aload_n 0, 1) := by decide +kernel
theorem dL_isLineSo_1 : decode cL_isLineSo 1 = .ok (.invokevirtual 116, 3) := by decide +kernel
theorem dL_isLineSo_4 : decode cL_isLineSo 4 = .ok (.ifCond .lt 141, 3) := by decide +kernel
theorem dL_isLineSo_7 : decode cL_isLineSo 7 = .ok (.aload_n 0, 1) := by decide +kernel
theorem dL_isLineSo_8 : decode cL_isLineSo 8 = .ok (.invokevirtual 116, 3) := by decide +kernel
theorem dL_isLineSo_11 : decode cL_isLineSo 11 = .ok (.iconst 2, 1) := by decide +kernel
theorem dL_isLineSo_12 : decode cL_isLineSo 12 = .ok (.if_icmp .ge 133, 3) := by decide +kernel
theorem dL_isLineSo_15 : decode cL_isLineSo 15 = .ok (.aload_n 0, 1) := by decide +kernel
theorem dL_isLineSo_16 : decode cL_isLineSo 16 = .ok (.invokevirtual 119, 3) := by decide +kernel
theorem dL_isLineSo_19 : decode cL_isLineSo 19 = .ok (.iconst 2, 1) := by decide +kernel
theorem dL_isLineSo_20 : decode cL_isLineSo 20 = .ok (.irem, 1) := by decide +kernel
theorem dL_isLineSo_21 : decode cL_isLineSo 21 = .ok (.ifCond .ne 124, 3) := by decide +kernel
theorem dL_isLineSo_24 : decode cL_isLineSo 24 = .ok (.aload_n 0, 1) := by decide +kernel
theorem dL_isLineSo_25 : decode cL_isLineSo 25 = .ok (.invokevirtual 119, 3) := by decide +kernel
theorem dL_isLineSo_28 : decode cL_isLineSo 28 = .ok (.bipush (-8), 2) := by decide +kernel
theorem dL_isLineSo_30 : decode cL_isLineSo 30 = .ok (.if_icmp .lt 115, 3) := by decide +kernel
theorem dL_isLineSo_33 : decode cL_isLineSo 33 = .ok (.aload_n 0, 1) := by decide +kernel
theorem dL_isLineSo_34 : decode cL_isLineSo 34 = .ok (.invokevirtual 119, 3) := by decide +kernel
theorem dL_isLineSo_37 : decode cL_isLineSo 37 = .ok (.bipush 8, 2) := by decide +kernel
theorem dL_isLineSo_39 : decode cL_isLineSo 39 = .ok (.if_icmp .gt 106, 3) := by decide +kernel
theorem dL_isLineSo_42 : decode cL_isLineSo 42 = .ok (.aload_n 0, 1) := by decide +kernel
theorem dL_isLineSo_43 : decode cL_isLineSo 43 = .ok (.invokevirtual 71, 3) := by decide +kernel
theorem dL_isLineSo_46 : decode cL_isLineSo 46 = .ok (.ifCond .lt 99, 3) := by decide +kernel
theorem dL_isLineSo_49 : decode cL_isLineSo 49 = .ok (.aload_n 0, 1) := by decide +kernel
theorem dL_isLineSo_50 : decode cL_isLineSo 50 = .ok (.invokevirtual 71, 3) := by decide +kernel
theorem dL_isLineSo_53 : decode cL_isLineSo 53 = .ok (.ldc 61, 2) := by decide +kernel
theorem dL_isLineSo_55 : decode cL_isLineSo 55 = .ok (.if_icmp .ge 90, 3) := by decide +kernel
theorem dL_isLineSo_58 : decode cL_isLineSo 58 = .ok (.aload_n 0, 1) := by decide +kernel
theorem dL_isLineSo_59 : decode cL_isLineSo 59 = .ok (.invokevirtual 74, 3) := by decide +kernel
theorem dL_isLineSo_62 : decode cL_isLineSo 62 = .ok (.ifCond .lt 83, 3) := by decide +kernel
theorem dL_isLineSo_65 : decode cL_isLineSo 65 = .ok (.aload_n 0, 1) := by decide +kernel
theorem dL_isLineSo_66 : decode cL_isLineSo 66 = .ok (.invokevirtual 74, 3) := by decide +kernel
theorem dL_isLineSo_69 : decode cL_isLineSo 69 = .ok (.ldc 61, 2) := by decide +kernel
theorem dL_isLineSo_71 : decode cL_isLineSo 71 = .ok (.if_icmp .ge 74, 3) := by decide +kernel
theorem dL_isLineSo_74 : decode cL_isLineSo 74 = .ok (.aload_n 0, 1) := by decide +kernel
theorem dL_isLineSo_75 : decode cL_isLineSo 75 = .ok (.invokevirtual 80, 3) := by decide +kernel
theorem dL_isLineSo_78 : decode cL_isLineSo 78 = .ok (.ldc 122, 2) := by decide +kernel
theorem dL_isLineSo_80 : decode cL_isLineSo 80 = .ok (.if_icmp .lt 65, 3) := by decide +kernel
theorem dL_isLineSo_83 : decode cL_isLineSo 83 = .ok (.aload_n 0, 1) := by decide +kernel
theorem dL_isLineSo_84 : decode cL_isLineSo 84 = .ok (.invokevirtual 80, 3) := by decide +kernel
theorem dL_isLineSo_87 : decode cL_isLineSo 87 = .ok (.ldc 123, 2) := by decide +kernel
theorem dL_isLineSo_89 : decode cL_isLineSo 89 = .ok (.if_icmp .gt 56, 3) := by decide +kernel
theorem dL_isLineSo_92 : decode cL_isLineSo 92 = .ok (.aload_n 0, 1) := by decide +kernel
theorem dL_isLineSo_93 : decode cL_isLineSo 93 = .ok (.invokevirtual 83, 3) := by decide +kernel
theorem dL_isLineSo_96 : decode cL_isLineSo 96 = .ok (.sipush (-1024), 3) := by decide +kernel
theorem dL_isLineSo_99 : decode cL_isLineSo 99 = .ok (.if_icmp .lt 46, 3) := by decide +kernel
theorem dL_isLineSo_102 : decode cL_isLineSo 102 = .ok (.aload_n 0, 1) := by decide +kernel
theorem dL_isLineSo_103 : decode cL_isLineSo 103 = .ok (.invokevirtual 83, 3) := by decide +kernel
theorem dL_isLineSo_106 : decode cL_isLineSo 106 = .ok (.sipush 1024, 3) := by decide +kernel
theorem dL_isLineSo_109 : decode cL_isLineSo 109 = .ok (.if_icmp .gt 36, 3) := by decide +kernel
theorem dL_isLineSo_112 : decode cL_isLineSo 112 = .ok (.aload_n 0, 1) := by decide +kernel
theorem dL_isLineSo_113 : decode cL_isLineSo 113 = .ok (.invokevirtual 77, 3) := by decide +kernel
theorem dL_isLineSo_116 : decode cL_isLineSo 116 = .ok (.bipush (-128), 2) := by decide +kernel
theorem dL_isLineSo_118 : decode cL_isLineSo 118 = .ok (.aload_n 0, 1) := by decide +kernel
theorem dL_isLineSo_119 : decode cL_isLineSo 119 = .ok (.invokevirtual 65, 3) := by decide +kernel
theorem dL_isLineSo_122 : decode cL_isLineSo 122 = .ok (.isub, 1) := by decide +kernel
theorem dL_isLineSo_123 : decode cL_isLineSo 123 = .ok (.if_icmp .lt 22, 3) := by decide +kernel
theorem dL_isLineSo_126 : decode cL_isLineSo 126 = .ok (.aload_n 0, 1) := by decide +kernel
theorem dL_isLineSo_127 : decode cL_isLineSo 127 = .ok (.invokevirtual 77, 3) := by decide +kernel
theorem dL_isLineSo_130 : decode cL_isLineSo 130 = .ok (.sipush 128, 3) := by decide +kernel
theorem dL_isLineSo_133 : decode cL_isLineSo 133 = .ok (.aload_n 0, 1) := by decide +kernel
theorem dL_isLineSo_134 : decode cL_isLineSo 134 = .ok (.invokevirtual 65, 3) := by decide +kernel
theorem dL_isLineSo_137 : decode cL_isLineSo 137 = .ok (.iadd, 1) := by decide +kernel
theorem dL_isLineSo_138 : decode cL_isLineSo 138 = .ok (.if_icmp .gt 7, 3) := by decide +kernel
theorem dL_isLineSo_141 : decode cL_isLineSo 141 = .ok (.iconst 1, 1) := by decide +kernel
theorem dL_isLineSo_142 : decode cL_isLineSo 142 = .ok (.goto 4, 3) := by decide +kernel
theorem dL_isLineSo_145 : decode cL_isLineSo 145 = .ok (.iconst 0, 1) := by decide +kernel
theorem dL_isLineSo_146 : decode cL_isLineSo 146 = .ok (.istore_n 1, 1) := by decide +kernel
theorem dL_isLineSo_147 : decode cL_isLineSo 147 = .ok (.iload_n 1, 1) := by decide +kernel
theorem dL_isLineSo_148 : decode cL_isLineSo 148 = .ok (.ifCond .eq 58, 3) := by decide +kernel
theorem dL_isLineSo_151 : decode cL_isLineSo 151 = .ok (.aload_n 0, 1) := by decide +kernel
theorem dL_isLineSo_152 : decode cL_isLineSo 152 = .ok (.invokevirtual 68, 3) := by decide +kernel
theorem dL_isLineSo_155 : decode cL_isLineSo 155 = .ok (.ifCond .lt 51, 3) := by decide +kernel
theorem dL_isLineSo_158 : decode cL_isLineSo 158 = .ok (.aload_n 0, 1) := by decide +kernel
theorem dL_isLineSo_159 : decode cL_isLineSo 159 = .ok (.invokevirtual 68, 3) := by decide +kernel
theorem dL_isLineSo_162 : decode cL_isLineSo 162 = .ok (.aload_n 0, 1) := by decide +kernel
theorem dL_isLineSo_163 : decode cL_isLineSo 163 = .ok (.invokevirtual 65, 3) := by decide +kernel
theorem dL_isLineSo_166 : decode cL_isLineSo 166 = .ok (.if_icmp .gt 40, 3) := by decide +kernel
theorem dL_isLineSo_169 : decode cL_isLineSo 169 = .ok (.aload_n 0, 1) := by decide +kernel
theorem dL_isLineSo_170 : decode cL_isLineSo 170 = .ok (.invokevirtual 119, 3) := by decide +kernel
theorem dL_isLineSo_173 : decode cL_isLineSo 173 = .ok (.bipush 8, 2) := by decide +kernel
theorem dL_isLineSo_175 : decode cL_isLineSo 175 = .ok (.if_icmp .lt 11, 3) := by decide +kernel
theorem dL_isLineSo_178 : decode cL_isLineSo 178 = .ok (.aload_n 0, 1) := by decide +kernel
theorem dL_isLineSo_179 : decode cL_isLineSo 179 = .ok (.invokevirtual 116, 3) := by decide +kernel
theorem dL_isLineSo_182 : decode cL_isLineSo 182 = .ok (.iconst 1, 1) := by decide +kernel
theorem dL_isLineSo_183 : decode cL_isLineSo 183 = .ok (.if_icmp .ne 23, 3) := by decide +kernel
theorem dL_isLineSo_186 : decode cL_isLineSo 186 = .ok (.aload_n 0, 1) := by decide +kernel
theorem dL_isLineSo_187 : decode cL_isLineSo 187 = .ok (.invokevirtual 119, 3) := by decide +kernel
theorem dL_isLineSo_190 : decode cL_isLineSo 190 = .ok (.bipush (-8), 2) := by decide +kernel
theorem dL_isLineSo_192 : decode cL_isLineSo 192 = .ok (.if_icmp .gt 10, 3) := by decide +kernel
theorem dL_isLineSo_195 : decode cL_isLineSo 195 = .ok (.aload_n 0, 1) := by decide +kernel
theorem dL_isLineSo_196 : decode cL_isLineSo 196 = .ok (.invokevirtual 116, 3) := by decide +kernel
theorem dL_isLineSo_199 : decode cL_isLineSo 199 = .ok (.ifCond .ne 7, 3) := by decide +kernel
theorem dL_isLineSo_202 : decode cL_isLineSo 202 = .ok (.iconst 1, 1) := by decide +kernel
theorem dL_isLineSo_203 : decode cL_isLineSo 203 = .ok (.goto 4, 3) := by decide +kernel
theorem dL_isLineSo_206 : decode cL_isLineSo 206 = .ok (.iconst 0, 1) := by decide +kernel
theorem dL_isLineSo_207 : decode cL_isLineSo 207 = .ok (.ireturn, 1) := by decide +kernel
set_option maxRecDepth 20000 in
theorem ggL_areBitsSo_X10_received : GoodIn wsL_areBitsSo wsX10_received := goodIn_r _ [8, 9, 10, 113, 114, 115, 116, 117, 118, 119, 120, 121, 122, 123, 124] (by decide +kernel) (by decide +kernel)
set_option maxRecDepth 20000 in
theorem gL_areBitsSo_X10_received : GoodIn wsL_areBitsSo (wsV RL 86 RX10 yX10_received wsX10_received) := goodIn_app (goodIn_of _ (by decide +kernel)) ggL_areBitsSo_X10_received
set_option maxRecDepth 20000 in
theorem ggL_areBitsSo_X10_ticks : GoodIn wsL_areBitsSo wsX10_ticks := goodIn_r _ [14, 15, 16, 113, 114, 115, 116, 117, 118, 119, 120, 121, 122, 125, 126] (by decide +kernel) (by decide +kernel)
set_option maxRecDepth 20000 in
theorem gL_areBitsSo_X10_ticks : GoodIn wsL_areBitsSo (wsV RL 65 RX10 yX10_ticks wsX10_ticks) := goodIn_app (goodIn_of _ (by decide +kernel)) ggL_areBitsSo_X10_ticks
set_option maxRecDepth 20000 in
theorem ggL_areBitsSo_X10_repeated : GoodIn wsL_areBitsSo wsX10_repeated := goodIn_r _ [20, 21, 22, 113, 114, 115, 116, 117, 118, 119, 120, 121, 122, 127, 128, 129, 130] (by decide +kernel) (by decide +kernel)
set_option maxRecDepth 20000 in
theorem gL_areBitsSo_X10_repeated : GoodIn wsL_areBitsSo (wsV RL 89 RX10 yX10_repeated wsX10_repeated) := goodIn_app (goodIn_of _ (by decide +kernel)) ggL_areBitsSo_X10_repeated
set_option maxRecDepth 20000 in
theorem ggL_areBitsSo_X10_skipped : GoodIn wsL_areBitsSo wsX10_skipped := goodIn_r _ [26, 21, 27, 113, 114, 115, 116, 117, 118, 119, 120, 121, 122, 127, 128, 129, 130] (by decide +kernel) (by decide +kernel)
set_option maxRecDepth 20000 in
theorem gL_areBitsSo_X10_skipped : GoodIn wsL_areBitsSo (wsV RL 92 RX10 yX10_skipped wsX10_skipped) := goodIn_app (goodIn_of _ (by decide +kernel)) ggL_areBitsSo_X10_skipped
set_option maxRecDepth 20000 in
theorem ggL_areBitsSo_X10_sent : GoodIn wsL_areBitsSo wsX10_sent := goodIn_r _ [31, 32, 33, 113, 114, 115, 116, 117, 118, 119, 120, 121, 122, 131, 132, 133, 134, 135, 136, 137] (by decide +kernel) (by decide +kernel)
set_option maxRecDepth 20000 in
theorem gL_areBitsSo_X10_sent : GoodIn wsL_areBitsSo (wsV RL 68 RX10 yX10_sent wsX10_sent) := goodIn_app (goodIn_of _ (by decide +kernel)) ggL_areBitsSo_X10_sent
set_option maxRecDepth 20000 in
theorem ggL_areBitsSo_L_phase : GoodIn wsL_areBitsSo wsL_phase := goodIn_ca (goodIn_r _ [37, 38, 1, 39, 40, 41, 7, 42, 43, 44, 45, 46, 47, 113, 114, 115, 116, 117, 118, 119, 120, 121, 122, 138, 139, 140, 141] (by decide +kernel) (by decide +kernel)) (goodIn_sub (fun _ h => List.mem_cons_of_mem _ (List.mem_append_left _ (List.mem_append_right _ h))) (by decide +kernel))
set_option maxRecDepth 20000 in
theorem gL_areBitsSo_L_phase : GoodIn wsL_areBitsSo (va_wsS RL 113 yL_phase wsL_phase) := goodIn_app (goodIn_of _ (by decide +kernel)) ggL_areBitsSo_L_phase
set_option maxRecDepth 20000 in
theorem ggL_areBitsSo_X10_wander : GoodIn wsL_areBitsSo wsX10_wander := goodIn_r _ [51, 45, 52, 53, 54, 55, 56, 57, 58, 59, 60, 61, 113, 114, 115, 116, 117, 118, 119, 120, 121, 122, 138, 139, 140, 141] (by decide +kernel) (by decide +kernel)
set_option maxRecDepth 20000 in
theorem gL_areBitsSo_X10_wander : GoodIn wsL_areBitsSo (wsV RL 95 RX10 yX10_wander wsX10_wander) := goodIn_app (goodIn_of _ (by decide +kernel)) ggL_areBitsSo_X10_wander
set_option maxRecDepth 20000 in
theorem ggL_areBitsSo_L_bit : GoodIn wsL_areBitsSo wsL_bit := goodIn_ca (goodIn_r _ [64, 65, 1, 66, 67, 68, 7, 69, 70, 71, 9, 72, 73, 74, 75, 76, 77, 78, 79, 60, 80, 81, 82, 83, 84, 85, 86, 87, 113, 114, 115, 116, 117, 118, 119, 120, 121, 122, 123, 124] (by decide +kernel) (by decide +kernel)) (goodIn_sub (fun _ h => List.mem_cons_of_mem _ (List.mem_append_right _ h)) (by decide +kernel))
set_option maxRecDepth 20000 in
theorem gL_areBitsSo_L_bit : GoodIn wsL_areBitsSo (va_wsS RL 107 yL_bit wsL_bit) := goodIn_app (goodIn_of _ (by decide +kernel)) ggL_areBitsSo_L_bit
set_option maxRecDepth 20000 in
theorem ggL_areBitsSo_X10_isLocked : GoodIn wsL_areBitsSo wsX10_isLocked := goodIn_r _ [91, 45, 92, 93, 94, 55, 95, 96, 113, 114, 115, 116, 117, 118, 119, 120, 121, 122, 138, 139, 140, 141] (by decide +kernel) (by decide +kernel)
set_option maxRecDepth 20000 in
theorem gL_areBitsSo_X10_isLocked : GoodIn wsL_areBitsSo (wsV RL 125 RX10 yX10_isLocked wsX10_isLocked) := goodIn_app (goodIn_of _ (by decide +kernel)) ggL_areBitsSo_X10_isLocked
set_option maxRecDepth 20000 in
theorem ggL_areBitsSo_X10_alignment : GoodIn wsL_areBitsSo wsX10_alignment := goodIn_r _ [100, 101, 102, 113, 114, 115, 116, 117, 118, 119, 120, 121, 122, 142, 143, 144, 145, 146, 147] (by decide +kernel) (by decide +kernel)
set_option maxRecDepth 20000 in
theorem gL_areBitsSo_X10_alignment : GoodIn wsL_areBitsSo (wsV RL 98 RX10 yX10_alignment wsX10_alignment) := goodIn_app (goodIn_of _ (by decide +kernel)) ggL_areBitsSo_X10_alignment
set_option maxRecDepth 20000 in
theorem ggL_areBitsSo_X10_frames : GoodIn wsL_areBitsSo wsX10_frames := goodIn_r _ [106, 101, 107, 113, 114, 115, 116, 117, 118, 119, 120, 121, 122, 142, 143, 144, 145, 146, 147] (by decide +kernel) (by decide +kernel)
set_option maxRecDepth 20000 in
theorem gL_areBitsSo_X10_frames : GoodIn wsL_areBitsSo (wsV RL 101 RX10 yX10_frames wsX10_frames) := goodIn_app (goodIn_of _ (by decide +kernel)) ggL_areBitsSo_X10_frames
set_option maxRecDepth 20000 in
theorem ggL_areBitsSo_X10_losses : GoodIn wsL_areBitsSo wsX10_losses := goodIn_r _ [111, 101, 112, 113, 114, 115, 116, 117, 118, 119, 120, 121, 122, 142, 143, 144, 145, 146, 147] (by decide +kernel) (by decide +kernel)
set_option maxRecDepth 20000 in
theorem gL_areBitsSo_X10_losses : GoodIn wsL_areBitsSo (wsV RL 104 RX10 yX10_losses wsX10_losses) := goodIn_app (goodIn_of _ (by decide +kernel)) ggL_areBitsSo_X10_losses
theorem dL_areBitsSo_0 : decode cL_areBitsSo 0 = .ok (.aload_n 0, 1) := by decide +kernel
theorem dL_areBitsSo_1 : decode cL_areBitsSo 1 = .ok (.invokevirtual 86, 3) := by decide +kernel
theorem dL_areBitsSo_4 : decode cL_areBitsSo 4 = .ok (.istore_n 1, 1) := by decide +kernel
theorem dL_areBitsSo_5 : decode cL_areBitsSo 5 = .ok (.iload_n 1, 1) := by decide +kernel
theorem dL_areBitsSo_6 : decode cL_areBitsSo 6 = .ok (.ifCond .lt 90, 3) := by decide +kernel
theorem dL_areBitsSo_9 : decode cL_areBitsSo 9 = .ok (.iload_n 1, 1) := by decide +kernel
theorem dL_areBitsSo_10 : decode cL_areBitsSo 10 = .ok (.aload_n 0, 1) := by decide +kernel
theorem dL_areBitsSo_11 : decode cL_areBitsSo 11 = .ok (.invokevirtual 65, 3) := by decide +kernel
theorem dL_areBitsSo_14 : decode cL_areBitsSo 14 = .ok (.if_icmp .gt 82, 3) := by decide +kernel
theorem dL_areBitsSo_17 : decode cL_areBitsSo 17 = .ok (.aload_n 0, 1) := by decide +kernel
theorem dL_areBitsSo_18 : decode cL_areBitsSo 18 = .ok (.invokevirtual 89, 3) := by decide +kernel
theorem dL_areBitsSo_21 : decode cL_areBitsSo 21 = .ok (.ifCond .lt 75, 3) := by decide +kernel
theorem dL_areBitsSo_24 : decode cL_areBitsSo 24 = .ok (.aload_n 0, 1) := by decide +kernel
theorem dL_areBitsSo_25 : decode cL_areBitsSo 25 = .ok (.invokevirtual 89, 3) := by decide +kernel
theorem dL_areBitsSo_28 : decode cL_areBitsSo 28 = .ok (.iload_n 1, 1) := by decide +kernel
theorem dL_areBitsSo_29 : decode cL_areBitsSo 29 = .ok (.if_icmp .gt 67, 3) := by decide +kernel
theorem dL_areBitsSo_32 : decode cL_areBitsSo 32 = .ok (.aload_n 0, 1) := by decide +kernel
theorem dL_areBitsSo_33 : decode cL_areBitsSo 33 = .ok (.invokevirtual 92, 3) := by decide +kernel
theorem dL_areBitsSo_36 : decode cL_areBitsSo 36 = .ok (.ifCond .lt 60, 3) := by decide +kernel
theorem dL_areBitsSo_39 : decode cL_areBitsSo 39 = .ok (.aload_n 0, 1) := by decide +kernel
theorem dL_areBitsSo_40 : decode cL_areBitsSo 40 = .ok (.invokevirtual 92, 3) := by decide +kernel
theorem dL_areBitsSo_43 : decode cL_areBitsSo 43 = .ok (.aload_n 0, 1) := by decide +kernel
theorem dL_areBitsSo_44 : decode cL_areBitsSo 44 = .ok (.invokevirtual 68, 3) := by decide +kernel
theorem dL_areBitsSo_47 : decode cL_areBitsSo 47 = .ok (.if_icmp .gt 49, 3) := by decide +kernel
theorem dL_areBitsSo_50 : decode cL_areBitsSo 50 = .ok (.aload_n 0, 1) := by decide +kernel
theorem dL_areBitsSo_51 : decode cL_areBitsSo 51 = .ok (.invokestatic 113, 3) := by decide +kernel
theorem dL_areBitsSo_54 : decode cL_areBitsSo 54 = .ok (.ldc 25, 2) := by decide +kernel
theorem dL_areBitsSo_56 : decode cL_areBitsSo 56 = .ok (.if_icmp .ne 7, 3) := by decide +kernel
theorem dL_areBitsSo_59 : decode cL_areBitsSo 59 = .ok (.iconst 1, 1) := by decide +kernel
theorem dL_areBitsSo_60 : decode cL_areBitsSo 60 = .ok (.goto 4, 3) := by decide +kernel
theorem dL_areBitsSo_63 : decode cL_areBitsSo 63 = .ok (.iconst 0, 1) := by decide +kernel
theorem dL_areBitsSo_64 : decode cL_areBitsSo 64 = .ok (.iload_n 1, 1) := by decide +kernel
theorem dL_areBitsSo_65 : decode cL_areBitsSo 65 = .ok (.ifCond .ne 7, 3) := by decide +kernel
theorem dL_areBitsSo_68 : decode cL_areBitsSo 68 = .ok (.iconst 1, 1) := by decide +kernel
theorem dL_areBitsSo_69 : decode cL_areBitsSo 69 = .ok (.goto 4, 3) := by decide +kernel
theorem dL_areBitsSo_72 : decode cL_areBitsSo 72 = .ok (.iconst 0, 1) := by decide +kernel
theorem dL_areBitsSo_73 : decode cL_areBitsSo 73 = .ok (.if_icmp .ne 23, 3) := by decide +kernel
theorem dL_areBitsSo_76 : decode cL_areBitsSo 76 = .ok (.aload_n 0, 1) := by decide +kernel
theorem dL_areBitsSo_77 : decode cL_areBitsSo 77 = .ok (.invokevirtual 95, 3) := by decide +kernel
theorem dL_areBitsSo_80 : decode cL_areBitsSo 80 = .ok (.ifCond .lt 16, 3) := by decide +kernel
theorem dL_areBitsSo_83 : decode cL_areBitsSo 83 = .ok (.aload_n 0, 1) := by decide +kernel
theorem dL_areBitsSo_84 : decode cL_areBitsSo 84 = .ok (.invokevirtual 95, 3) := by decide +kernel
theorem dL_areBitsSo_87 : decode cL_areBitsSo 87 = .ok (.ldc 124, 2) := by decide +kernel
theorem dL_areBitsSo_89 : decode cL_areBitsSo 89 = .ok (.if_icmp .gt 7, 3) := by decide +kernel
theorem dL_areBitsSo_92 : decode cL_areBitsSo 92 = .ok (.iconst 1, 1) := by decide +kernel
theorem dL_areBitsSo_93 : decode cL_areBitsSo 93 = .ok (.goto 4, 3) := by decide +kernel
theorem dL_areBitsSo_96 : decode cL_areBitsSo 96 = .ok (.iconst 0, 1) := by decide +kernel
theorem dL_areBitsSo_97 : decode cL_areBitsSo 97 = .ok (.istore_n 2, 1) := by decide +kernel
theorem dL_areBitsSo_98 : decode cL_areBitsSo 98 = .ok (.iconst 0, 1) := by decide +kernel
theorem dL_areBitsSo_99 : decode cL_areBitsSo 99 = .ok (.istore_n 3, 1) := by decide +kernel
theorem dL_areBitsSo_100 : decode cL_areBitsSo 100 = .ok (.iload_n 3, 1) := by decide +kernel
theorem dL_areBitsSo_101 : decode cL_areBitsSo 101 = .ok (.bipush 34, 2) := by decide +kernel
theorem dL_areBitsSo_103 : decode cL_areBitsSo 103 = .ok (.if_icmp .ge 67, 3) := by decide +kernel
theorem dL_areBitsSo_106 : decode cL_areBitsSo 106 = .ok (.iload_n 2, 1) := by decide +kernel
theorem dL_areBitsSo_107 : decode cL_areBitsSo 107 = .ok (.ifCond .eq 63, 3) := by decide +kernel
theorem dL_areBitsSo_110 : decode cL_areBitsSo 110 = .ok (.aload_n 0, 1) := by decide +kernel
theorem dL_areBitsSo_111 : decode cL_areBitsSo 111 = .ok (.iload_n 3, 1) := by decide +kernel
theorem dL_areBitsSo_112 : decode cL_areBitsSo 112 = .ok (.invokestatic 107, 3) := by decide +kernel
theorem dL_areBitsSo_115 : decode cL_areBitsSo 115 = .ok (.istore 4, 2) := by decide +kernel
theorem dL_areBitsSo_117 : decode cL_areBitsSo 117 = .ok (.iload_n 3, 1) := by decide +kernel
theorem dL_areBitsSo_118 : decode cL_areBitsSo 118 = .ok (.ifCond .le 33, 3) := by decide +kernel
theorem dL_areBitsSo_121 : decode cL_areBitsSo 121 = .ok (.iload_n 3, 1) := by decide +kernel
theorem dL_areBitsSo_122 : decode cL_areBitsSo 122 = .ok (.iload_n 1, 1) := by decide +kernel
theorem dL_areBitsSo_123 : decode cL_areBitsSo 123 = .ok (.if_icmp .gt 28, 3) := by decide +kernel
theorem dL_areBitsSo_126 : decode cL_areBitsSo 126 = .ok (.iload_n 3, 1) := by decide +kernel
theorem dL_areBitsSo_127 : decode cL_areBitsSo 127 = .ok (.bipush 33, 2) := by decide +kernel
theorem dL_areBitsSo_129 : decode cL_areBitsSo 129 = .ok (.if_icmp .ge 22, 3) := by decide +kernel
theorem dL_areBitsSo_132 : decode cL_areBitsSo 132 = .ok (.iload 4, 2) := by decide +kernel
theorem dL_areBitsSo_134 : decode cL_areBitsSo 134 = .ok (.ifCond .eq 9, 3) := by decide +kernel
theorem dL_areBitsSo_137 : decode cL_areBitsSo 137 = .ok (.iload 4, 2) := by decide +kernel
theorem dL_areBitsSo_139 : decode cL_areBitsSo 139 = .ok (.iconst 1, 1) := by decide +kernel
theorem dL_areBitsSo_140 : decode cL_areBitsSo 140 = .ok (.if_icmp .ne 7, 3) := by decide +kernel
theorem dL_areBitsSo_143 : decode cL_areBitsSo 143 = .ok (.iconst 1, 1) := by decide +kernel
theorem dL_areBitsSo_144 : decode cL_areBitsSo 144 = .ok (.goto 19, 3) := by decide +kernel
theorem dL_areBitsSo_147 : decode cL_areBitsSo 147 = .ok (.iconst 0, 1) := by decide +kernel
theorem dL_areBitsSo_148 : decode cL_areBitsSo 148 = .ok (.goto 15, 3) := by decide +kernel
theorem dL_areBitsSo_151 : decode cL_areBitsSo 151 = .ok (.iload 4, 2) := by decide +kernel
theorem dL_areBitsSo_153 : decode cL_areBitsSo 153 = .ok (.ldc 25, 2) := by decide +kernel
theorem dL_areBitsSo_155 : decode cL_areBitsSo 155 = .ok (.if_icmp .ne 7, 3) := by decide +kernel
theorem dL_areBitsSo_158 : decode cL_areBitsSo 158 = .ok (.iconst 1, 1) := by decide +kernel
theorem dL_areBitsSo_159 : decode cL_areBitsSo 159 = .ok (.goto 4, 3) := by decide +kernel
theorem dL_areBitsSo_162 : decode cL_areBitsSo 162 = .ok (.iconst 0, 1) := by decide +kernel
theorem dL_areBitsSo_163 : decode cL_areBitsSo 163 = .ok (.istore_n 2, 1) := by decide +kernel
theorem dL_areBitsSo_164 : decode cL_areBitsSo 164 = .ok (.iinc 3 1, 3) := by decide +kernel
theorem dL_areBitsSo_167 : decode cL_areBitsSo 167 = .ok (.goto (-67), 3) := by decide +kernel
theorem dL_areBitsSo_170 : decode cL_areBitsSo 170 = .ok (.iload_n 2, 1) := by decide +kernel
theorem dL_areBitsSo_171 : decode cL_areBitsSo 171 = .ok (.ifCond .eq 53, 3) := by decide +kernel
theorem dL_areBitsSo_174 : decode cL_areBitsSo 174 = .ok (.iload_n 1, 1) := by decide +kernel
theorem dL_areBitsSo_175 : decode cL_areBitsSo 175 = .ok (.ifCond .eq 23, 3) := by decide +kernel
theorem dL_areBitsSo_178 : decode cL_areBitsSo 178 = .ok (.aload_n 0, 1) := by decide +kernel
theorem dL_areBitsSo_179 : decode cL_areBitsSo 179 = .ok (.invokestatic 113, 3) := by decide +kernel
theorem dL_areBitsSo_182 : decode cL_areBitsSo 182 = .ok (.sipush (-32768), 3) := by decide +kernel
theorem dL_areBitsSo_185 : decode cL_areBitsSo 185 = .ok (.if_icmp .lt 39, 3) := by decide +kernel
theorem dL_areBitsSo_188 : decode cL_areBitsSo 188 = .ok (.aload_n 0, 1) := by decide +kernel
theorem dL_areBitsSo_189 : decode cL_areBitsSo 189 = .ok (.invokestatic 113, 3) := by decide +kernel
theorem dL_areBitsSo_192 : decode cL_areBitsSo 192 = .ok (.sipush 32767, 3) := by decide +kernel
theorem dL_areBitsSo_195 : decode cL_areBitsSo 195 = .ok (.if_icmp .gt 29, 3) := by decide +kernel
theorem dL_areBitsSo_198 : decode cL_areBitsSo 198 = .ok (.aload_n 0, 1) := by decide +kernel
theorem dL_areBitsSo_199 : decode cL_areBitsSo 199 = .ok (.invokevirtual 125, 3) := by decide +kernel
theorem dL_areBitsSo_202 : decode cL_areBitsSo 202 = .ok (.ifCond .eq 18, 3) := by decide +kernel
theorem dL_areBitsSo_205 : decode cL_areBitsSo 205 = .ok (.iload_n 1, 1) := by decide +kernel
theorem dL_areBitsSo_206 : decode cL_areBitsSo 206 = .ok (.bipush 32, 2) := by decide +kernel
theorem dL_areBitsSo_208 : decode cL_areBitsSo 208 = .ok (.if_icmp .lt 16, 3) := by decide +kernel
theorem dL_areBitsSo_211 : decode cL_areBitsSo 211 = .ok (.aload_n 0, 1) := by decide +kernel
theorem dL_areBitsSo_212 : decode cL_areBitsSo 212 = .ok (.invokevirtual 95, 3) := by decide +kernel
theorem dL_areBitsSo_215 : decode cL_areBitsSo 215 = .ok (.ldc 129, 2) := by decide +kernel
theorem dL_areBitsSo_217 : decode cL_areBitsSo 217 = .ok (.if_icmp .gt 7, 3) := by decide +kernel
theorem dL_areBitsSo_220 : decode cL_areBitsSo 220 = .ok (.iconst 1, 1) := by decide +kernel
theorem dL_areBitsSo_221 : decode cL_areBitsSo 221 = .ok (.goto 4, 3) := by decide +kernel
theorem dL_areBitsSo_224 : decode cL_areBitsSo 224 = .ok (.iconst 0, 1) := by decide +kernel
theorem dL_areBitsSo_225 : decode cL_areBitsSo 225 = .ok (.istore_n 2, 1) := by decide +kernel
theorem dL_areBitsSo_226 : decode cL_areBitsSo 226 = .ok (.iload_n 2, 1) := by decide +kernel
theorem dL_areBitsSo_227 : decode cL_areBitsSo 227 = .ok (.ifCond .eq 57, 3) := by decide +kernel
theorem dL_areBitsSo_230 : decode cL_areBitsSo 230 = .ok (.aload_n 0, 1) := by decide +kernel
theorem dL_areBitsSo_231 : decode cL_areBitsSo 231 = .ok (.invokevirtual 98, 3) := by decide +kernel
theorem dL_areBitsSo_234 : decode cL_areBitsSo 234 = .ok (.ifCond .lt 50, 3) := by decide +kernel
theorem dL_areBitsSo_237 : decode cL_areBitsSo 237 = .ok (.aload_n 0, 1) := by decide +kernel
theorem dL_areBitsSo_238 : decode cL_areBitsSo 238 = .ok (.invokevirtual 98, 3) := by decide +kernel
theorem dL_areBitsSo_241 : decode cL_areBitsSo 241 = .ok (.iconst 2, 1) := by decide +kernel
theorem dL_areBitsSo_242 : decode cL_areBitsSo 242 = .ok (.if_icmp .gt 42, 3) := by decide +kernel
theorem dL_areBitsSo_245 : decode cL_areBitsSo 245 = .ok (.bipush 24, 2) := by decide +kernel
theorem dL_areBitsSo_247 : decode cL_areBitsSo 247 = .ok (.aload_n 0, 1) := by decide +kernel
theorem dL_areBitsSo_248 : decode cL_areBitsSo 248 = .ok (.invokevirtual 101, 3) := by decide +kernel
theorem dL_areBitsSo_251 : decode cL_areBitsSo 251 = .ok (.imul, 1) := by decide +kernel
theorem dL_areBitsSo_252 : decode cL_areBitsSo 252 = .ok (.iload_n 1, 1) := by decide +kernel
theorem dL_areBitsSo_253 : decode cL_areBitsSo 253 = .ok (.if_icmp .gt 31, 3) := by decide +kernel
theorem dL_areBitsSo_256 : decode cL_areBitsSo 256 = .ok (.bipush 72, 2) := by decide +kernel
theorem dL_areBitsSo_258 : decode cL_areBitsSo 258 = .ok (.aload_n 0, 1) := by decide +kernel
theorem dL_areBitsSo_259 : decode cL_areBitsSo 259 = .ok (.invokevirtual 104, 3) := by decide +kernel
theorem dL_areBitsSo_262 : decode cL_areBitsSo 262 = .ok (.imul, 1) := by decide +kernel
theorem dL_areBitsSo_263 : decode cL_areBitsSo 263 = .ok (.iload_n 1, 1) := by decide +kernel
theorem dL_areBitsSo_264 : decode cL_areBitsSo 264 = .ok (.if_icmp .gt 20, 3) := by decide +kernel
theorem dL_areBitsSo_267 : decode cL_areBitsSo 267 = .ok (.aload_n 0, 1) := by decide +kernel
theorem dL_areBitsSo_268 : decode cL_areBitsSo 268 = .ok (.invokevirtual 98, 3) := by decide +kernel
theorem dL_areBitsSo_271 : decode cL_areBitsSo 271 = .ok (.ifCond .eq 9, 3) := by decide +kernel
theorem dL_areBitsSo_274 : decode cL_areBitsSo 274 = .ok (.iload_n 1, 1) := by decide +kernel
theorem dL_areBitsSo_275 : decode cL_areBitsSo 275 = .ok (.bipush 6, 2) := by decide +kernel
theorem dL_areBitsSo_277 : decode cL_areBitsSo 277 = .ok (.if_icmp .lt 7, 3) := by decide +kernel
theorem dL_areBitsSo_280 : decode cL_areBitsSo 280 = .ok (.iconst 1, 1) := by decide +kernel
theorem dL_areBitsSo_281 : decode cL_areBitsSo 281 = .ok (.goto 4, 3) := by decide +kernel
theorem dL_areBitsSo_284 : decode cL_areBitsSo 284 = .ok (.iconst 0, 1) := by decide +kernel
theorem dL_areBitsSo_285 : decode cL_areBitsSo 285 = .ok (.ireturn, 1) := by decide +kernel
set_option maxRecDepth 20000 in
theorem ggL_areCostsSo_X10_cost : GoodIn wsL_areCostsSo wsX10_cost := goodIn_ca (goodIn_r _ [5, 6, 7, 8, 9, 10, 4, 11, 12, 13, 14, 15, 16, 17, 18, 19, 20, 21, 22, 23, 24, 29, 30, 31, 32, 33, 34, 35, 36, 37, 38, 39, 40] (by decide +kernel) (by decide +kernel)) (goodIn_sub (fun _ h => List.mem_cons_of_mem _ (List.mem_append_right _ h)) (by decide +kernel))
set_option maxRecDepth 20000 in
theorem gL_areCostsSo_X10_cost : GoodIn wsL_areCostsSo (wsV RL 110 RX10 yX10_cost wsX10_cost) := goodIn_app (goodIn_of _ (by decide +kernel)) ggL_areCostsSo_X10_cost
set_option maxRecDepth 20000 in
theorem ggL_areCostsSo_X10_bestPhase : GoodIn wsL_areCostsSo wsX10_bestPhase := goodIn_r _ [28, 8, 12, 13, 14, 15, 16, 17, 18, 19, 20, 21, 22, 23, 24, 29, 30, 31, 32, 33, 34, 35, 36, 37, 38, 39, 40] (by decide +kernel) (by decide +kernel)
set_option maxRecDepth 20000 in
theorem gL_areCostsSo_X10_bestPhase : GoodIn wsL_areCostsSo (wsV RL 130 RX10 yX10_bestPhase wsX10_bestPhase) := goodIn_app (goodIn_of _ (by decide +kernel)) ggL_areCostsSo_X10_bestPhase
theorem dL_areCostsSo_0 : decode cL_areCostsSo 0 = .ok (.aload_n 0, 1) := by decide +kernel
theorem dL_areCostsSo_1 : decode cL_areCostsSo 1 = .ok (.iconst 0, 1) := by decide +kernel
theorem dL_areCostsSo_2 : decode cL_areCostsSo 2 = .ok (.invokevirtual 110, 3) := by decide +kernel
theorem dL_areCostsSo_5 : decode cL_areCostsSo 5 = .ok (.aload_n 0, 1) := by decide +kernel
theorem dL_areCostsSo_6 : decode cL_areCostsSo 6 = .ok (.bipush 8, 2) := by decide +kernel
theorem dL_areCostsSo_8 : decode cL_areCostsSo 8 = .ok (.invokevirtual 110, 3) := by decide +kernel
theorem dL_areCostsSo_11 : decode cL_areCostsSo 11 = .ok (.iadd, 1) := by decide +kernel
theorem dL_areCostsSo_12 : decode cL_areCostsSo 12 = .ok (.istore_n 1, 1) := by decide +kernel
theorem dL_areCostsSo_13 : decode cL_areCostsSo 13 = .ok (.aload_n 0, 1) := by decide +kernel
theorem dL_areCostsSo_14 : decode cL_areCostsSo 14 = .ok (.invokevirtual 130, 3) := by decide +kernel
theorem dL_areCostsSo_17 : decode cL_areCostsSo 17 = .ok (.istore_n 2, 1) := by decide +kernel
theorem dL_areCostsSo_18 : decode cL_areCostsSo 18 = .ok (.iload_n 1, 1) := by decide +kernel
theorem dL_areCostsSo_19 : decode cL_areCostsSo 19 = .ok (.bipush 8, 2) := by decide +kernel
theorem dL_areCostsSo_21 : decode cL_areCostsSo 21 = .ok (.irem, 1) := by decide +kernel
theorem dL_areCostsSo_22 : decode cL_areCostsSo 22 = .ok (.ifCond .ne 18, 3) := by decide +kernel
theorem dL_areCostsSo_25 : decode cL_areCostsSo 25 = .ok (.iload_n 1, 1) := by decide +kernel
theorem dL_areCostsSo_26 : decode cL_areCostsSo 26 = .ok (.ifCond .lt 14, 3) := by decide +kernel
theorem dL_areCostsSo_29 : decode cL_areCostsSo 29 = .ok (.iload_n 1, 1) := by decide +kernel
theorem dL_areCostsSo_30 : decode cL_areCostsSo 30 = .ok (.sipush 2048, 3) := by decide +kernel
theorem dL_areCostsSo_33 : decode cL_areCostsSo 33 = .ok (.if_icmp .gt 7, 3) := by decide +kernel
theorem dL_areCostsSo_36 : decode cL_areCostsSo 36 = .ok (.iconst 1, 1) := by decide +kernel
theorem dL_areCostsSo_37 : decode cL_areCostsSo 37 = .ok (.goto 4, 3) := by decide +kernel
theorem dL_areCostsSo_40 : decode cL_areCostsSo 40 = .ok (.iconst 0, 1) := by decide +kernel
theorem dL_areCostsSo_41 : decode cL_areCostsSo 41 = .ok (.istore_n 3, 1) := by decide +kernel
theorem dL_areCostsSo_42 : decode cL_areCostsSo 42 = .ok (.iconst 0, 1) := by decide +kernel
theorem dL_areCostsSo_43 : decode cL_areCostsSo 43 = .ok (.istore 4, 2) := by decide +kernel
theorem dL_areCostsSo_45 : decode cL_areCostsSo 45 = .ok (.iload 4, 2) := by decide +kernel
theorem dL_areCostsSo_47 : decode cL_areCostsSo 47 = .ok (.bipush 16, 2) := by decide +kernel
theorem dL_areCostsSo_49 : decode cL_areCostsSo 49 = .ok (.if_icmp .ge 88, 3) := by decide +kernel
theorem dL_areCostsSo_52 : decode cL_areCostsSo 52 = .ok (.iload_n 3, 1) := by decide +kernel
theorem dL_areCostsSo_53 : decode cL_areCostsSo 53 = .ok (.ifCond .eq 84, 3) := by decide +kernel
theorem dL_areCostsSo_56 : decode cL_areCostsSo 56 = .ok (.aload_n 0, 1) := by decide +kernel
theorem dL_areCostsSo_57 : decode cL_areCostsSo 57 = .ok (.iload 4, 2) := by decide +kernel
theorem dL_areCostsSo_59 : decode cL_areCostsSo 59 = .ok (.invokevirtual 110, 3) := by decide +kernel
theorem dL_areCostsSo_62 : decode cL_areCostsSo 62 = .ok (.aload_n 0, 1) := by decide +kernel
theorem dL_areCostsSo_63 : decode cL_areCostsSo 63 = .ok (.iload 4, 2) := by decide +kernel
theorem dL_areCostsSo_65 : decode cL_areCostsSo 65 = .ok (.bipush 8, 2) := by decide +kernel
theorem dL_areCostsSo_67 : decode cL_areCostsSo 67 = .ok (.iadd, 1) := by decide +kernel
theorem dL_areCostsSo_68 : decode cL_areCostsSo 68 = .ok (.bipush 16, 2) := by decide +kernel
theorem dL_areCostsSo_70 : decode cL_areCostsSo 70 = .ok (.irem, 1) := by decide +kernel
theorem dL_areCostsSo_71 : decode cL_areCostsSo 71 = .ok (.invokevirtual 110, 3) := by decide +kernel
theorem dL_areCostsSo_74 : decode cL_areCostsSo 74 = .ok (.iadd, 1) := by decide +kernel
theorem dL_areCostsSo_75 : decode cL_areCostsSo 75 = .ok (.iload_n 1, 1) := by decide +kernel
theorem dL_areCostsSo_76 : decode cL_areCostsSo 76 = .ok (.if_icmp .ne 53, 3) := by decide +kernel
theorem dL_areCostsSo_79 : decode cL_areCostsSo 79 = .ok (.aload_n 0, 1) := by decide +kernel
theorem dL_areCostsSo_80 : decode cL_areCostsSo 80 = .ok (.iload 4, 2) := by decide +kernel
theorem dL_areCostsSo_82 : decode cL_areCostsSo 82 = .ok (.invokevirtual 110, 3) := by decide +kernel
theorem dL_areCostsSo_85 : decode cL_areCostsSo 85 = .ok (.ifCond .lt 44, 3) := by decide +kernel
theorem dL_areCostsSo_88 : decode cL_areCostsSo 88 = .ok (.iload 4, 2) := by decide +kernel
theorem dL_areCostsSo_90 : decode cL_areCostsSo 90 = .ok (.iload_n 2, 1) := by decide +kernel
theorem dL_areCostsSo_91 : decode cL_areCostsSo 91 = .ok (.if_icmp .ge 20, 3) := by decide +kernel
theorem dL_areCostsSo_94 : decode cL_areCostsSo 94 = .ok (.aload_n 0, 1) := by decide +kernel
theorem dL_areCostsSo_95 : decode cL_areCostsSo 95 = .ok (.iload 4, 2) := by decide +kernel
theorem dL_areCostsSo_97 : decode cL_areCostsSo 97 = .ok (.invokevirtual 110, 3) := by decide +kernel
theorem dL_areCostsSo_100 : decode cL_areCostsSo 100 = .ok (.aload_n 0, 1) := by decide +kernel
theorem dL_areCostsSo_101 : decode cL_areCostsSo 101 = .ok (.iload_n 2, 1) := by decide +kernel
theorem dL_areCostsSo_102 : decode cL_areCostsSo 102 = .ok (.invokevirtual 110, 3) := by decide +kernel
theorem dL_areCostsSo_105 : decode cL_areCostsSo 105 = .ok (.if_icmp .le 24, 3) := by decide +kernel
theorem dL_areCostsSo_108 : decode cL_areCostsSo 108 = .ok (.goto 17, 3) := by decide +kernel
theorem dL_areCostsSo_111 : decode cL_areCostsSo 111 = .ok (.aload_n 0, 1) := by decide +kernel
theorem dL_areCostsSo_112 : decode cL_areCostsSo 112 = .ok (.iload 4, 2) := by decide +kernel
theorem dL_areCostsSo_114 : decode cL_areCostsSo 114 = .ok (.invokevirtual 110, 3) := by decide +kernel
theorem dL_areCostsSo_117 : decode cL_areCostsSo 117 = .ok (.aload_n 0, 1) := by decide +kernel
theorem dL_areCostsSo_118 : decode cL_areCostsSo 118 = .ok (.iload_n 2, 1) := by decide +kernel
theorem dL_areCostsSo_119 : decode cL_areCostsSo 119 = .ok (.invokevirtual 110, 3) := by decide +kernel
theorem dL_areCostsSo_122 : decode cL_areCostsSo 122 = .ok (.if_icmp .lt 7, 3) := by decide +kernel
theorem dL_areCostsSo_125 : decode cL_areCostsSo 125 = .ok (.iconst 1, 1) := by decide +kernel
theorem dL_areCostsSo_126 : decode cL_areCostsSo 126 = .ok (.goto 4, 3) := by decide +kernel
theorem dL_areCostsSo_129 : decode cL_areCostsSo 129 = .ok (.iconst 0, 1) := by decide +kernel
theorem dL_areCostsSo_130 : decode cL_areCostsSo 130 = .ok (.istore_n 3, 1) := by decide +kernel
theorem dL_areCostsSo_131 : decode cL_areCostsSo 131 = .ok (.iinc 4 1, 3) := by decide +kernel
theorem dL_areCostsSo_134 : decode cL_areCostsSo 134 = .ok (.goto (-89), 3) := by decide +kernel
theorem dL_areCostsSo_137 : decode cL_areCostsSo 137 = .ok (.iload_n 3, 1) := by decide +kernel
theorem dL_areCostsSo_138 : decode cL_areCostsSo 138 = .ok (.ireturn, 1) := by decide +kernel
set_option maxRecDepth 20000 in
theorem ggL_law_X10_init : GoodIn wsL_law wsX10_init := goodIn_r _ [6, 7, 8, 9, 10, 11, 12, 13, 14, 15, 16, 17, 18, 19, 20, 21, 22, 23, 24, 25, 26, 27, 28, 29, 30, 31, 32, 33, 34, 35, 36, 37, 38, 39, 40, 41, 42, 43, 44, 45, 46, 47, 48, 49, 50, 51, 52, 53, 54, 55, 56, 57, 58, 59, 60, 61, 62, 63, 64, 65, 66, 67, 68, 69, 70, 71, 72, 73, 74, 75, 76, 77, 78, 79, 80, 81, 82, 83, 84, 85, 86, 87, 88, 89, 90, 91, 92, 93, 94, 95, 96, 97, 98, 99, 100, 101, 102, 103, 104, 105, 106, 107, 108, 109, 110, 111, 112, 113, 114, 115, 116, 117, 118, 119, 120, 121, 500, 501, 502, 503, 504, 505, 506, 490, 491, 492, 493, 494, 495, 496, 497, 498, 499, 507, 508, 509, 510, 511, 512, 513, 514, 515, 516, 517, 518, 519, 520, 521, 522, 523, 524, 525, 526, 527, 528, 529, 530, 531, 532, 533, 534, 535, 536, 537, 538] (by decide +kernel) (by decide +kernel)
set_option maxRecDepth 20000 in
theorem gL_law_X10_init : GoodIn wsL_law (wsX10_init) := ggL_law_X10_init
set_option maxRecDepth 20000 in
theorem ggL_law_L_cell : GoodIn wsL_law wsL_cell := goodIn_r _ [125] (by decide +kernel) (by decide +kernel)
set_option maxRecDepth 20000 in
theorem gL_law_L_cell : GoodIn wsL_law (va_wsS RL 134 yL_cell wsL_cell) := goodIn_app (goodIn_of _ (by decide +kernel)) ggL_law_L_cell
set_option maxRecDepth 20000 in
theorem ggL_law_L_act : GoodIn wsL_law wsL_act := goodIn_ca (goodIn_r _ [128, 129, 130, 131, 132, 133, 124, 134, 135, 136, 137, 138, 3, 139, 140, 141, 2, 142, 143, 144, 13, 145, 146, 147, 148, 149, 150, 151, 152, 29, 153, 154, 155, 156, 157, 158, 25, 159, 160, 161, 162, 163, 37, 164, 165, 166, 167, 168, 17, 169, 21, 33, 170, 171, 172, 173, 12, 174, 53, 54, 175, 176, 177, 178, 179, 55, 180, 56, 181, 182, 183, 184, 185, 186, 187, 57, 58, 188, 189, 190, 191, 59, 192, 193, 194, 16, 195, 64, 63, 196, 197, 198, 199, 200, 201, 202, 20, 203, 68, 70, 204, 205, 206, 28, 207, 208, 79, 80, 209, 210, 211, 212, 213, 24, 214, 74, 215, 216, 217, 218, 219, 220, 221, 222, 223, 224, 225, 226, 227, 228, 229, 230, 231, 232, 233, 234, 235, 236, 237, 238, 239, 240, 81, 241, 242, 243, 244, 245, 246, 247, 32, 248, 90, 91, 89, 249, 88, 92, 250, 251, 252, 253, 254, 255, 256, 257, 258, 259, 260, 261, 262, 263, 264, 265, 266, 82, 83, 267, 268, 269, 270, 271, 272, 273, 274, 41, 275, 45, 276, 277, 49, 278, 279, 280, 281, 78, 84, 282, 283, 284, 285, 286, 287, 288, 289, 36, 290, 97, 291, 292, 293, 294, 295, 296, 297, 298, 96, 299, 300, 301, 40, 302, 103, 104, 101, 102, 303, 304, 305, 44, 306, 112, 108, 109, 110, 307, 308, 309, 310, 311, 312, 313, 48, 314, 116, 119, 120, 315, 316, 317, 318, 121, 319, 320, 321, 322, 117, 118, 323, 324, 325, 326, 327, 328, 329, 330, 331, 332, 333, 334, 335, 336, 337, 338, 339, 340, 341, 342, 343, 344, 345, 490, 491, 492, 493, 494, 495, 496, 497, 498, 499, 500, 501, 502, 503, 504, 505, 506, 511, 512, 513, 514, 515, 516, 517, 510, 523, 524, 518, 519, 520, 521, 522, 507, 508, 509, 525, 526, 527, 528, 529, 530, 531, 532, 533, 534, 535, 536, 537, 538] (by decide +kernel) (by decide +kernel)) (goodIn_sub (fun _ h => List.mem_append_left _ (List.mem_append_left _ (List.mem_append_right _ h))) (by decide +kernel))
set_option maxRecDepth 20000 in
theorem gL_law_L_act : GoodIn wsL_law (va_wsS RL 138 yL_act wsL_act) := goodIn_app (goodIn_of _ (by decide +kernel)) ggL_law_L_act
set_option maxRecDepth 20000 in
theorem ggL_law_L_areAlike : GoodIn wsL_law wsL_areAlike := goodIn_ca (goodIn_ca (goodIn_ca (goodIn_r _ [348, 349, 350, 351, 2, 352, 21, 353, 354, 355, 356, 357, 13, 275, 358, 359, 360, 361, 276, 362, 363, 364, 365, 25, 159, 366, 367, 368, 369, 33, 370, 371, 372, 373, 374, 345, 375, 376, 377, 378, 170, 379, 380, 381, 382, 37, 164, 383, 384, 385, 386, 41, 387, 388, 389, 390, 391, 392, 393, 394, 395, 396, 45, 397, 398, 399, 44, 400, 112, 401, 242, 243, 244, 402, 403, 404, 405, 49, 406, 407, 408, 409, 410, 411, 412, 413, 414, 415, 416, 417, 418, 124, 419, 420, 3, 421, 422, 423, 424, 425, 426, 427, 428, 429, 36, 430, 96, 431, 254, 255, 147, 148, 432, 288, 289, 290, 97, 433, 434, 435, 436, 143, 144, 146, 437, 438, 439, 20, 440, 70, 441, 442, 443, 444, 445, 446, 447, 448, 449, 450, 451, 452, 453, 454, 455, 456, 490, 491, 492, 493, 494, 495, 496, 497, 498, 499, 508, 509, 500, 501, 502, 503, 504, 505, 506, 510, 518, 519, 520, 521, 522, 523, 524, 525, 526, 527, 528, 529, 530, 531, 532, 533, 534, 535, 536, 537, 538] (by decide +kernel) (by decide +kernel)) (goodIn_sub (fun _ h => List.mem_append_left _ (List.mem_append_right _ h)) (by decide +kernel))) (goodIn_sub (fun _ h => List.mem_append_left _ (List.mem_append_left _ (List.mem_append_right _ h))) (by decide +kernel))) (goodIn_sub (fun _ h => List.mem_append_right _ h) (by decide +kernel))
set_option maxRecDepth 20000 in
theorem gL_law_L_areAlike : GoodIn wsL_law (va_wsS RL 141 yL_areAlike wsL_areAlike) := goodIn_app (goodIn_of _ (by decide +kernel)) ggL_law_L_areAlike
set_option maxRecDepth 20000 in
theorem ggL_law_L_isLineSo : GoodIn wsL_law wsL_isLineSo := goodIn_r _ [459, 131, 460, 461, 462, 463, 464, 2, 465, 13, 169, 466, 467, 468, 469, 17, 226, 227, 228, 16, 229, 64, 230, 231, 232, 233, 234, 235, 236, 358, 359, 360, 361, 276, 362, 363, 364, 365, 25, 159, 371, 372, 373, 374, 33, 345, 375, 376, 377, 378, 170, 366, 367, 368, 369, 370, 349, 350, 351, 352, 21, 353, 354, 355, 356, 357, 275, 490, 491, 492, 493, 494, 495, 496, 497, 498, 499, 500, 501, 502, 503, 504, 505, 506, 507, 510, 518, 519, 520, 521, 522, 508, 509] (by decide +kernel) (by decide +kernel)
set_option maxRecDepth 20000 in
theorem gL_law_L_isLineSo : GoodIn wsL_law (va_wsS RL 145 yL_isLineSo wsL_isLineSo) := goodIn_app (goodIn_of _ (by decide +kernel)) ggL_law_L_isLineSo
set_option maxRecDepth 20000 in
theorem ggL_law_L_areBitsSo : GoodIn wsL_law wsL_areBitsSo := goodIn_ca (goodIn_ca (goodIn_r _ [472, 3, 473, 474, 379, 380, 381, 2, 382, 37, 164, 349, 350, 351, 352, 21, 353, 383, 384, 385, 386, 41, 387, 388, 389, 390, 391, 392, 354, 355, 356, 357, 13, 275, 445, 446, 124, 447, 448, 449, 450, 451, 452, 453, 454, 45, 455, 456, 393, 394, 395, 396, 397, 398, 399, 44, 400, 112, 401, 242, 243, 244, 417, 418, 419, 420, 421, 422, 423, 424, 425, 426, 427, 428, 429, 36, 430, 96, 431, 254, 255, 147, 148, 432, 288, 289, 290, 97, 475, 476, 477, 478, 479, 480, 481, 482, 110, 402, 403, 404, 405, 49, 406, 407, 408, 409, 410, 411, 412, 413, 414, 415, 416, 490, 491, 492, 493, 494, 495, 496, 497, 498, 499, 523, 524, 508, 509, 525, 526, 527, 528, 500, 501, 502, 503, 504, 505, 506, 529, 530, 531, 532, 533, 534, 535, 536, 537, 538] (by decide +kernel) (by decide +kernel)) (goodIn_sub (fun _ h => List.mem_append_right _ h) (by decide +kernel))) (goodIn_sub (fun _ h => List.mem_append_left _ (List.mem_append_right _ h)) (by decide +kernel))
set_option maxRecDepth 20000 in
theorem gL_law_L_areBitsSo : GoodIn wsL_law (va_wsS RL 149 yL_areBitsSo wsL_areBitsSo) := goodIn_app (goodIn_of _ (by decide +kernel)) ggL_law_L_areBitsSo
set_option maxRecDepth 20000 in
theorem ggL_law_L_areCostsSo : GoodIn wsL_law wsL_areCostsSo := goodIn_ca (goodIn_r _ [485, 433, 434, 435, 2, 436, 143, 144, 21, 146, 147, 148, 437, 438, 439, 20, 440, 70, 441, 442, 443, 444, 254, 243, 255, 486, 487, 488, 489, 490, 491, 492, 493, 494, 495, 496, 497, 498, 499, 508, 509] (by decide +kernel) (by decide +kernel)) (goodIn_sub (fun _ h => List.mem_append_left _ (List.mem_append_left _ (List.mem_append_right _ h))) (by decide +kernel))
set_option maxRecDepth 20000 in
theorem gL_law_L_areCostsSo : GoodIn wsL_law (va_wsS RL 152 yL_areCostsSo wsL_areCostsSo) := goodIn_app (goodIn_of _ (by decide +kernel)) ggL_law_L_areCostsSo
theorem dL_law_0 : decode cL_law 0 = .ok (.new 9, 3) := by decide +kernel
theorem dL_law_3 : decode cL_law 3 = .ok (.dup, 1) := by decide +kernel
theorem dL_law_4 : decode cL_law 4 = .ok (.invokespecial 133, 3) := by decide +kernel
theorem dL_law_7 : decode cL_law 7 = .ok (.astore_n 1, 1) := by decide +kernel
theorem dL_law_8 : decode cL_law 8 = .ok (.new 9, 3) := by decide +kernel
theorem dL_law_11 : decode cL_law 11 = .ok (.dup, 1) := by decide +kernel
theorem dL_law_12 : decode cL_law 12 = .ok (.invokespecial 133, 3) := by decide +kernel
theorem dL_law_15 : decode cL_law 15 = .ok (.astore_n 2, 1) := by decide +kernel
theorem dL_law_16 : decode cL_law 16 = .ok (.iconst 0, 1) := by decide +kernel
theorem dL_law_17 : decode cL_law 17 = .ok (.istore_n 3, 1) := by decide +kernel
theorem dL_law_18 : decode cL_law 18 = .ok (.iload_n 3, 1) := by decide +kernel
theorem dL_law_19 : decode cL_law 19 = .ok (.bipush 56, 2) := by decide +kernel
theorem dL_law_21 : decode cL_law 21 = .ok (.if_icmp .ge 87, 3) := by decide +kernel
theorem dL_law_24 : decode cL_law 24 = .ok (.aload_n 0, 1) := by decide +kernel
theorem dL_law_25 : decode cL_law 25 = .ok (.iload_n 3, 1) := by decide +kernel
theorem dL_law_26 : decode cL_law 26 = .ok (.invokestatic 134, 3) := by decide +kernel
theorem dL_law_29 : decode cL_law 29 = .ok (.istore 4, 2) := by decide +kernel
theorem dL_law_31 : decode cL_law 31 = .ok (.aload_n 1, 1) := by decide +kernel
theorem dL_law_32 : decode cL_law 32 = .ok (.iload 4, 2) := by decide +kernel
theorem dL_law_34 : decode cL_law 34 = .ok (.invokestatic 138, 3) := by decide +kernel
theorem dL_law_37 : decode cL_law 37 = .ok (.istore 5, 2) := by decide +kernel
theorem dL_law_39 : decode cL_law 39 = .ok (.iload 5, 2) := by decide +kernel
theorem dL_law_41 : decode cL_law 41 = .ok (.ldc 25, 2) := by decide +kernel
theorem dL_law_43 : decode cL_law 43 = .ok (.if_icmp .eq 14, 3) := by decide +kernel
theorem dL_law_46 : decode cL_law 46 = .ok (.aload_n 2, 1) := by decide +kernel
theorem dL_law_47 : decode cL_law 47 = .ok (.iload 4, 2) := by decide +kernel
theorem dL_law_49 : decode cL_law 49 = .ok (.invokestatic 138, 3) := by decide +kernel
theorem dL_law_52 : decode cL_law 52 = .ok (.iload 5, 2) := by decide +kernel
theorem dL_law_54 : decode cL_law 54 = .ok (.if_icmp .ne 46, 3) := by decide +kernel
theorem dL_law_57 : decode cL_law 57 = .ok (.iload_n 3, 1) := by decide +kernel
theorem dL_law_58 : decode cL_law 58 = .ok (.iconst 3, 1) := by decide +kernel
theorem dL_law_59 : decode cL_law 59 = .ok (.irem, 1) := by decide +kernel
theorem dL_law_60 : decode cL_law 60 = .ok (.iconst 2, 1) := by decide +kernel
theorem dL_law_61 : decode cL_law 61 = .ok (.if_icmp .ne 11, 3) := by decide +kernel
theorem dL_law_64 : decode cL_law 64 = .ok (.aload_n 1, 1) := by decide +kernel
theorem dL_law_65 : decode cL_law 65 = .ok (.aload_n 2, 1) := by decide +kernel
theorem dL_law_66 : decode cL_law 66 = .ok (.invokestatic 141, 3) := by decide +kernel
theorem dL_law_69 : decode cL_law 69 = .ok (.ifCond .eq 31, 3) := by decide +kernel
theorem dL_law_72 : decode cL_law 72 = .ok (.aload_n 1, 1) := by decide +kernel
theorem dL_law_73 : decode cL_law 73 = .ok (.invokestatic 145, 3) := by decide +kernel
theorem dL_law_76 : decode cL_law 76 = .ok (.ifCond .eq 24, 3) := by decide +kernel
theorem dL_law_79 : decode cL_law 79 = .ok (.aload_n 1, 1) := by decide +kernel
theorem dL_law_80 : decode cL_law 80 = .ok (.invokestatic 149, 3) := by decide +kernel
theorem dL_law_83 : decode cL_law 83 = .ok (.ifCond .eq 17, 3) := by decide +kernel
theorem dL_law_86 : decode cL_law 86 = .ok (.iload_n 3, 1) := by decide +kernel
theorem dL_law_87 : decode cL_law 87 = .ok (.iconst 4, 1) := by decide +kernel
theorem dL_law_88 : decode cL_law 88 = .ok (.irem, 1) := by decide +kernel
theorem dL_law_89 : decode cL_law 89 = .ok (.iconst 1, 1) := by decide +kernel
theorem dL_law_90 : decode cL_law 90 = .ok (.if_icmp .ne 12, 3) := by decide +kernel
theorem dL_law_93 : decode cL_law 93 = .ok (.aload_n 1, 1) := by decide +kernel
theorem dL_law_94 : decode cL_law 94 = .ok (.invokestatic 152, 3) := by decide +kernel
theorem dL_law_97 : decode cL_law 97 = .ok (.ifCond .ne 5, 3) := by decide +kernel
theorem dL_law_100 : decode cL_law 100 = .ok (.iconst 0, 1) := by decide +kernel
theorem dL_law_101 : decode cL_law 101 = .ok (.ireturn, 1) := by decide +kernel
theorem dL_law_102 : decode cL_law 102 = .ok (.iinc 3 1, 3) := by decide +kernel
theorem dL_law_105 : decode cL_law 105 = .ok (.goto (-87), 3) := by decide +kernel
theorem dL_law_108 : decode cL_law 108 = .ok (.aload_n 1, 1) := by decide +kernel
theorem dL_law_109 : decode cL_law 109 = .ok (.aload_n 2, 1) := by decide +kernel
theorem dL_law_110 : decode cL_law 110 = .ok (.invokestatic 141, 3) := by decide +kernel
theorem dL_law_113 : decode cL_law 113 = .ok (.ifCond .eq 14, 3) := by decide +kernel
theorem dL_law_116 : decode cL_law 116 = .ok (.aload_n 1, 1) := by decide +kernel
theorem dL_law_117 : decode cL_law 117 = .ok (.invokestatic 152, 3) := by decide +kernel
theorem dL_law_120 : decode cL_law 120 = .ok (.ifCond .eq 7, 3) := by decide +kernel
theorem dL_law_123 : decode cL_law 123 = .ok (.iconst 1, 1) := by decide +kernel
theorem dL_law_124 : decode cL_law 124 = .ok (.goto 4, 3) := by decide +kernel
theorem dL_law_127 : decode cL_law 127 = .ok (.iconst 0, 1) := by decide +kernel
theorem dL_law_128 : decode cL_law 128 = .ok (.ireturn, 1) := by decide +kernel
abbrev vwCl : List vw_C := [(RX0, TX0, 6), (RX1, TX1, 2), (RX2, TX2, 2), (RX3, TX3, 1), (RX4, TX4, 5), (RX5, TX5, 1), (RX6, TX6, 7), (RX7, TX7, 4), (RX8, TX8, 4), (RX9, TX9, 7), (RX10, TX10, 10)]
