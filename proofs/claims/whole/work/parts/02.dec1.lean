theorem dX0_init_0 : decode cX0_init 0 = .ok (.aload_n 0, 1) := by decide +kernel
theorem dX0_init_1 : decode cX0_init 1 = .ok (.invokespecial 3, 3) := by decide +kernel
theorem dX0_init_4 : decode cX0_init 4 = .ok (.aload_n 0, 1) := by decide +kernel
theorem dX0_init_5 : decode cX0_init 5 = .ok (.iconst 4, 1) := by decide +kernel
theorem dX0_init_6 : decode cX0_init 6 = .ok (.newarray .int, 2) := by decide +kernel
theorem dX0_init_8 : decode cX0_init 8 = .ok (.putfield 9, 3) := by decide +kernel
theorem dX0_init_11 : decode cX0_init 11 = .ok (.aload_n 0, 1) := by decide +kernel
theorem dX0_init_12 : decode cX0_init 12 = .ok (.bipush 8, 2) := by decide +kernel
theorem dX0_init_14 : decode cX0_init 14 = .ok (.newarray .int, 2) := by decide +kernel
theorem dX0_init_16 : decode cX0_init 16 = .ok (.putfield 15, 3) := by decide +kernel
theorem dX0_init_19 : decode cX0_init 19 = .ok (.aload_n 0, 1) := by decide +kernel
theorem dX0_init_20 : decode cX0_init 20 = .ok (.iconst 2, 1) := by decide +kernel
theorem dX0_init_21 : decode cX0_init 21 = .ok (.newarray .int, 2) := by decide +kernel
theorem dX0_init_23 : decode cX0_init 23 = .ok (.putfield 18, 3) := by decide +kernel
theorem dX0_init_26 : decode cX0_init 26 = .ok (.aload_n 0, 1) := by decide +kernel
theorem dX0_init_27 : decode cX0_init 27 = .ok (.bipush 20, 2) := by decide +kernel
theorem dX0_init_29 : decode cX0_init 29 = .ok (.newarray .int, 2) := by decide +kernel
theorem dX0_init_31 : decode cX0_init 31 = .ok (.putfield 21, 3) := by decide +kernel
theorem dX0_init_34 : decode cX0_init 34 = .ok (.aload_n 0, 1) := by decide +kernel
theorem dX0_init_35 : decode cX0_init 35 = .ok (.bipush 20, 2) := by decide +kernel
theorem dX0_init_37 : decode cX0_init 37 = .ok (.newarray .long, 2) := by decide +kernel
theorem dX0_init_39 : decode cX0_init 39 = .ok (.putfield 24, 3) := by decide +kernel
theorem dX0_init_42 : decode cX0_init 42 = .ok (.return_, 1) := by decide +kernel
theorem dX0_perform_0 : decode cX0_perform 0 = .ok (.aload_n 0, 1) := by decide +kernel
theorem dX0_perform_1 : decode cX0_perform 1 = .ok (.iload_n 2, 1) := by decide +kernel
theorem dX0_perform_2 : decode cX0_perform 2 = .ok (.invokevirtual 28, 3) := by decide +kernel
theorem dX0_perform_5 : decode cX0_perform 5 = .ok (.aload_n 0, 1) := by decide +kernel
theorem dX0_perform_6 : decode cX0_perform 6 = .ok (.iload_n 3, 1) := by decide +kernel
theorem dX0_perform_7 : decode cX0_perform 7 = .ok (.putfield 32, 3) := by decide +kernel
theorem dX0_perform_10 : decode cX0_perform 10 = .ok (.aload_n 0, 1) := by decide +kernel
theorem dX0_perform_11 : decode cX0_perform 11 = .ok (.aload_n 1, 1) := by decide +kernel
theorem dX0_perform_12 : decode cX0_perform 12 = .ok (.getfield 36, 3) := by decide +kernel
theorem dX0_perform_15 : decode cX0_perform 15 = .ok (.putfield 41, 3) := by decide +kernel
theorem dX0_perform_18 : decode cX0_perform 18 = .ok (.iconst 0, 1) := by decide +kernel
theorem dX0_perform_19 : decode cX0_perform 19 = .ok (.istore 4, 2) := by decide +kernel
theorem dX0_perform_21 : decode cX0_perform 21 = .ok (.aload_n 0, 1) := by decide +kernel
theorem dX0_perform_22 : decode cX0_perform 22 = .ok (.iconst 0, 1) := by decide +kernel
theorem dX0_perform_23 : decode cX0_perform 23 = .ok (.putfield 44, 3) := by decide +kernel
theorem dX0_perform_26 : decode cX0_perform 26 = .ok (.aload_n 0, 1) := by decide +kernel
theorem dX0_perform_27 : decode cX0_perform 27 = .ok (.getfield 44, 3) := by decide +kernel
theorem dX0_perform_30 : decode cX0_perform 30 = .ok (.sipush 300, 3) := by decide +kernel
theorem dX0_perform_33 : decode cX0_perform 33 = .ok (.if_icmp .ge 45, 3) := by decide +kernel
theorem dX0_perform_36 : decode cX0_perform 36 = .ok (.iload 4, 2) := by decide +kernel
theorem dX0_perform_38 : decode cX0_perform 38 = .ok (.aload_n 0, 1) := by decide +kernel
theorem dX0_perform_39 : decode cX0_perform 39 = .ok (.getfield 41, 3) := by decide +kernel
theorem dX0_perform_42 : decode cX0_perform 42 = .ok (.if_icmp .ge 36, 3) := by decide +kernel
theorem dX0_perform_45 : decode cX0_perform 45 = .ok (.aload_n 0, 1) := by decide +kernel
theorem dX0_perform_46 : decode cX0_perform 46 = .ok (.getfield 21, 3) := by decide +kernel
theorem dX0_perform_49 : decode cX0_perform 49 = .ok (.iload 4, 2) := by decide +kernel
theorem dX0_perform_51 : decode cX0_perform 51 = .ok (.dup2, 1) := by decide +kernel
theorem dX0_perform_52 : decode cX0_perform 52 = .ok (.iaload, 1) := by decide +kernel
theorem dX0_perform_53 : decode cX0_perform 53 = .ok (.iconst 1, 1) := by decide +kernel
theorem dX0_perform_54 : decode cX0_perform 54 = .ok (.iadd, 1) := by decide +kernel
theorem dX0_perform_55 : decode cX0_perform 55 = .ok (.iastore, 1) := by decide +kernel
theorem dX0_perform_56 : decode cX0_perform 56 = .ok (.aload_n 0, 1) := by decide +kernel
theorem dX0_perform_57 : decode cX0_perform 57 = .ok (.aload_n 1, 1) := by decide +kernel
theorem dX0_perform_58 : decode cX0_perform 58 = .ok (.iload 4, 2) := by decide +kernel
theorem dX0_perform_60 : decode cX0_perform 60 = .ok (.invokevirtual 47, 3) := by decide +kernel
theorem dX0_perform_63 : decode cX0_perform 63 = .ok (.istore 4, 2) := by decide +kernel
theorem dX0_perform_65 : decode cX0_perform 65 = .ok (.aload_n 0, 1) := by decide +kernel
theorem dX0_perform_66 : decode cX0_perform 66 = .ok (.dup, 1) := by decide +kernel
theorem dX0_perform_67 : decode cX0_perform 67 = .ok (.getfield 44, 3) := by decide +kernel
theorem dX0_perform_70 : decode cX0_perform 70 = .ok (.iconst 1, 1) := by decide +kernel
theorem dX0_perform_71 : decode cX0_perform 71 = .ok (.iadd, 1) := by decide +kernel
theorem dX0_perform_72 : decode cX0_perform 72 = .ok (.putfield 44, 3) := by decide +kernel
theorem dX0_perform_75 : decode cX0_perform 75 = .ok (.goto (-49), 3) := by decide +kernel
theorem dX0_perform_78 : decode cX0_perform 78 = .ok (.aload_n 0, 1) := by decide +kernel
theorem dX0_perform_79 : decode cX0_perform 79 = .ok (.iload 4, 2) := by decide +kernel
theorem dX0_perform_81 : decode cX0_perform 81 = .ok (.aload_n 0, 1) := by decide +kernel
theorem dX0_perform_82 : decode cX0_perform 82 = .ok (.getfield 41, 3) := by decide +kernel
theorem dX0_perform_85 : decode cX0_perform 85 = .ok (.if_icmp .ge 7, 3) := by decide +kernel
theorem dX0_perform_88 : decode cX0_perform 88 = .ok (.iconst 1, 1) := by decide +kernel
theorem dX0_perform_89 : decode cX0_perform 89 = .ok (.goto 4, 3) := by decide +kernel
theorem dX0_perform_92 : decode cX0_perform 92 = .ok (.iconst 0, 1) := by decide +kernel
theorem dX0_perform_93 : decode cX0_perform 93 = .ok (.putfield 51, 3) := by decide +kernel
theorem dX0_perform_96 : decode cX0_perform 96 = .ok (.return_, 1) := by decide +kernel
theorem dX0_begin_0 : decode cX0_begin 0 = .ok (.aload_n 0, 1) := by decide +kernel
theorem dX0_begin_1 : decode cX0_begin 1 = .ok (.getfield 9, 3) := by decide +kernel
theorem dX0_begin_4 : decode cX0_begin 4 = .ok (.iconst 0, 1) := by decide +kernel
theorem dX0_begin_5 : decode cX0_begin 5 = .ok (.invokestatic 55, 3) := by decide +kernel
theorem dX0_begin_8 : decode cX0_begin 8 = .ok (.aload_n 0, 1) := by decide +kernel
theorem dX0_begin_9 : decode cX0_begin 9 = .ok (.getfield 9, 3) := by decide +kernel
theorem dX0_begin_12 : decode cX0_begin 12 = .ok (.iconst 0, 1) := by decide +kernel
theorem dX0_begin_13 : decode cX0_begin 13 = .ok (.iload_n 1, 1) := by decide +kernel
theorem dX0_begin_14 : decode cX0_begin 14 = .ok (.iastore, 1) := by decide +kernel
theorem dX0_begin_15 : decode cX0_begin 15 = .ok (.aload_n 0, 1) := by decide +kernel
theorem dX0_begin_16 : decode cX0_begin 16 = .ok (.getfield 15, 3) := by decide +kernel
theorem dX0_begin_19 : decode cX0_begin 19 = .ok (.iconst 0, 1) := by decide +kernel
theorem dX0_begin_20 : decode cX0_begin 20 = .ok (.invokestatic 55, 3) := by decide +kernel
theorem dX0_begin_23 : decode cX0_begin 23 = .ok (.aload_n 0, 1) := by decide +kernel
theorem dX0_begin_24 : decode cX0_begin 24 = .ok (.getfield 18, 3) := by decide +kernel
theorem dX0_begin_27 : decode cX0_begin 27 = .ok (.iconst 0, 1) := by decide +kernel
theorem dX0_begin_28 : decode cX0_begin 28 = .ok (.iconst 0, 1) := by decide +kernel
theorem dX0_begin_29 : decode cX0_begin 29 = .ok (.iastore, 1) := by decide +kernel
theorem dX0_begin_30 : decode cX0_begin 30 = .ok (.aload_n 0, 1) := by decide +kernel
theorem dX0_begin_31 : decode cX0_begin 31 = .ok (.getfield 18, 3) := by decide +kernel
theorem dX0_begin_34 : decode cX0_begin 34 = .ok (.iconst 1, 1) := by decide +kernel
theorem dX0_begin_35 : decode cX0_begin 35 = .ok (.iconst 4, 1) := by decide +kernel
theorem dX0_begin_36 : decode cX0_begin 36 = .ok (.iastore, 1) := by decide +kernel
theorem dX0_begin_37 : decode cX0_begin 37 = .ok (.aload_n 0, 1) := by decide +kernel
theorem dX0_begin_38 : decode cX0_begin 38 = .ok (.getfield 21, 3) := by decide +kernel
theorem dX0_begin_41 : decode cX0_begin 41 = .ok (.iconst 0, 1) := by decide +kernel
theorem dX0_begin_42 : decode cX0_begin 42 = .ok (.invokestatic 55, 3) := by decide +kernel
theorem dX0_begin_45 : decode cX0_begin 45 = .ok (.return_, 1) := by decide +kernel
theorem dX0_has_0 : decode cX0_has 0 = .ok (.aload_n 0, 1) := by decide +kernel
theorem dX0_has_1 : decode cX0_has 1 = .ok (.getfield 32, 3) := by decide +kernel
theorem dX0_has_4 : decode cX0_has 4 = .ok (.iload_n 1, 1) := by decide +kernel
theorem dX0_has_5 : decode cX0_has 5 = .ok (.iand, 1) := by decide +kernel
theorem dX0_has_6 : decode cX0_has 6 = .ok (.ifCond .eq 7, 3) := by decide +kernel
theorem dX0_has_9 : decode cX0_has 9 = .ok (.iconst 1, 1) := by decide +kernel
theorem dX0_has_10 : decode cX0_has 10 = .ok (.goto 4, 3) := by decide +kernel
theorem dX0_has_13 : decode cX0_has 13 = .ok (.iconst 0, 1) := by decide +kernel
theorem dX0_has_14 : decode cX0_has 14 = .ok (.ireturn, 1) := by decide +kernel
theorem dX0_doLine_0 : decode cX0_doLine 0 = .ok (.aload_n 1, 1) := by decide +kernel
theorem dX0_doLine_1 : decode cX0_doLine 1 = .ok (.getfield 61, 3) := by decide +kernel
theorem dX0_doLine_4 : decode cX0_doLine 4 = .ok (.iload_n 2, 1) := by decide +kernel
theorem dX0_doLine_5 : decode cX0_doLine 5 = .ok (.iaload, 1) := by decide +kernel
theorem dX0_doLine_6 : decode cX0_doLine 6 = .ok (.istore_n 3, 1) := by decide +kernel
theorem dX0_doLine_7 : decode cX0_doLine 7 = .ok (.aload_n 1, 1) := by decide +kernel
theorem dX0_doLine_8 : decode cX0_doLine 8 = .ok (.getfield 64, 3) := by decide +kernel
theorem dX0_doLine_11 : decode cX0_doLine 11 = .ok (.iload_n 2, 1) := by decide +kernel
theorem dX0_doLine_12 : decode cX0_doLine 12 = .ok (.iaload, 1) := by decide +kernel
theorem dX0_doLine_13 : decode cX0_doLine 13 = .ok (.istore 4, 2) := by decide +kernel
theorem dX0_doLine_15 : decode cX0_doLine 15 = .ok (.aload_n 1, 1) := by decide +kernel
theorem dX0_doLine_16 : decode cX0_doLine 16 = .ok (.getfield 67, 3) := by decide +kernel
theorem dX0_doLine_19 : decode cX0_doLine 19 = .ok (.iload_n 2, 1) := by decide +kernel
theorem dX0_doLine_20 : decode cX0_doLine 20 = .ok (.iaload, 1) := by decide +kernel
theorem dX0_doLine_21 : decode cX0_doLine 21 = .ok (.tableswitch 309 0 8 #[51, 62, 102, 121, 170, 199, 230, 254, 275], 51) := by decide +kernel
theorem dX0_doLine_72 : decode cX0_doLine 72 = .ok (.aload_n 0, 1) := by decide +kernel
theorem dX0_doLine_73 : decode cX0_doLine 73 = .ok (.getfield 9, 3) := by decide +kernel
theorem dX0_doLine_76 : decode cX0_doLine 76 = .ok (.iload_n 3, 1) := by decide +kernel
theorem dX0_doLine_77 : decode cX0_doLine 77 = .ok (.iload 4, 2) := by decide +kernel
theorem dX0_doLine_79 : decode cX0_doLine 79 = .ok (.iastore, 1) := by decide +kernel
theorem dX0_doLine_80 : decode cX0_doLine 80 = .ok (.goto 262, 3) := by decide +kernel
theorem dX0_doLine_83 : decode cX0_doLine 83 = .ok (.aload_n 0, 1) := by decide +kernel
theorem dX0_doLine_84 : decode cX0_doLine 84 = .ok (.iconst 4, 1) := by decide +kernel
theorem dX0_doLine_85 : decode cX0_doLine 85 = .ok (.invokevirtual 70, 3) := by decide +kernel
theorem dX0_doLine_88 : decode cX0_doLine 88 = .ok (.ifCond .eq 19, 3) := by decide +kernel
theorem dX0_doLine_91 : decode cX0_doLine 91 = .ok (.aload_n 0, 1) := by decide +kernel
theorem dX0_doLine_92 : decode cX0_doLine 92 = .ok (.getfield 9, 3) := by decide +kernel
theorem dX0_doLine_95 : decode cX0_doLine 95 = .ok (.iload 4, 2) := by decide +kernel
theorem dX0_doLine_97 : decode cX0_doLine 97 = .ok (.aload_n 0, 1) := by decide +kernel
theorem dX0_doLine_98 : decode cX0_doLine 98 = .ok (.getfield 9, 3) := by decide +kernel
theorem dX0_doLine_101 : decode cX0_doLine 101 = .ok (.iload_n 3, 1) := by decide +kernel
theorem dX0_doLine_102 : decode cX0_doLine 102 = .ok (.iaload, 1) := by decide +kernel
theorem dX0_doLine_103 : decode cX0_doLine 103 = .ok (.iastore, 1) := by decide +kernel
theorem dX0_doLine_104 : decode cX0_doLine 104 = .ok (.goto 238, 3) := by decide +kernel
theorem dX0_doLine_107 : decode cX0_doLine 107 = .ok (.aload_n 0, 1) := by decide +kernel
theorem dX0_doLine_108 : decode cX0_doLine 108 = .ok (.getfield 9, 3) := by decide +kernel
theorem dX0_doLine_111 : decode cX0_doLine 111 = .ok (.iload_n 3, 1) := by decide +kernel
theorem dX0_doLine_112 : decode cX0_doLine 112 = .ok (.aload_n 0, 1) := by decide +kernel
theorem dX0_doLine_113 : decode cX0_doLine 113 = .ok (.getfield 9, 3) := by decide +kernel
theorem dX0_doLine_116 : decode cX0_doLine 116 = .ok (.iload 4, 2) := by decide +kernel
theorem dX0_doLine_118 : decode cX0_doLine 118 = .ok (.iaload, 1) := by decide +kernel
theorem dX0_doLine_119 : decode cX0_doLine 119 = .ok (.iastore, 1) := by decide +kernel
theorem dX0_doLine_120 : decode cX0_doLine 120 = .ok (.goto 222, 3) := by decide +kernel
theorem dX0_doLine_123 : decode cX0_doLine 123 = .ok (.aload_n 0, 1) := by decide +kernel
theorem dX0_doLine_124 : decode cX0_doLine 124 = .ok (.getfield 9, 3) := by decide +kernel
theorem dX0_doLine_127 : decode cX0_doLine 127 = .ok (.iload_n 3, 1) := by decide +kernel
theorem dX0_doLine_128 : decode cX0_doLine 128 = .ok (.dup2, 1) := by decide +kernel
theorem dX0_doLine_129 : decode cX0_doLine 129 = .ok (.iaload, 1) := by decide +kernel
theorem dX0_doLine_130 : decode cX0_doLine 130 = .ok (.aload_n 0, 1) := by decide +kernel
theorem dX0_doLine_131 : decode cX0_doLine 131 = .ok (.getfield 9, 3) := by decide +kernel
theorem dX0_doLine_134 : decode cX0_doLine 134 = .ok (.iload 4, 2) := by decide +kernel
theorem dX0_doLine_136 : decode cX0_doLine 136 = .ok (.iaload, 1) := by decide +kernel
theorem dX0_doLine_137 : decode cX0_doLine 137 = .ok (.iadd, 1) := by decide +kernel
theorem dX0_doLine_138 : decode cX0_doLine 138 = .ok (.iastore, 1) := by decide +kernel
theorem dX0_doLine_139 : decode cX0_doLine 139 = .ok (.goto 203, 3) := by decide +kernel
theorem dX0_doLine_142 : decode cX0_doLine 142 = .ok (.aload_n 0, 1) := by decide +kernel
theorem dX0_doLine_143 : decode cX0_doLine 143 = .ok (.getfield 9, 3) := by decide +kernel
theorem dX0_doLine_146 : decode cX0_doLine 146 = .ok (.iload_n 3, 1) := by decide +kernel
theorem dX0_doLine_147 : decode cX0_doLine 147 = .ok (.aload_n 0, 1) := by decide +kernel
theorem dX0_doLine_148 : decode cX0_doLine 148 = .ok (.bipush 16, 2) := by decide +kernel
theorem dX0_doLine_150 : decode cX0_doLine 150 = .ok (.invokevirtual 70, 3) := by decide +kernel
theorem dX0_doLine_153 : decode cX0_doLine 153 = .ok (.ifCond .eq 20, 3) := by decide +kernel
theorem dX0_doLine_156 : decode cX0_doLine 156 = .ok (.aload_n 0, 1) := by decide +kernel
theorem dX0_doLine_157 : decode cX0_doLine 157 = .ok (.getfield 9, 3) := by decide +kernel
theorem dX0_doLine_160 : decode cX0_doLine 160 = .ok (.iload 4, 2) := by decide +kernel
theorem dX0_doLine_162 : decode cX0_doLine 162 = .ok (.iaload, 1) := by decide +kernel
theorem dX0_doLine_163 : decode cX0_doLine 163 = .ok (.aload_n 0, 1) := by decide +kernel
theorem dX0_doLine_164 : decode cX0_doLine 164 = .ok (.getfield 9, 3) := by decide +kernel
theorem dX0_doLine_167 : decode cX0_doLine 167 = .ok (.iload_n 3, 1) := by decide +kernel
theorem dX0_doLine_168 : decode cX0_doLine 168 = .ok (.iaload, 1) := by decide +kernel
theorem dX0_doLine_169 : decode cX0_doLine 169 = .ok (.isub, 1) := by decide +kernel
theorem dX0_doLine_170 : decode cX0_doLine 170 = .ok (.goto 17, 3) := by decide +kernel
theorem dX0_doLine_173 : decode cX0_doLine 173 = .ok (.aload_n 0, 1) := by decide +kernel
theorem dX0_doLine_174 : decode cX0_doLine 174 = .ok (.getfield 9, 3) := by decide +kernel
theorem dX0_doLine_177 : decode cX0_doLine 177 = .ok (.iload_n 3, 1) := by decide +kernel
theorem dX0_doLine_178 : decode cX0_doLine 178 = .ok (.iaload, 1) := by decide +kernel
theorem dX0_doLine_179 : decode cX0_doLine 179 = .ok (.aload_n 0, 1) := by decide +kernel
theorem dX0_doLine_180 : decode cX0_doLine 180 = .ok (.getfield 9, 3) := by decide +kernel
theorem dX0_doLine_183 : decode cX0_doLine 183 = .ok (.iload 4, 2) := by decide +kernel
theorem dX0_doLine_185 : decode cX0_doLine 185 = .ok (.iaload, 1) := by decide +kernel
theorem dX0_doLine_186 : decode cX0_doLine 186 = .ok (.isub, 1) := by decide +kernel
theorem dX0_doLine_187 : decode cX0_doLine 187 = .ok (.iastore, 1) := by decide +kernel
theorem dX0_doLine_188 : decode cX0_doLine 188 = .ok (.goto 154, 3) := by decide +kernel
theorem dX0_doLine_191 : decode cX0_doLine 191 = .ok (.aload_n 0, 1) := by decide +kernel
theorem dX0_doLine_192 : decode cX0_doLine 192 = .ok (.iload_n 2, 1) := by decide +kernel
theorem dX0_doLine_193 : decode cX0_doLine 193 = .ok (.iload_n 3, 1) := by decide +kernel
theorem dX0_doLine_194 : decode cX0_doLine 194 = .ok (.aload_n 0, 1) := by decide +kernel
theorem dX0_doLine_195 : decode cX0_doLine 195 = .ok (.iconst 2, 1) := by decide +kernel
theorem dX0_doLine_196 : decode cX0_doLine 196 = .ok (.invokevirtual 70, 3) := by decide +kernel
theorem dX0_doLine_199 : decode cX0_doLine 199 = .ok (.invokevirtual 74, 3) := by decide +kernel
theorem dX0_doLine_202 : decode cX0_doLine 202 = .ok (.ifCond .eq 9, 3) := by decide +kernel
theorem dX0_doLine_205 : decode cX0_doLine 205 = .ok (.iload_n 2, 1) := by decide +kernel
theorem dX0_doLine_206 : decode cX0_doLine 206 = .ok (.iconst 1, 1) := by decide +kernel
theorem dX0_doLine_207 : decode cX0_doLine 207 = .ok (.iadd, 1) := by decide +kernel
theorem dX0_doLine_208 : decode cX0_doLine 208 = .ok (.goto 11, 3) := by decide +kernel
theorem dX0_doLine_211 : decode cX0_doLine 211 = .ok (.aload_n 1, 1) := by decide +kernel
theorem dX0_doLine_212 : decode cX0_doLine 212 = .ok (.getfield 78, 3) := by decide +kernel
theorem dX0_doLine_215 : decode cX0_doLine 215 = .ok (.iload_n 2, 1) := by decide +kernel
theorem dX0_doLine_216 : decode cX0_doLine 216 = .ok (.iaload, 1) := by decide +kernel
theorem dX0_doLine_217 : decode cX0_doLine 217 = .ok (.iconst 1, 1) := by decide +kernel
theorem dX0_doLine_218 : decode cX0_doLine 218 = .ok (.iadd, 1) := by decide +kernel
theorem dX0_doLine_219 : decode cX0_doLine 219 = .ok (.ireturn, 1) := by decide +kernel
theorem dX0_doLine_220 : decode cX0_doLine 220 = .ok (.aload_n 0, 1) := by decide +kernel
theorem dX0_doLine_221 : decode cX0_doLine 221 = .ok (.iload_n 3, 1) := by decide +kernel
theorem dX0_doLine_222 : decode cX0_doLine 222 = .ok (.iload 4, 2) := by decide +kernel
theorem dX0_doLine_224 : decode cX0_doLine 224 = .ok (.aload_n 0, 1) := by decide +kernel
theorem dX0_doLine_225 : decode cX0_doLine 225 = .ok (.bipush 8, 2) := by decide +kernel
theorem dX0_doLine_227 : decode cX0_doLine 227 = .ok (.invokevirtual 70, 3) := by decide +kernel
theorem dX0_doLine_230 : decode cX0_doLine 230 = .ok (.invokevirtual 81, 3) := by decide +kernel
theorem dX0_doLine_233 : decode cX0_doLine 233 = .ok (.ifCond .eq 9, 3) := by decide +kernel
theorem dX0_doLine_236 : decode cX0_doLine 236 = .ok (.iload_n 2, 1) := by decide +kernel
theorem dX0_doLine_237 : decode cX0_doLine 237 = .ok (.iconst 1, 1) := by decide +kernel
theorem dX0_doLine_238 : decode cX0_doLine 238 = .ok (.iadd, 1) := by decide +kernel
theorem dX0_doLine_239 : decode cX0_doLine 239 = .ok (.goto 11, 3) := by decide +kernel
theorem dX0_doLine_242 : decode cX0_doLine 242 = .ok (.aload_n 1, 1) := by decide +kernel
theorem dX0_doLine_243 : decode cX0_doLine 243 = .ok (.getfield 78, 3) := by decide +kernel
theorem dX0_doLine_246 : decode cX0_doLine 246 = .ok (.iload_n 2, 1) := by decide +kernel
theorem dX0_doLine_247 : decode cX0_doLine 247 = .ok (.iaload, 1) := by decide +kernel
theorem dX0_doLine_248 : decode cX0_doLine 248 = .ok (.iconst 1, 1) := by decide +kernel
theorem dX0_doLine_249 : decode cX0_doLine 249 = .ok (.iadd, 1) := by decide +kernel
theorem dX0_doLine_250 : decode cX0_doLine 250 = .ok (.ireturn, 1) := by decide +kernel
theorem dX0_doLine_251 : decode cX0_doLine 251 = .ok (.aload_n 0, 1) := by decide +kernel
theorem dX0_doLine_252 : decode cX0_doLine 252 = .ok (.aload_n 1, 1) := by decide +kernel
theorem dX0_doLine_253 : decode cX0_doLine 253 = .ok (.iload_n 2, 1) := by decide +kernel
theorem dX0_doLine_254 : decode cX0_doLine 254 = .ok (.invokevirtual 84, 3) := by decide +kernel
theorem dX0_doLine_257 : decode cX0_doLine 257 = .ok (.ifCond .eq 14, 3) := by decide +kernel
theorem dX0_doLine_260 : decode cX0_doLine 260 = .ok (.aload_n 1, 1) := by decide +kernel
theorem dX0_doLine_261 : decode cX0_doLine 261 = .ok (.getfield 78, 3) := by decide +kernel
theorem dX0_doLine_264 : decode cX0_doLine 264 = .ok (.iload_n 2, 1) := by decide +kernel
theorem dX0_doLine_265 : decode cX0_doLine 265 = .ok (.iaload, 1) := by decide +kernel
theorem dX0_doLine_266 : decode cX0_doLine 266 = .ok (.iconst 1, 1) := by decide +kernel
theorem dX0_doLine_267 : decode cX0_doLine 267 = .ok (.iadd, 1) := by decide +kernel
theorem dX0_doLine_268 : decode cX0_doLine 268 = .ok (.goto 6, 3) := by decide +kernel
theorem dX0_doLine_271 : decode cX0_doLine 271 = .ok (.iload_n 2, 1) := by decide +kernel
theorem dX0_doLine_272 : decode cX0_doLine 272 = .ok (.iconst 1, 1) := by decide +kernel
theorem dX0_doLine_273 : decode cX0_doLine 273 = .ok (.iadd, 1) := by decide +kernel
theorem dX0_doLine_274 : decode cX0_doLine 274 = .ok (.ireturn, 1) := by decide +kernel
theorem dX0_doLine_275 : decode cX0_doLine 275 = .ok (.aload_n 0, 1) := by decide +kernel
theorem dX0_doLine_276 : decode cX0_doLine 276 = .ok (.getfield 15, 3) := by decide +kernel
theorem dX0_doLine_279 : decode cX0_doLine 279 = .ok (.aload_n 0, 1) := by decide +kernel
theorem dX0_doLine_280 : decode cX0_doLine 280 = .ok (.iload_n 3, 1) := by decide +kernel
theorem dX0_doLine_281 : decode cX0_doLine 281 = .ok (.iconst 0, 1) := by decide +kernel
theorem dX0_doLine_282 : decode cX0_doLine 282 = .ok (.invokevirtual 88, 3) := by decide +kernel
theorem dX0_doLine_285 : decode cX0_doLine 285 = .ok (.aload_n 0, 1) := by decide +kernel
theorem dX0_doLine_286 : decode cX0_doLine 286 = .ok (.getfield 9, 3) := by decide +kernel
theorem dX0_doLine_289 : decode cX0_doLine 289 = .ok (.iload 4, 2) := by decide +kernel
theorem dX0_doLine_291 : decode cX0_doLine 291 = .ok (.iaload, 1) := by decide +kernel
theorem dX0_doLine_292 : decode cX0_doLine 292 = .ok (.iastore, 1) := by decide +kernel
theorem dX0_doLine_293 : decode cX0_doLine 293 = .ok (.goto 49, 3) := by decide +kernel
theorem dX0_doLine_296 : decode cX0_doLine 296 = .ok (.aload_n 0, 1) := by decide +kernel
theorem dX0_doLine_297 : decode cX0_doLine 297 = .ok (.getfield 9, 3) := by decide +kernel
theorem dX0_doLine_300 : decode cX0_doLine 300 = .ok (.iload_n 3, 1) := by decide +kernel
theorem dX0_doLine_301 : decode cX0_doLine 301 = .ok (.aload_n 0, 1) := by decide +kernel
theorem dX0_doLine_302 : decode cX0_doLine 302 = .ok (.getfield 15, 3) := by decide +kernel
theorem dX0_doLine_305 : decode cX0_doLine 305 = .ok (.aload_n 0, 1) := by decide +kernel
theorem dX0_doLine_306 : decode cX0_doLine 306 = .ok (.iload 4, 2) := by decide +kernel
theorem dX0_doLine_308 : decode cX0_doLine 308 = .ok (.aload_n 0, 1) := by decide +kernel
theorem dX0_doLine_309 : decode cX0_doLine 309 = .ok (.bipush 32, 2) := by decide +kernel
theorem dX0_doLine_311 : decode cX0_doLine 311 = .ok (.invokevirtual 70, 3) := by decide +kernel
theorem dX0_doLine_314 : decode cX0_doLine 314 = .ok (.ifCond .eq 7, 3) := by decide +kernel
theorem dX0_doLine_317 : decode cX0_doLine 317 = .ok (.iconst 1, 1) := by decide +kernel
theorem dX0_doLine_318 : decode cX0_doLine 318 = .ok (.goto 4, 3) := by decide +kernel
theorem dX0_doLine_321 : decode cX0_doLine 321 = .ok (.iconst 0, 1) := by decide +kernel
theorem dX0_doLine_322 : decode cX0_doLine 322 = .ok (.invokevirtual 88, 3) := by decide +kernel
theorem dX0_doLine_325 : decode cX0_doLine 325 = .ok (.iaload, 1) := by decide +kernel
theorem dX0_doLine_326 : decode cX0_doLine 326 = .ok (.iastore, 1) := by decide +kernel
theorem dX0_doLine_327 : decode cX0_doLine 327 = .ok (.goto 15, 3) := by decide +kernel
theorem dX0_doLine_330 : decode cX0_doLine 330 = .ok (.aload_n 0, 1) := by decide +kernel
theorem dX0_doLine_331 : decode cX0_doLine 331 = .ok (.iload_n 3, 1) := by decide +kernel
theorem dX0_doLine_332 : decode cX0_doLine 332 = .ok (.iload 4, 2) := by decide +kernel
theorem dX0_doLine_334 : decode cX0_doLine 334 = .ok (.aload_n 0, 1) := by decide +kernel
theorem dX0_doLine_335 : decode cX0_doLine 335 = .ok (.iconst 1, 1) := by decide +kernel
theorem dX0_doLine_336 : decode cX0_doLine 336 = .ok (.invokevirtual 70, 3) := by decide +kernel
theorem dX0_doLine_339 : decode cX0_doLine 339 = .ok (.invokevirtual 92, 3) := by decide +kernel
theorem dX0_doLine_342 : decode cX0_doLine 342 = .ok (.iload_n 2, 1) := by decide +kernel
theorem dX0_doLine_343 : decode cX0_doLine 343 = .ok (.iconst 1, 1) := by decide +kernel
theorem dX0_doLine_344 : decode cX0_doLine 344 = .ok (.iadd, 1) := by decide +kernel
theorem dX0_doLine_345 : decode cX0_doLine 345 = .ok (.ireturn, 1) := by decide +kernel
theorem dX0_enterLoop_0 : decode cX0_enterLoop 0 = .ok (.aload_n 0, 1) := by decide +kernel
theorem dX0_enterLoop_1 : decode cX0_enterLoop 1 = .ok (.getfield 9, 3) := by decide +kernel
theorem dX0_enterLoop_4 : decode cX0_enterLoop 4 = .ok (.iload_n 2, 1) := by decide +kernel
theorem dX0_enterLoop_5 : decode cX0_enterLoop 5 = .ok (.iaload, 1) := by decide +kernel
theorem dX0_enterLoop_6 : decode cX0_enterLoop 6 = .ok (.ifCond .gt 5, 3) := by decide +kernel
theorem dX0_enterLoop_9 : decode cX0_enterLoop 9 = .ok (.iconst 0, 1) := by decide +kernel
theorem dX0_enterLoop_10 : decode cX0_enterLoop 10 = .ok (.ireturn, 1) := by decide +kernel
theorem dX0_enterLoop_11 : decode cX0_enterLoop 11 = .ok (.aload_n 0, 1) := by decide +kernel
theorem dX0_enterLoop_12 : decode cX0_enterLoop 12 = .ok (.getfield 24, 3) := by decide +kernel
theorem dX0_enterLoop_15 : decode cX0_enterLoop 15 = .ok (.iload_n 1, 1) := by decide +kernel
theorem dX0_enterLoop_16 : decode cX0_enterLoop 16 = .ok (.aload_n 0, 1) := by decide +kernel
theorem dX0_enterLoop_17 : decode cX0_enterLoop 17 = .ok (.getfield 9, 3) := by decide +kernel
theorem dX0_enterLoop_20 : decode cX0_enterLoop 20 = .ok (.iload_n 2, 1) := by decide +kernel
theorem dX0_enterLoop_21 : decode cX0_enterLoop 21 = .ok (.iaload, 1) := by decide +kernel
theorem dX0_enterLoop_22 : decode cX0_enterLoop 22 = .ok (.i2l, 1) := by decide +kernel
theorem dX0_enterLoop_23 : decode cX0_enterLoop 23 = .ok (.iload_n 3, 1) := by decide +kernel
theorem dX0_enterLoop_24 : decode cX0_enterLoop 24 = .ok (.ifCond .eq 7, 3) := by decide +kernel
theorem dX0_enterLoop_27 : decode cX0_enterLoop 27 = .ok (.iconst 1, 1) := by decide +kernel
theorem dX0_enterLoop_28 : decode cX0_enterLoop 28 = .ok (.goto 4, 3) := by decide +kernel
theorem dX0_enterLoop_31 : decode cX0_enterLoop 31 = .ok (.iconst 0, 1) := by decide +kernel
theorem dX0_enterLoop_32 : decode cX0_enterLoop 32 = .ok (.i2l, 1) := by decide +kernel
theorem dX0_enterLoop_33 : decode cX0_enterLoop 33 = .ok (.ladd, 1) := by decide +kernel
theorem dX0_enterLoop_34 : decode cX0_enterLoop 34 = .ok (.lastore, 1) := by decide +kernel
theorem dX0_enterLoop_35 : decode cX0_enterLoop 35 = .ok (.iconst 1, 1) := by decide +kernel
theorem dX0_enterLoop_36 : decode cX0_enterLoop 36 = .ok (.ireturn, 1) := by decide +kernel
theorem dX0_isLess_0 : decode cX0_isLess 0 = .ok (.aload_n 0, 1) := by decide +kernel
theorem dX0_isLess_1 : decode cX0_isLess 1 = .ok (.getfield 9, 3) := by decide +kernel
theorem dX0_isLess_4 : decode cX0_isLess 4 = .ok (.iload_n 1, 1) := by decide +kernel
theorem dX0_isLess_5 : decode cX0_isLess 5 = .ok (.iaload, 1) := by decide +kernel
theorem dX0_isLess_6 : decode cX0_isLess 6 = .ok (.aload_n 0, 1) := by decide +kernel
theorem dX0_isLess_7 : decode cX0_isLess 7 = .ok (.getfield 9, 3) := by decide +kernel
theorem dX0_isLess_10 : decode cX0_isLess 10 = .ok (.iload_n 2, 1) := by decide +kernel
theorem dX0_isLess_11 : decode cX0_isLess 11 = .ok (.iaload, 1) := by decide +kernel
theorem dX0_isLess_12 : decode cX0_isLess 12 = .ok (.if_icmp .lt 22, 3) := by decide +kernel
theorem dX0_isLess_15 : decode cX0_isLess 15 = .ok (.iload_n 3, 1) := by decide +kernel
theorem dX0_isLess_16 : decode cX0_isLess 16 = .ok (.ifCond .eq 22, 3) := by decide +kernel
theorem dX0_isLess_19 : decode cX0_isLess 19 = .ok (.aload_n 0, 1) := by decide +kernel
theorem dX0_isLess_20 : decode cX0_isLess 20 = .ok (.getfield 9, 3) := by decide +kernel
theorem dX0_isLess_23 : decode cX0_isLess 23 = .ok (.iload_n 1, 1) := by decide +kernel
theorem dX0_isLess_24 : decode cX0_isLess 24 = .ok (.iaload, 1) := by decide +kernel
theorem dX0_isLess_25 : decode cX0_isLess 25 = .ok (.aload_n 0, 1) := by decide +kernel
theorem dX0_isLess_26 : decode cX0_isLess 26 = .ok (.getfield 9, 3) := by decide +kernel
theorem dX0_isLess_29 : decode cX0_isLess 29 = .ok (.iload_n 2, 1) := by decide +kernel
theorem dX0_isLess_30 : decode cX0_isLess 30 = .ok (.iaload, 1) := by decide +kernel
theorem dX0_isLess_31 : decode cX0_isLess 31 = .ok (.if_icmp .ne 7, 3) := by decide +kernel
theorem dX0_isLess_34 : decode cX0_isLess 34 = .ok (.iconst 1, 1) := by decide +kernel
theorem dX0_isLess_35 : decode cX0_isLess 35 = .ok (.goto 4, 3) := by decide +kernel
theorem dX0_isLess_38 : decode cX0_isLess 38 = .ok (.iconst 0, 1) := by decide +kernel
theorem dX0_isLess_39 : decode cX0_isLess 39 = .ok (.ireturn, 1) := by decide +kernel
theorem dX0_goesRound_0 : decode cX0_goesRound 0 = .ok (.aload_n 1, 1) := by decide +kernel
theorem dX0_goesRound_1 : decode cX0_goesRound 1 = .ok (.getfield 78, 3) := by decide +kernel
theorem dX0_goesRound_4 : decode cX0_goesRound 4 = .ok (.iload_n 2, 1) := by decide +kernel
theorem dX0_goesRound_5 : decode cX0_goesRound 5 = .ok (.iaload, 1) := by decide +kernel
theorem dX0_goesRound_6 : decode cX0_goesRound 6 = .ok (.istore_n 3, 1) := by decide +kernel
theorem dX0_goesRound_7 : decode cX0_goesRound 7 = .ok (.aload_n 1, 1) := by decide +kernel
theorem dX0_goesRound_8 : decode cX0_goesRound 8 = .ok (.getfield 67, 3) := by decide +kernel
theorem dX0_goesRound_11 : decode cX0_goesRound 11 = .ok (.iload_n 3, 1) := by decide +kernel
theorem dX0_goesRound_12 : decode cX0_goesRound 12 = .ok (.iaload, 1) := by decide +kernel
theorem dX0_goesRound_13 : decode cX0_goesRound 13 = .ok (.iconst 4, 1) := by decide +kernel
theorem dX0_goesRound_14 : decode cX0_goesRound 14 = .ok (.if_icmp .eq 5, 3) := by decide +kernel
theorem dX0_goesRound_17 : decode cX0_goesRound 17 = .ok (.iconst 0, 1) := by decide +kernel
theorem dX0_goesRound_18 : decode cX0_goesRound 18 = .ok (.ireturn, 1) := by decide +kernel
theorem dX0_goesRound_19 : decode cX0_goesRound 19 = .ok (.aload_n 0, 1) := by decide +kernel
theorem dX0_goesRound_20 : decode cX0_goesRound 20 = .ok (.getfield 24, 3) := by decide +kernel
theorem dX0_goesRound_23 : decode cX0_goesRound 23 = .ok (.iload_n 3, 1) := by decide +kernel
theorem dX0_goesRound_24 : decode cX0_goesRound 24 = .ok (.dup2, 1) := by decide +kernel
theorem dX0_goesRound_25 : decode cX0_goesRound 25 = .ok (.laload, 1) := by decide +kernel
theorem dX0_goesRound_26 : decode cX0_goesRound 26 = .ok (.lconst 1, 1) := by decide +kernel
theorem dX0_goesRound_27 : decode cX0_goesRound 27 = .ok (.lsub, 1) := by decide +kernel
theorem dX0_goesRound_28 : decode cX0_goesRound 28 = .ok (.lastore, 1) := by decide +kernel
theorem dX0_goesRound_29 : decode cX0_goesRound 29 = .ok (.aload_n 0, 1) := by decide +kernel
theorem dX0_goesRound_30 : decode cX0_goesRound 30 = .ok (.getfield 24, 3) := by decide +kernel
theorem dX0_goesRound_33 : decode cX0_goesRound 33 = .ok (.iload_n 3, 1) := by decide +kernel
theorem dX0_goesRound_34 : decode cX0_goesRound 34 = .ok (.laload, 1) := by decide +kernel
theorem dX0_goesRound_35 : decode cX0_goesRound 35 = .ok (.lconst 0, 1) := by decide +kernel
theorem dX0_goesRound_36 : decode cX0_goesRound 36 = .ok (.lcmp, 1) := by decide +kernel
theorem dX0_goesRound_37 : decode cX0_goesRound 37 = .ok (.ifCond .le 7, 3) := by decide +kernel
theorem dX0_goesRound_40 : decode cX0_goesRound 40 = .ok (.iconst 1, 1) := by decide +kernel
theorem dX0_goesRound_41 : decode cX0_goesRound 41 = .ok (.goto 4, 3) := by decide +kernel
theorem dX0_goesRound_44 : decode cX0_goesRound 44 = .ok (.iconst 0, 1) := by decide +kernel
theorem dX0_goesRound_45 : decode cX0_goesRound 45 = .ok (.ireturn, 1) := by decide +kernel
theorem dX0_placeOf_0 : decode cX0_placeOf 0 = .ok (.aload_n 0, 1) := by decide +kernel
theorem dX0_placeOf_1 : decode cX0_placeOf 1 = .ok (.getfield 18, 3) := by decide +kernel
theorem dX0_placeOf_4 : decode cX0_placeOf 4 = .ok (.iload_n 1, 1) := by decide +kernel
theorem dX0_placeOf_5 : decode cX0_placeOf 5 = .ok (.iconst 4, 1) := by decide +kernel
theorem dX0_placeOf_6 : decode cX0_placeOf 6 = .ok (.idiv, 1) := by decide +kernel
theorem dX0_placeOf_7 : decode cX0_placeOf 7 = .ok (.iaload, 1) := by decide +kernel
theorem dX0_placeOf_8 : decode cX0_placeOf 8 = .ok (.aload_n 0, 1) := by decide +kernel
theorem dX0_placeOf_9 : decode cX0_placeOf 9 = .ok (.getfield 9, 3) := by decide +kernel
theorem dX0_placeOf_12 : decode cX0_placeOf 12 = .ok (.iload_n 1, 1) := by decide +kernel
theorem dX0_placeOf_13 : decode cX0_placeOf 13 = .ok (.iconst 4, 1) := by decide +kernel
theorem dX0_placeOf_14 : decode cX0_placeOf 14 = .ok (.irem, 1) := by decide +kernel
theorem dX0_placeOf_15 : decode cX0_placeOf 15 = .ok (.iaload, 1) := by decide +kernel
theorem dX0_placeOf_16 : decode cX0_placeOf 16 = .ok (.iload_n 2, 1) := by decide +kernel
theorem dX0_placeOf_17 : decode cX0_placeOf 17 = .ok (.iadd, 1) := by decide +kernel
theorem dX0_placeOf_18 : decode cX0_placeOf 18 = .ok (.iconst 3, 1) := by decide +kernel
theorem dX0_placeOf_19 : decode cX0_placeOf 19 = .ok (.iand, 1) := by decide +kernel
theorem dX0_placeOf_20 : decode cX0_placeOf 20 = .ok (.iadd, 1) := by decide +kernel
theorem dX0_placeOf_21 : decode cX0_placeOf 21 = .ok (.ireturn, 1) := by decide +kernel
theorem dX0_doShare_0 : decode cX0_doShare 0 = .ok (.iload_n 3, 1) := by decide +kernel
theorem dX0_doShare_1 : decode cX0_doShare 1 = .ok (.ifCond .eq 49, 3) := by decide +kernel
theorem dX0_doShare_4 : decode cX0_doShare 4 = .ok (.iconst 0, 1) := by decide +kernel
theorem dX0_doShare_5 : decode cX0_doShare 5 = .ok (.istore 4, 2) := by decide +kernel
theorem dX0_doShare_7 : decode cX0_doShare 7 = .ok (.iload 4, 2) := by decide +kernel
theorem dX0_doShare_9 : decode cX0_doShare 9 = .ok (.iconst 4, 1) := by decide +kernel
theorem dX0_doShare_10 : decode cX0_doShare 10 = .ok (.if_icmp .ge 37, 3) := by decide +kernel
theorem dX0_doShare_13 : decode cX0_doShare 13 = .ok (.aload_n 0, 1) := by decide +kernel
theorem dX0_doShare_14 : decode cX0_doShare 14 = .ok (.getfield 15, 3) := by decide +kernel
theorem dX0_doShare_17 : decode cX0_doShare 17 = .ok (.aload_n 0, 1) := by decide +kernel
theorem dX0_doShare_18 : decode cX0_doShare 18 = .ok (.getfield 18, 3) := by decide +kernel
theorem dX0_doShare_21 : decode cX0_doShare 21 = .ok (.iload_n 1, 1) := by decide +kernel
theorem dX0_doShare_22 : decode cX0_doShare 22 = .ok (.iaload, 1) := by decide +kernel
theorem dX0_doShare_23 : decode cX0_doShare 23 = .ok (.iload 4, 2) := by decide +kernel
theorem dX0_doShare_25 : decode cX0_doShare 25 = .ok (.iadd, 1) := by decide +kernel
theorem dX0_doShare_26 : decode cX0_doShare 26 = .ok (.aload_n 0, 1) := by decide +kernel
theorem dX0_doShare_27 : decode cX0_doShare 27 = .ok (.getfield 15, 3) := by decide +kernel
theorem dX0_doShare_30 : decode cX0_doShare 30 = .ok (.aload_n 0, 1) := by decide +kernel
theorem dX0_doShare_31 : decode cX0_doShare 31 = .ok (.getfield 18, 3) := by decide +kernel
theorem dX0_doShare_34 : decode cX0_doShare 34 = .ok (.iload_n 2, 1) := by decide +kernel
theorem dX0_doShare_35 : decode cX0_doShare 35 = .ok (.iaload, 1) := by decide +kernel
theorem dX0_doShare_36 : decode cX0_doShare 36 = .ok (.iload 4, 2) := by decide +kernel
theorem dX0_doShare_38 : decode cX0_doShare 38 = .ok (.iadd, 1) := by decide +kernel
theorem dX0_doShare_39 : decode cX0_doShare 39 = .ok (.iaload, 1) := by decide +kernel
theorem dX0_doShare_40 : decode cX0_doShare 40 = .ok (.iastore, 1) := by decide +kernel
theorem dX0_doShare_41 : decode cX0_doShare 41 = .ok (.iinc 4 1, 3) := by decide +kernel
theorem dX0_doShare_44 : decode cX0_doShare 44 = .ok (.goto (-37), 3) := by decide +kernel
theorem dX0_doShare_47 : decode cX0_doShare 47 = .ok (.goto 15, 3) := by decide +kernel
theorem dX0_doShare_50 : decode cX0_doShare 50 = .ok (.aload_n 0, 1) := by decide +kernel
theorem dX0_doShare_51 : decode cX0_doShare 51 = .ok (.getfield 18, 3) := by decide +kernel
theorem dX0_doShare_54 : decode cX0_doShare 54 = .ok (.iload_n 1, 1) := by decide +kernel
theorem dX0_doShare_55 : decode cX0_doShare 55 = .ok (.aload_n 0, 1) := by decide +kernel
theorem dX0_doShare_56 : decode cX0_doShare 56 = .ok (.getfield 18, 3) := by decide +kernel
theorem dX0_doShare_59 : decode cX0_doShare 59 = .ok (.iload_n 2, 1) := by decide +kernel
theorem dX0_doShare_60 : decode cX0_doShare 60 = .ok (.iaload, 1) := by decide +kernel
theorem dX0_doShare_61 : decode cX0_doShare 61 = .ok (.iastore, 1) := by decide +kernel
theorem dX0_doShare_62 : decode cX0_doShare 62 = .ok (.return_, 1) := by decide +kernel
theorem dX0_cellOf_0 : decode cX0_cellOf 0 = .ok (.aload_n 0, 1) := by decide +kernel
theorem dX0_cellOf_1 : decode cX0_cellOf 1 = .ok (.getfield 15, 3) := by decide +kernel
theorem dX0_cellOf_4 : decode cX0_cellOf 4 = .ok (.aload_n 0, 1) := by decide +kernel
theorem dX0_cellOf_5 : decode cX0_cellOf 5 = .ok (.getfield 18, 3) := by decide +kernel
theorem dX0_cellOf_8 : decode cX0_cellOf 8 = .ok (.iload_n 1, 1) := by decide +kernel
theorem dX0_cellOf_9 : decode cX0_cellOf 9 = .ok (.iconst 4, 1) := by decide +kernel
theorem dX0_cellOf_10 : decode cX0_cellOf 10 = .ok (.idiv, 1) := by decide +kernel
theorem dX0_cellOf_11 : decode cX0_cellOf 11 = .ok (.iaload, 1) := by decide +kernel
theorem dX0_cellOf_12 : decode cX0_cellOf 12 = .ok (.iload_n 1, 1) := by decide +kernel
theorem dX0_cellOf_13 : decode cX0_cellOf 13 = .ok (.iconst 4, 1) := by decide +kernel
theorem dX0_cellOf_14 : decode cX0_cellOf 14 = .ok (.irem, 1) := by decide +kernel
theorem dX0_cellOf_15 : decode cX0_cellOf 15 = .ok (.iadd, 1) := by decide +kernel
theorem dX0_cellOf_16 : decode cX0_cellOf 16 = .ok (.iaload, 1) := by decide +kernel
theorem dX0_cellOf_17 : decode cX0_cellOf 17 = .ok (.ireturn, 1) := by decide +kernel
theorem dX0_namesShare_0 : decode cX0_namesShare 0 = .ok (.aload_n 0, 1) := by decide +kernel
theorem dX0_namesShare_1 : decode cX0_namesShare 1 = .ok (.getfield 18, 3) := by decide +kernel
theorem dX0_namesShare_4 : decode cX0_namesShare 4 = .ok (.iconst 0, 1) := by decide +kernel
theorem dX0_namesShare_5 : decode cX0_namesShare 5 = .ok (.iaload, 1) := by decide +kernel
theorem dX0_namesShare_6 : decode cX0_namesShare 6 = .ok (.aload_n 0, 1) := by decide +kernel
theorem dX0_namesShare_7 : decode cX0_namesShare 7 = .ok (.getfield 18, 3) := by decide +kernel
theorem dX0_namesShare_10 : decode cX0_namesShare 10 = .ok (.iconst 1, 1) := by decide +kernel
theorem dX0_namesShare_11 : decode cX0_namesShare 11 = .ok (.iaload, 1) := by decide +kernel
theorem dX0_namesShare_12 : decode cX0_namesShare 12 = .ok (.if_icmp .ne 7, 3) := by decide +kernel
theorem dX0_namesShare_15 : decode cX0_namesShare 15 = .ok (.iconst 1, 1) := by decide +kernel
theorem dX0_namesShare_16 : decode cX0_namesShare 16 = .ok (.goto 4, 3) := by decide +kernel
theorem dX0_namesShare_19 : decode cX0_namesShare 19 = .ok (.iconst 0, 1) := by decide +kernel
theorem dX0_namesShare_20 : decode cX0_namesShare 20 = .ok (.ireturn, 1) := by decide +kernel
theorem dX0_answerTo_0 : decode cX0_answerTo 0 = .ok (.iload_n 1, 1) := by decide +kernel
theorem dX0_answerTo_1 : decode cX0_answerTo 1 = .ok (.lookupswitch 41 #[(0, 27), (1, 34)], 27) := by decide +kernel
theorem dX0_answerTo_28 : decode cX0_answerTo 28 = .ok (.aload_n 0, 1) := by decide +kernel
theorem dX0_answerTo_29 : decode cX0_answerTo 29 = .ok (.getfield 9, 3) := by decide +kernel
theorem dX0_answerTo_32 : decode cX0_answerTo 32 = .ok (.iload_n 2, 1) := by decide +kernel
theorem dX0_answerTo_33 : decode cX0_answerTo 33 = .ok (.iaload, 1) := by decide +kernel
theorem dX0_answerTo_34 : decode cX0_answerTo 34 = .ok (.ireturn, 1) := by decide +kernel
theorem dX0_answerTo_35 : decode cX0_answerTo 35 = .ok (.aload_n 0, 1) := by decide +kernel
theorem dX0_answerTo_36 : decode cX0_answerTo 36 = .ok (.getfield 21, 3) := by decide +kernel
theorem dX0_answerTo_39 : decode cX0_answerTo 39 = .ok (.iload_n 2, 1) := by decide +kernel
theorem dX0_answerTo_40 : decode cX0_answerTo 40 = .ok (.iaload, 1) := by decide +kernel
theorem dX0_answerTo_41 : decode cX0_answerTo 41 = .ok (.ireturn, 1) := by decide +kernel
theorem dX0_answerTo_42 : decode cX0_answerTo 42 = .ok (.aload_n 0, 1) := by decide +kernel
theorem dX0_answerTo_43 : decode cX0_answerTo 43 = .ok (.iload_n 2, 1) := by decide +kernel
theorem dX0_answerTo_44 : decode cX0_answerTo 44 = .ok (.invokevirtual 96, 3) := by decide +kernel
theorem dX0_answerTo_47 : decode cX0_answerTo 47 = .ok (.ireturn, 1) := by decide +kernel
theorem dX0_endsWithVariablesOf_0 : decode cX0_endsWithVariablesOf 0 = .ok (.aload_n 0, 1) := by decide +kernel
theorem dX0_endsWithVariablesOf_1 : decode cX0_endsWithVariablesOf 1 = .ok (.getfield 51, 3) := by decide +kernel
theorem dX0_endsWithVariablesOf_4 : decode cX0_endsWithVariablesOf 4 = .ok (.ifCond .ne 10, 3) := by decide +kernel
theorem dX0_endsWithVariablesOf_7 : decode cX0_endsWithVariablesOf 7 = .ok (.aload_n 1, 1) := by decide +kernel
theorem dX0_endsWithVariablesOf_8 : decode cX0_endsWithVariablesOf 8 = .ok (.getfield 51, 3) := by decide +kernel
theorem dX0_endsWithVariablesOf_11 : decode cX0_endsWithVariablesOf 11 = .ok (.ifCond .eq 23, 3) := by decide +kernel
theorem dX0_endsWithVariablesOf_14 : decode cX0_endsWithVariablesOf 14 = .ok (.aload_n 0, 1) := by decide +kernel
theorem dX0_endsWithVariablesOf_15 : decode cX0_endsWithVariablesOf 15 = .ok (.getfield 51, 3) := by decide +kernel
theorem dX0_endsWithVariablesOf_18 : decode cX0_endsWithVariablesOf 18 = .ok (.ifCond .eq 14, 3) := by decide +kernel
theorem dX0_endsWithVariablesOf_21 : decode cX0_endsWithVariablesOf 21 = .ok (.aload_n 1, 1) := by decide +kernel
theorem dX0_endsWithVariablesOf_22 : decode cX0_endsWithVariablesOf 22 = .ok (.getfield 51, 3) := by decide +kernel
theorem dX0_endsWithVariablesOf_25 : decode cX0_endsWithVariablesOf 25 = .ok (.ifCond .eq 7, 3) := by decide +kernel
theorem dX0_endsWithVariablesOf_28 : decode cX0_endsWithVariablesOf 28 = .ok (.iconst 1, 1) := by decide +kernel
theorem dX0_endsWithVariablesOf_29 : decode cX0_endsWithVariablesOf 29 = .ok (.goto 4, 3) := by decide +kernel
theorem dX0_endsWithVariablesOf_32 : decode cX0_endsWithVariablesOf 32 = .ok (.iconst 0, 1) := by decide +kernel
theorem dX0_endsWithVariablesOf_33 : decode cX0_endsWithVariablesOf 33 = .ok (.ireturn, 1) := by decide +kernel
theorem dX0_endsWithVariablesOf_34 : decode cX0_endsWithVariablesOf 34 = .ok (.iconst 0, 1) := by decide +kernel
theorem dX0_endsWithVariablesOf_35 : decode cX0_endsWithVariablesOf 35 = .ok (.istore_n 2, 1) := by decide +kernel
theorem dX0_endsWithVariablesOf_36 : decode cX0_endsWithVariablesOf 36 = .ok (.iload_n 2, 1) := by decide +kernel
theorem dX0_endsWithVariablesOf_37 : decode cX0_endsWithVariablesOf 37 = .ok (.iconst 4, 1) := by decide +kernel
theorem dX0_endsWithVariablesOf_38 : decode cX0_endsWithVariablesOf 38 = .ok (.if_icmp .ge 26, 3) := by decide +kernel
theorem dX0_endsWithVariablesOf_41 : decode cX0_endsWithVariablesOf 41 = .ok (.aload_n 0, 1) := by decide +kernel
theorem dX0_endsWithVariablesOf_42 : decode cX0_endsWithVariablesOf 42 = .ok (.getfield 9, 3) := by decide +kernel
theorem dX0_endsWithVariablesOf_45 : decode cX0_endsWithVariablesOf 45 = .ok (.iload_n 2, 1) := by decide +kernel
theorem dX0_endsWithVariablesOf_46 : decode cX0_endsWithVariablesOf 46 = .ok (.iaload, 1) := by decide +kernel
theorem dX0_endsWithVariablesOf_47 : decode cX0_endsWithVariablesOf 47 = .ok (.aload_n 1, 1) := by decide +kernel
theorem dX0_endsWithVariablesOf_48 : decode cX0_endsWithVariablesOf 48 = .ok (.getfield 9, 3) := by decide +kernel
theorem dX0_endsWithVariablesOf_51 : decode cX0_endsWithVariablesOf 51 = .ok (.iload_n 2, 1) := by decide +kernel
theorem dX0_endsWithVariablesOf_52 : decode cX0_endsWithVariablesOf 52 = .ok (.iaload, 1) := by decide +kernel
theorem dX0_endsWithVariablesOf_53 : decode cX0_endsWithVariablesOf 53 = .ok (.if_icmp .eq 5, 3) := by decide +kernel
theorem dX0_endsWithVariablesOf_56 : decode cX0_endsWithVariablesOf 56 = .ok (.iconst 0, 1) := by decide +kernel
theorem dX0_endsWithVariablesOf_57 : decode cX0_endsWithVariablesOf 57 = .ok (.ireturn, 1) := by decide +kernel
theorem dX0_endsWithVariablesOf_58 : decode cX0_endsWithVariablesOf 58 = .ok (.iinc 2 1, 3) := by decide +kernel
theorem dX0_endsWithVariablesOf_61 : decode cX0_endsWithVariablesOf 61 = .ok (.goto (-25), 3) := by decide +kernel
theorem dX0_endsWithVariablesOf_64 : decode cX0_endsWithVariablesOf 64 = .ok (.iconst 1, 1) := by decide +kernel
theorem dX0_endsWithVariablesOf_65 : decode cX0_endsWithVariablesOf 65 = .ok (.ireturn, 1) := by decide +kernel
theorem dX0_endsLike_0 : decode cX0_endsLike 0 = .ok (.aload_n 0, 1) := by decide +kernel
theorem dX0_endsLike_1 : decode cX0_endsLike 1 = .ok (.aload_n 1, 1) := by decide +kernel
theorem dX0_endsLike_2 : decode cX0_endsLike 2 = .ok (.invokevirtual 100, 3) := by decide +kernel
theorem dX0_endsLike_5 : decode cX0_endsLike 5 = .ok (.ifCond .ne 5, 3) := by decide +kernel
theorem dX0_endsLike_8 : decode cX0_endsLike 8 = .ok (.iconst 0, 1) := by decide +kernel
theorem dX0_endsLike_9 : decode cX0_endsLike 9 = .ok (.ireturn, 1) := by decide +kernel
theorem dX0_endsLike_10 : decode cX0_endsLike 10 = .ok (.aload_n 0, 1) := by decide +kernel
theorem dX0_endsLike_11 : decode cX0_endsLike 11 = .ok (.getfield 51, 3) := by decide +kernel
theorem dX0_endsLike_14 : decode cX0_endsLike 14 = .ok (.ifCond .eq 5, 3) := by decide +kernel
theorem dX0_endsLike_17 : decode cX0_endsLike 17 = .ok (.iconst 1, 1) := by decide +kernel
theorem dX0_endsLike_18 : decode cX0_endsLike 18 = .ok (.ireturn, 1) := by decide +kernel
theorem dX0_endsLike_19 : decode cX0_endsLike 19 = .ok (.iconst 0, 1) := by decide +kernel
theorem dX0_endsLike_20 : decode cX0_endsLike 20 = .ok (.istore_n 2, 1) := by decide +kernel
theorem dX0_endsLike_21 : decode cX0_endsLike 21 = .ok (.iload_n 2, 1) := by decide +kernel
theorem dX0_endsLike_22 : decode cX0_endsLike 22 = .ok (.bipush 8, 2) := by decide +kernel
theorem dX0_endsLike_24 : decode cX0_endsLike 24 = .ok (.if_icmp .ge 24, 3) := by decide +kernel
theorem dX0_endsLike_27 : decode cX0_endsLike 27 = .ok (.aload_n 0, 1) := by decide +kernel
theorem dX0_endsLike_28 : decode cX0_endsLike 28 = .ok (.iload_n 2, 1) := by decide +kernel
theorem dX0_endsLike_29 : decode cX0_endsLike 29 = .ok (.invokevirtual 96, 3) := by decide +kernel
theorem dX0_endsLike_32 : decode cX0_endsLike 32 = .ok (.aload_n 1, 1) := by decide +kernel
theorem dX0_endsLike_33 : decode cX0_endsLike 33 = .ok (.iload_n 2, 1) := by decide +kernel
theorem dX0_endsLike_34 : decode cX0_endsLike 34 = .ok (.invokevirtual 96, 3) := by decide +kernel
theorem dX0_endsLike_37 : decode cX0_endsLike 37 = .ok (.if_icmp .eq 5, 3) := by decide +kernel
theorem dX0_endsLike_40 : decode cX0_endsLike 40 = .ok (.iconst 0, 1) := by decide +kernel
theorem dX0_endsLike_41 : decode cX0_endsLike 41 = .ok (.ireturn, 1) := by decide +kernel
theorem dX0_endsLike_42 : decode cX0_endsLike 42 = .ok (.iinc 2 1, 3) := by decide +kernel
theorem dX0_endsLike_45 : decode cX0_endsLike 45 = .ok (.goto (-24), 3) := by decide +kernel
theorem dX0_endsLike_48 : decode cX0_endsLike 48 = .ok (.iconst 1, 1) := by decide +kernel
theorem dX0_endsLike_49 : decode cX0_endsLike 49 = .ok (.ireturn, 1) := by decide +kernel
theorem dX1_init_0 : decode cX1_init 0 = .ok (.aload_n 0, 1) := by decide +kernel
theorem dX1_init_1 : decode cX1_init 1 = .ok (.invokespecial 3, 3) := by decide +kernel
theorem dX1_init_4 : decode cX1_init 4 = .ok (.aload_n 0, 1) := by decide +kernel
theorem dX1_init_5 : decode cX1_init 5 = .ok (.bipush 20, 2) := by decide +kernel
theorem dX1_init_7 : decode cX1_init 7 = .ok (.newarray .int, 2) := by decide +kernel
theorem dX1_init_9 : decode cX1_init 9 = .ok (.putfield 9, 3) := by decide +kernel
theorem dX1_init_12 : decode cX1_init 12 = .ok (.aload_n 0, 1) := by decide +kernel
theorem dX1_init_13 : decode cX1_init 13 = .ok (.bipush 20, 2) := by decide +kernel
theorem dX1_init_15 : decode cX1_init 15 = .ok (.newarray .int, 2) := by decide +kernel
theorem dX1_init_17 : decode cX1_init 17 = .ok (.putfield 15, 3) := by decide +kernel
theorem dX1_init_20 : decode cX1_init 20 = .ok (.aload_n 0, 1) := by decide +kernel
theorem dX1_init_21 : decode cX1_init 21 = .ok (.bipush 20, 2) := by decide +kernel
theorem dX1_init_23 : decode cX1_init 23 = .ok (.newarray .int, 2) := by decide +kernel
theorem dX1_init_25 : decode cX1_init 25 = .ok (.putfield 18, 3) := by decide +kernel
theorem dX1_init_28 : decode cX1_init 28 = .ok (.aload_n 0, 1) := by decide +kernel
theorem dX1_init_29 : decode cX1_init 29 = .ok (.bipush 20, 2) := by decide +kernel
theorem dX1_init_31 : decode cX1_init 31 = .ok (.newarray .int, 2) := by decide +kernel
theorem dX1_init_33 : decode cX1_init 33 = .ok (.putfield 21, 3) := by decide +kernel
theorem dX1_init_36 : decode cX1_init 36 = .ok (.aload_n 0, 1) := by decide +kernel
theorem dX1_init_37 : decode cX1_init 37 = .ok (.bipush 20, 2) := by decide +kernel
theorem dX1_init_39 : decode cX1_init 39 = .ok (.newarray .int, 2) := by decide +kernel
theorem dX1_init_41 : decode cX1_init 41 = .ok (.putfield 24, 3) := by decide +kernel
theorem dX1_init_44 : decode cX1_init 44 = .ok (.aload_n 0, 1) := by decide +kernel
theorem dX1_init_45 : decode cX1_init 45 = .ok (.bipush 20, 2) := by decide +kernel
theorem dX1_init_47 : decode cX1_init 47 = .ok (.newarray .int, 2) := by decide +kernel
theorem dX1_init_49 : decode cX1_init 49 = .ok (.putfield 27, 3) := by decide +kernel
theorem dX1_init_52 : decode cX1_init 52 = .ok (.return_, 1) := by decide +kernel
theorem dX1_hasLine_0 : decode cX1_hasLine 0 = .ok (.iload_n 1, 1) := by decide +kernel
theorem dX1_hasLine_1 : decode cX1_hasLine 1 = .ok (.ifCond .lt 15, 3) := by decide +kernel
theorem dX1_hasLine_4 : decode cX1_hasLine 4 = .ok (.iload_n 1, 1) := by decide +kernel
theorem dX1_hasLine_5 : decode cX1_hasLine 5 = .ok (.aload_n 0, 1) := by decide +kernel
theorem dX1_hasLine_6 : decode cX1_hasLine 6 = .ok (.getfield 30, 3) := by decide +kernel
theorem dX1_hasLine_9 : decode cX1_hasLine 9 = .ok (.if_icmp .ge 7, 3) := by decide +kernel
theorem dX1_hasLine_12 : decode cX1_hasLine 12 = .ok (.iconst 1, 1) := by decide +kernel
theorem dX1_hasLine_13 : decode cX1_hasLine 13 = .ok (.goto 4, 3) := by decide +kernel
theorem dX1_hasLine_16 : decode cX1_hasLine 16 = .ok (.iconst 0, 1) := by decide +kernel
theorem dX1_hasLine_17 : decode cX1_hasLine 17 = .ok (.ireturn, 1) := by decide +kernel
theorem dX1_isWhole_0 : decode cX1_isWhole 0 = .ok (.aload_n 0, 1) := by decide +kernel
theorem dX1_isWhole_1 : decode cX1_isWhole 1 = .ok (.getfield 34, 3) := by decide +kernel
theorem dX1_isWhole_4 : decode cX1_isWhole 4 = .ok (.ifCond .ne 7, 3) := by decide +kernel
theorem dX1_isWhole_7 : decode cX1_isWhole 7 = .ok (.iconst 1, 1) := by decide +kernel
theorem dX1_isWhole_8 : decode cX1_isWhole 8 = .ok (.goto 4, 3) := by decide +kernel
theorem dX1_isWhole_11 : decode cX1_isWhole 11 = .ok (.iconst 0, 1) := by decide +kernel
theorem dX1_isWhole_12 : decode cX1_isWhole 12 = .ok (.ireturn, 1) := by decide +kernel
theorem dX1_append_0 : decode cX1_append 0 = .ok (.aload_n 0, 1) := by decide +kernel
theorem dX1_append_1 : decode cX1_append 1 = .ok (.getfield 30, 3) := by decide +kernel
theorem dX1_append_4 : decode cX1_append 4 = .ok (.bipush 20, 2) := by decide +kernel
theorem dX1_append_6 : decode cX1_append 6 = .ok (.if_icmp .lt 6, 3) := by decide +kernel
theorem dX1_append_9 : decode cX1_append 9 = .ok (.bipush (-2), 2) := by decide +kernel
theorem dX1_append_11 : decode cX1_append 11 = .ok (.ireturn, 1) := by decide +kernel
theorem dX1_append_12 : decode cX1_append 12 = .ok (.aload_n 0, 1) := by decide +kernel
theorem dX1_append_13 : decode cX1_append 13 = .ok (.getfield 9, 3) := by decide +kernel
theorem dX1_append_16 : decode cX1_append 16 = .ok (.aload_n 0, 1) := by decide +kernel
theorem dX1_append_17 : decode cX1_append 17 = .ok (.getfield 30, 3) := by decide +kernel
theorem dX1_append_20 : decode cX1_append 20 = .ok (.iload_n 1, 1) := by decide +kernel
theorem dX1_append_21 : decode cX1_append 21 = .ok (.iastore, 1) := by decide +kernel
theorem dX1_append_22 : decode cX1_append 22 = .ok (.aload_n 0, 1) := by decide +kernel
theorem dX1_append_23 : decode cX1_append 23 = .ok (.getfield 15, 3) := by decide +kernel
theorem dX1_append_26 : decode cX1_append 26 = .ok (.aload_n 0, 1) := by decide +kernel
theorem dX1_append_27 : decode cX1_append 27 = .ok (.getfield 30, 3) := by decide +kernel
theorem dX1_append_30 : decode cX1_append 30 = .ok (.iload_n 2, 1) := by decide +kernel
theorem dX1_append_31 : decode cX1_append 31 = .ok (.iastore, 1) := by decide +kernel
theorem dX1_append_32 : decode cX1_append 32 = .ok (.aload_n 0, 1) := by decide +kernel
theorem dX1_append_33 : decode cX1_append 33 = .ok (.getfield 18, 3) := by decide +kernel
theorem dX1_append_36 : decode cX1_append 36 = .ok (.aload_n 0, 1) := by decide +kernel
theorem dX1_append_37 : decode cX1_append 37 = .ok (.getfield 30, 3) := by decide +kernel
theorem dX1_append_40 : decode cX1_append 40 = .ok (.iload_n 3, 1) := by decide +kernel
theorem dX1_append_41 : decode cX1_append 41 = .ok (.iastore, 1) := by decide +kernel
theorem dX1_append_42 : decode cX1_append 42 = .ok (.aload_n 0, 1) := by decide +kernel
theorem dX1_append_43 : decode cX1_append 43 = .ok (.getfield 21, 3) := by decide +kernel
theorem dX1_append_46 : decode cX1_append 46 = .ok (.aload_n 0, 1) := by decide +kernel
theorem dX1_append_47 : decode cX1_append 47 = .ok (.getfield 30, 3) := by decide +kernel
theorem dX1_append_50 : decode cX1_append 50 = .ok (.aload_n 0, 1) := by decide +kernel
theorem dX1_append_51 : decode cX1_append 51 = .ok (.getfield 34, 3) := by decide +kernel
theorem dX1_append_54 : decode cX1_append 54 = .ok (.iastore, 1) := by decide +kernel
theorem dX1_append_55 : decode cX1_append 55 = .ok (.iload_n 1, 1) := by decide +kernel
theorem dX1_append_56 : decode cX1_append 56 = .ok (.iconst 4, 1) := by decide +kernel
theorem dX1_append_57 : decode cX1_append 57 = .ok (.if_icmp .eq 8, 3) := by decide +kernel
theorem dX1_append_60 : decode cX1_append 60 = .ok (.iload_n 1, 1) := by decide +kernel
theorem dX1_append_61 : decode cX1_append 61 = .ok (.iconst 5, 1) := by decide +kernel
theorem dX1_append_62 : decode cX1_append 62 = .ok (.if_icmp .ne 29, 3) := by decide +kernel
theorem dX1_append_65 : decode cX1_append 65 = .ok (.aload_n 0, 1) := by decide +kernel
theorem dX1_append_66 : decode cX1_append 66 = .ok (.getfield 27, 3) := by decide +kernel
theorem dX1_append_69 : decode cX1_append 69 = .ok (.aload_n 0, 1) := by decide +kernel
theorem dX1_append_70 : decode cX1_append 70 = .ok (.getfield 34, 3) := by decide +kernel
theorem dX1_append_73 : decode cX1_append 73 = .ok (.aload_n 0, 1) := by decide +kernel
theorem dX1_append_74 : decode cX1_append 74 = .ok (.getfield 30, 3) := by decide +kernel
theorem dX1_append_77 : decode cX1_append 77 = .ok (.iastore, 1) := by decide +kernel
theorem dX1_append_78 : decode cX1_append 78 = .ok (.aload_n 0, 1) := by decide +kernel
theorem dX1_append_79 : decode cX1_append 79 = .ok (.dup, 1) := by decide +kernel
theorem dX1_append_80 : decode cX1_append 80 = .ok (.getfield 34, 3) := by decide +kernel
theorem dX1_append_83 : decode cX1_append 83 = .ok (.iconst 1, 1) := by decide +kernel
theorem dX1_append_84 : decode cX1_append 84 = .ok (.iadd, 1) := by decide +kernel
theorem dX1_append_85 : decode cX1_append 85 = .ok (.putfield 34, 3) := by decide +kernel
theorem dX1_append_88 : decode cX1_append 88 = .ok (.goto 62, 3) := by decide +kernel
theorem dX1_append_91 : decode cX1_append 91 = .ok (.iload_n 1, 1) := by decide +kernel
theorem dX1_append_92 : decode cX1_append 92 = .ok (.bipush 6, 2) := by decide +kernel
theorem dX1_append_94 : decode cX1_append 94 = .ok (.if_icmp .ne 56, 3) := by decide +kernel
theorem dX1_append_97 : decode cX1_append 97 = .ok (.aload_n 0, 1) := by decide +kernel
theorem dX1_append_98 : decode cX1_append 98 = .ok (.getfield 34, 3) := by decide +kernel
theorem dX1_append_101 : decode cX1_append 101 = .ok (.ifCond .le 49, 3) := by decide +kernel
theorem dX1_append_104 : decode cX1_append 104 = .ok (.aload_n 0, 1) := by decide +kernel
theorem dX1_append_105 : decode cX1_append 105 = .ok (.dup, 1) := by decide +kernel
theorem dX1_append_106 : decode cX1_append 106 = .ok (.getfield 34, 3) := by decide +kernel
theorem dX1_append_109 : decode cX1_append 109 = .ok (.iconst 1, 1) := by decide +kernel
theorem dX1_append_110 : decode cX1_append 110 = .ok (.isub, 1) := by decide +kernel
theorem dX1_append_111 : decode cX1_append 111 = .ok (.putfield 34, 3) := by decide +kernel
theorem dX1_append_114 : decode cX1_append 114 = .ok (.aload_n 0, 1) := by decide +kernel
theorem dX1_append_115 : decode cX1_append 115 = .ok (.getfield 24, 3) := by decide +kernel
theorem dX1_append_118 : decode cX1_append 118 = .ok (.aload_n 0, 1) := by decide +kernel
theorem dX1_append_119 : decode cX1_append 119 = .ok (.getfield 30, 3) := by decide +kernel
theorem dX1_append_122 : decode cX1_append 122 = .ok (.aload_n 0, 1) := by decide +kernel
theorem dX1_append_123 : decode cX1_append 123 = .ok (.getfield 27, 3) := by decide +kernel
theorem dX1_append_126 : decode cX1_append 126 = .ok (.aload_n 0, 1) := by decide +kernel
theorem dX1_append_127 : decode cX1_append 127 = .ok (.getfield 34, 3) := by decide +kernel
theorem dX1_append_130 : decode cX1_append 130 = .ok (.iaload, 1) := by decide +kernel
theorem dX1_append_131 : decode cX1_append 131 = .ok (.iastore, 1) := by decide +kernel
theorem dX1_append_132 : decode cX1_append 132 = .ok (.aload_n 0, 1) := by decide +kernel
theorem dX1_append_133 : decode cX1_append 133 = .ok (.getfield 24, 3) := by decide +kernel
theorem dX1_append_136 : decode cX1_append 136 = .ok (.aload_n 0, 1) := by decide +kernel
theorem dX1_append_137 : decode cX1_append 137 = .ok (.getfield 27, 3) := by decide +kernel
theorem dX1_append_140 : decode cX1_append 140 = .ok (.aload_n 0, 1) := by decide +kernel
theorem dX1_append_141 : decode cX1_append 141 = .ok (.getfield 34, 3) := by decide +kernel
theorem dX1_append_144 : decode cX1_append 144 = .ok (.iaload, 1) := by decide +kernel
theorem dX1_append_145 : decode cX1_append 145 = .ok (.aload_n 0, 1) := by decide +kernel
theorem dX1_append_146 : decode cX1_append 146 = .ok (.getfield 30, 3) := by decide +kernel
theorem dX1_append_149 : decode cX1_append 149 = .ok (.iastore, 1) := by decide +kernel
theorem dX1_append_150 : decode cX1_append 150 = .ok (.aload_n 0, 1) := by decide +kernel
theorem dX1_append_151 : decode cX1_append 151 = .ok (.dup, 1) := by decide +kernel
theorem dX1_append_152 : decode cX1_append 152 = .ok (.getfield 30, 3) := by decide +kernel
theorem dX1_append_155 : decode cX1_append 155 = .ok (.dup_x1, 1) := by decide +kernel
theorem dX1_append_156 : decode cX1_append 156 = .ok (.iconst 1, 1) := by decide +kernel
theorem dX1_append_157 : decode cX1_append 157 = .ok (.iadd, 1) := by decide +kernel
theorem dX1_append_158 : decode cX1_append 158 = .ok (.putfield 30, 3) := by decide +kernel
theorem dX1_append_161 : decode cX1_append 161 = .ok (.ireturn, 1) := by decide +kernel
theorem dX2_init_0 : decode cX2_init 0 = .ok (.aload_n 0, 1) := by decide +kernel
theorem dX2_init_1 : decode cX2_init 1 = .ok (.invokespecial 3, 3) := by decide +kernel
theorem dX2_init_4 : decode cX2_init 4 = .ok (.aload_n 0, 1) := by decide +kernel
theorem dX2_init_5 : decode cX2_init 5 = .ok (.bipush 60, 2) := by decide +kernel
theorem dX2_init_7 : decode cX2_init 7 = .ok (.newarray .int, 2) := by decide +kernel
theorem dX2_init_9 : decode cX2_init 9 = .ok (.putfield 9, 3) := by decide +kernel
theorem dX2_init_12 : decode cX2_init 12 = .ok (.return_, 1) := by decide +kernel
theorem dX2_hasAnswered_0 : decode cX2_hasAnswered 0 = .ok (.aload_n 0, 1) := by decide +kernel
theorem dX2_hasAnswered_1 : decode cX2_hasAnswered 1 = .ok (.getfield 15, 3) := by decide +kernel
theorem dX2_hasAnswered_4 : decode cX2_hasAnswered 4 = .ok (.iload_n 1, 1) := by decide +kernel
theorem dX2_hasAnswered_5 : decode cX2_hasAnswered 5 = .ok (.invokestatic 19, 3) := by decide +kernel
theorem dX2_hasAnswered_8 : decode cX2_hasAnswered 8 = .ok (.ireturn, 1) := by decide +kernel
theorem dX2_note_0 : decode cX2_note 0 = .ok (.aload_n 0, 1) := by decide +kernel
theorem dX2_note_1 : decode cX2_note 1 = .ok (.getfield 9, 3) := by decide +kernel
theorem dX2_note_4 : decode cX2_note 4 = .ok (.iload_n 1, 1) := by decide +kernel
theorem dX2_note_5 : decode cX2_note 5 = .ok (.iload_n 2, 1) := by decide +kernel
theorem dX2_note_6 : decode cX2_note 6 = .ok (.iastore, 1) := by decide +kernel
theorem dX2_note_7 : decode cX2_note 7 = .ok (.aload_n 0, 1) := by decide +kernel
theorem dX2_note_8 : decode cX2_note 8 = .ok (.dup, 1) := by decide +kernel
theorem dX2_note_9 : decode cX2_note 9 = .ok (.getfield 15, 3) := by decide +kernel
theorem dX2_note_12 : decode cX2_note 12 = .ok (.lconst 1, 1) := by decide +kernel
theorem dX2_note_13 : decode cX2_note 13 = .ok (.iload_n 1, 1) := by decide +kernel
theorem dX2_note_14 : decode cX2_note 14 = .ok (.lshl, 1) := by decide +kernel
theorem dX2_note_15 : decode cX2_note 15 = .ok (.lor, 1) := by decide +kernel
theorem dX2_note_16 : decode cX2_note 16 = .ok (.putfield 15, 3) := by decide +kernel
theorem dX2_note_19 : decode cX2_note 19 = .ok (.aload_n 0, 1) := by decide +kernel
theorem dX2_note_20 : decode cX2_note 20 = .ok (.getfield 15, 3) := by decide +kernel
theorem dX2_note_23 : decode cX2_note 23 = .ok (.invokestatic 23, 3) := by decide +kernel
theorem dX2_note_26 : decode cX2_note 26 = .ok (.ireturn, 1) := by decide +kernel
theorem dX3_init_0 : decode cX3_init 0 = .ok (.aload_n 0, 1) := by decide +kernel
theorem dX3_init_1 : decode cX3_init 1 = .ok (.invokespecial 3, 3) := by decide +kernel
theorem dX3_init_4 : decode cX3_init 4 = .ok (.aload_n 0, 1) := by decide +kernel
theorem dX3_init_5 : decode cX3_init 5 = .ok (.bipush 64, 2) := by decide +kernel
theorem dX3_init_7 : decode cX3_init 7 = .ok (.newarray .int, 2) := by decide +kernel
theorem dX3_init_9 : decode cX3_init 9 = .ok (.putfield 9, 3) := by decide +kernel
theorem dX3_init_12 : decode cX3_init 12 = .ok (.aload_n 0, 1) := by decide +kernel
theorem dX3_init_13 : decode cX3_init 13 = .ok (.aload_n 1, 1) := by decide +kernel
theorem dX3_init_14 : decode cX3_init 14 = .ok (.putfield 15, 3) := by decide +kernel
theorem dX3_init_17 : decode cX3_init 17 = .ok (.aload_n 0, 1) := by decide +kernel
theorem dX3_init_18 : decode cX3_init 18 = .ok (.iload_n 2, 1) := by decide +kernel
theorem dX3_init_19 : decode cX3_init 19 = .ok (.putfield 19, 3) := by decide +kernel
theorem dX3_init_22 : decode cX3_init 22 = .ok (.aload_n 0, 1) := by decide +kernel
theorem dX3_init_23 : decode cX3_init 23 = .ok (.iload_n 3, 1) := by decide +kernel
theorem dX3_init_24 : decode cX3_init 24 = .ok (.putfield 23, 3) := by decide +kernel
theorem dX3_init_27 : decode cX3_init 27 = .ok (.aload_n 0, 1) := by decide +kernel
theorem dX3_init_28 : decode cX3_init 28 = .ok (.iload 4, 2) := by decide +kernel
theorem dX3_init_30 : decode cX3_init 30 = .ok (.putfield 26, 3) := by decide +kernel
theorem dX3_init_33 : decode cX3_init 33 = .ok (.return_, 1) := by decide +kernel
theorem dX3_knows_0 : decode cX3_knows 0 = .ok (.aload_n 0, 1) := by decide +kernel
theorem dX3_knows_1 : decode cX3_knows 1 = .ok (.getfield 29, 3) := by decide +kernel
theorem dX3_knows_4 : decode cX3_knows 4 = .ok (.iload_n 1, 1) := by decide +kernel
theorem dX3_knows_5 : decode cX3_knows 5 = .ok (.invokestatic 33, 3) := by decide +kernel
theorem dX3_knows_8 : decode cX3_knows 8 = .ok (.ireturn, 1) := by decide +kernel
theorem dX3_keep_0 : decode cX3_keep 0 = .ok (.aload_n 0, 1) := by decide +kernel
theorem dX3_keep_1 : decode cX3_keep 1 = .ok (.getfield 9, 3) := by decide +kernel
theorem dX3_keep_4 : decode cX3_keep 4 = .ok (.iload_n 1, 1) := by decide +kernel
theorem dX3_keep_5 : decode cX3_keep 5 = .ok (.iload_n 2, 1) := by decide +kernel
theorem dX3_keep_6 : decode cX3_keep 6 = .ok (.iastore, 1) := by decide +kernel
theorem dX3_keep_7 : decode cX3_keep 7 = .ok (.aload_n 0, 1) := by decide +kernel
theorem dX3_keep_8 : decode cX3_keep 8 = .ok (.dup, 1) := by decide +kernel
theorem dX3_keep_9 : decode cX3_keep 9 = .ok (.getfield 29, 3) := by decide +kernel
theorem dX3_keep_12 : decode cX3_keep 12 = .ok (.lconst 1, 1) := by decide +kernel
theorem dX3_keep_13 : decode cX3_keep 13 = .ok (.iload_n 1, 1) := by decide +kernel
theorem dX3_keep_14 : decode cX3_keep 14 = .ok (.lshl, 1) := by decide +kernel
theorem dX3_keep_15 : decode cX3_keep 15 = .ok (.lor, 1) := by decide +kernel
theorem dX3_keep_16 : decode cX3_keep 16 = .ok (.putfield 29, 3) := by decide +kernel
theorem dX3_keep_19 : decode cX3_keep 19 = .ok (.return_, 1) := by decide +kernel
theorem dX4_init_0 : decode cX4_init 0 = .ok (.aload_n 0, 1) := by decide +kernel
theorem dX4_init_1 : decode cX4_init 1 = .ok (.invokespecial 3, 3) := by decide +kernel
theorem dX4_init_4 : decode cX4_init 4 = .ok (.aload_n 0, 1) := by decide +kernel
theorem dX4_init_5 : decode cX4_init 5 = .ok (.bipush 10, 2) := by decide +kernel
theorem dX4_init_7 : decode cX4_init 7 = .ok (.anewarray 9, 3) := by decide +kernel
theorem dX4_init_10 : decode cX4_init 10 = .ok (.putfield 11, 3) := by decide +kernel
theorem dX4_init_13 : decode cX4_init 13 = .ok (.aload_n 0, 1) := by decide +kernel
theorem dX4_init_14 : decode cX4_init 14 = .ok (.bipush 60, 2) := by decide +kernel
theorem dX4_init_16 : decode cX4_init 16 = .ok (.anewarray 15, 3) := by decide +kernel
theorem dX4_init_19 : decode cX4_init 19 = .ok (.putfield 17, 3) := by decide +kernel
theorem dX4_init_22 : decode cX4_init 22 = .ok (.aload_n 0, 1) := by decide +kernel
theorem dX4_init_23 : decode cX4_init 23 = .ok (.bipush 10, 2) := by decide +kernel
theorem dX4_init_25 : decode cX4_init 25 = .ok (.anewarray 21, 3) := by decide +kernel
theorem dX4_init_28 : decode cX4_init 28 = .ok (.putfield 23, 3) := by decide +kernel
theorem dX4_init_31 : decode cX4_init 31 = .ok (.aload_n 0, 1) := by decide +kernel
theorem dX4_init_32 : decode cX4_init 32 = .ok (.bipush 7, 2) := by decide +kernel
theorem dX4_init_34 : decode cX4_init 34 = .ok (.newarray .int, 2) := by decide +kernel
theorem dX4_init_36 : decode cX4_init 36 = .ok (.putfield 27, 3) := by decide +kernel
theorem dX4_init_39 : decode cX4_init 39 = .ok (.aload_n 0, 1) := by decide +kernel
theorem dX4_init_40 : decode cX4_init 40 = .ok (.new 31, 3) := by decide +kernel
theorem dX4_init_43 : decode cX4_init 43 = .ok (.dup, 1) := by decide +kernel
theorem dX4_init_44 : decode cX4_init 44 = .ok (.invokespecial 33, 3) := by decide +kernel
theorem dX4_init_47 : decode cX4_init 47 = .ok (.putfield 34, 3) := by decide +kernel
theorem dX4_init_50 : decode cX4_init 50 = .ok (.aload_n 0, 1) := by decide +kernel
theorem dX4_init_51 : decode cX4_init 51 = .ok (.new 31, 3) := by decide +kernel
theorem dX4_init_54 : decode cX4_init 54 = .ok (.dup, 1) := by decide +kernel
theorem dX4_init_55 : decode cX4_init 55 = .ok (.invokespecial 33, 3) := by decide +kernel
theorem dX4_init_58 : decode cX4_init 58 = .ok (.putfield 38, 3) := by decide +kernel
theorem dX4_init_61 : decode cX4_init 61 = .ok (.aload_n 0, 1) := by decide +kernel
theorem dX4_init_62 : decode cX4_init 62 = .ok (.new 31, 3) := by decide +kernel
theorem dX4_init_65 : decode cX4_init 65 = .ok (.dup, 1) := by decide +kernel
theorem dX4_init_66 : decode cX4_init 66 = .ok (.invokespecial 33, 3) := by decide +kernel
theorem dX4_init_69 : decode cX4_init 69 = .ok (.putfield 41, 3) := by decide +kernel
theorem dX4_init_72 : decode cX4_init 72 = .ok (.aload_n 0, 1) := by decide +kernel
theorem dX4_init_73 : decode cX4_init 73 = .ok (.bipush 7, 2) := by decide +kernel
theorem dX4_init_75 : decode cX4_init 75 = .ok (.newarray .int, 2) := by decide +kernel
theorem dX4_init_77 : decode cX4_init 77 = .ok (.putfield 44, 3) := by decide +kernel
theorem dX4_init_80 : decode cX4_init 80 = .ok (.aload_n 0, 1) := by decide +kernel
theorem dX4_init_81 : decode cX4_init 81 = .ok (.bipush 7, 2) := by decide +kernel
theorem dX4_init_83 : decode cX4_init 83 = .ok (.newarray .int, 2) := by decide +kernel
theorem dX4_init_85 : decode cX4_init 85 = .ok (.putfield 47, 3) := by decide +kernel
theorem dX4_init_88 : decode cX4_init 88 = .ok (.aload_n 0, 1) := by decide +kernel
theorem dX4_init_89 : decode cX4_init 89 = .ok (.bipush 64, 2) := by decide +kernel
theorem dX4_init_91 : decode cX4_init 91 = .ok (.newarray .int, 2) := by decide +kernel
theorem dX4_init_93 : decode cX4_init 93 = .ok (.putfield 50, 3) := by decide +kernel
theorem dX4_init_96 : decode cX4_init 96 = .ok (.aload_n 0, 1) := by decide +kernel
theorem dX4_init_97 : decode cX4_init 97 = .ok (.bipush 12, 2) := by decide +kernel
theorem dX4_init_99 : decode cX4_init 99 = .ok (.newarray .int, 2) := by decide +kernel
theorem dX4_init_101 : decode cX4_init 101 = .ok (.putfield 53, 3) := by decide +kernel
theorem dX4_init_104 : decode cX4_init 104 = .ok (.iconst 0, 1) := by decide +kernel
theorem dX4_init_105 : decode cX4_init 105 = .ok (.istore_n 1, 1) := by decide +kernel
theorem dX4_init_106 : decode cX4_init 106 = .ok (.iload_n 1, 1) := by decide +kernel
theorem dX4_init_107 : decode cX4_init 107 = .ok (.bipush 10, 2) := by decide +kernel
theorem dX4_init_109 : decode cX4_init 109 = .ok (.if_icmp .ge 22, 3) := by decide +kernel
theorem dX4_init_112 : decode cX4_init 112 = .ok (.aload_n 0, 1) := by decide +kernel
theorem dX4_init_113 : decode cX4_init 113 = .ok (.getfield 23, 3) := by decide +kernel
theorem dX4_init_116 : decode cX4_init 116 = .ok (.iload_n 1, 1) := by decide +kernel
theorem dX4_init_117 : decode cX4_init 117 = .ok (.new 21, 3) := by decide +kernel
theorem dX4_init_120 : decode cX4_init 120 = .ok (.dup, 1) := by decide +kernel
theorem dX4_init_121 : decode cX4_init 121 = .ok (.invokespecial 56, 3) := by decide +kernel
theorem dX4_init_124 : decode cX4_init 124 = .ok (.aastore, 1) := by decide +kernel
theorem dX4_init_125 : decode cX4_init 125 = .ok (.iinc 1 1, 3) := by decide +kernel
theorem dX4_init_128 : decode cX4_init 128 = .ok (.goto (-22), 3) := by decide +kernel
theorem dX4_init_131 : decode cX4_init 131 = .ok (.aload_n 0, 1) := by decide +kernel
theorem dX4_init_132 : decode cX4_init 132 = .ok (.getfield 27, 3) := by decide +kernel
theorem dX4_init_135 : decode cX4_init 135 = .ok (.iconst 3, 1) := by decide +kernel
theorem dX4_init_136 : decode cX4_init 136 = .ok (.invokestatic 57, 3) := by decide +kernel
theorem dX4_init_139 : decode cX4_init 139 = .ok (.aload_n 0, 1) := by decide +kernel
theorem dX4_init_140 : decode cX4_init 140 = .ok (.getfield 27, 3) := by decide +kernel
theorem dX4_init_143 : decode cX4_init 143 = .ok (.bipush 6, 2) := by decide +kernel
theorem dX4_init_145 : decode cX4_init 145 = .ok (.iconst 5, 1) := by decide +kernel
theorem dX4_init_146 : decode cX4_init 146 = .ok (.iastore, 1) := by decide +kernel
theorem dX4_init_147 : decode cX4_init 147 = .ok (.return_, 1) := by decide +kernel
theorem dX4_program_0 : decode cX4_program 0 = .ok (.aload_n 0, 1) := by decide +kernel
theorem dX4_program_1 : decode cX4_program 1 = .ok (.getfield 63, 3) := by decide +kernel
theorem dX4_program_4 : decode cX4_program 4 = .ok (.bipush 10, 2) := by decide +kernel
theorem dX4_program_6 : decode cX4_program 6 = .ok (.if_icmp .lt 6, 3) := by decide +kernel
theorem dX4_program_9 : decode cX4_program 9 = .ok (.bipush (-2), 2) := by decide +kernel
theorem dX4_program_11 : decode cX4_program 11 = .ok (.ireturn, 1) := by decide +kernel
theorem dX4_program_12 : decode cX4_program 12 = .ok (.aload_n 0, 1) := by decide +kernel
theorem dX4_program_13 : decode cX4_program 13 = .ok (.getfield 11, 3) := by decide +kernel
theorem dX4_program_16 : decode cX4_program 16 = .ok (.aload_n 0, 1) := by decide +kernel
theorem dX4_program_17 : decode cX4_program 17 = .ok (.getfield 63, 3) := by decide +kernel
theorem dX4_program_20 : decode cX4_program 20 = .ok (.new 9, 3) := by decide +kernel
theorem dX4_program_23 : decode cX4_program 23 = .ok (.dup, 1) := by decide +kernel
theorem dX4_program_24 : decode cX4_program 24 = .ok (.invokespecial 67, 3) := by decide +kernel
theorem dX4_program_27 : decode cX4_program 27 = .ok (.aastore, 1) := by decide +kernel
theorem dX4_program_28 : decode cX4_program 28 = .ok (.aload_n 0, 1) := by decide +kernel
theorem dX4_program_29 : decode cX4_program 29 = .ok (.dup, 1) := by decide +kernel
theorem dX4_program_30 : decode cX4_program 30 = .ok (.getfield 63, 3) := by decide +kernel
theorem dX4_program_33 : decode cX4_program 33 = .ok (.dup_x1, 1) := by decide +kernel
theorem dX4_program_34 : decode cX4_program 34 = .ok (.iconst 1, 1) := by decide +kernel
theorem dX4_program_35 : decode cX4_program 35 = .ok (.iadd, 1) := by decide +kernel
theorem dX4_program_36 : decode cX4_program 36 = .ok (.putfield 63, 3) := by decide +kernel
theorem dX4_program_39 : decode cX4_program 39 = .ok (.ireturn, 1) := by decide +kernel
theorem dX4_line_0 : decode cX4_line 0 = .ok (.aload_n 0, 1) := by decide +kernel
theorem dX4_line_1 : decode cX4_line 1 = .ok (.iload_n 1, 1) := by decide +kernel
theorem dX4_line_2 : decode cX4_line 2 = .ok (.invokevirtual 68, 3) := by decide +kernel
theorem dX4_line_5 : decode cX4_line 5 = .ok (.astore 5, 2) := by decide +kernel
theorem dX4_line_7 : decode cX4_line 7 = .ok (.aload 5, 2) := by decide +kernel
theorem dX4_line_9 : decode cX4_line 9 = .ok (.ifnull 13, 3) := by decide +kernel
theorem dX4_line_12 : decode cX4_line 12 = .ok (.iload_n 2, 1) := by decide +kernel
theorem dX4_line_13 : decode cX4_line 13 = .ok (.iload_n 3, 1) := by decide +kernel
theorem dX4_line_14 : decode cX4_line 14 = .ok (.iload 4, 2) := by decide +kernel
theorem dX4_line_16 : decode cX4_line 16 = .ok (.invokestatic 72, 3) := by decide +kernel
theorem dX4_line_19 : decode cX4_line 19 = .ok (.ifCond .ne 5, 3) := by decide +kernel
theorem dX4_line_22 : decode cX4_line 22 = .ok (.iconst (-1), 1) := by decide +kernel
theorem dX4_line_23 : decode cX4_line 23 = .ok (.ireturn, 1) := by decide +kernel
theorem dX4_line_24 : decode cX4_line 24 = .ok (.aload 5, 2) := by decide +kernel
theorem dX4_line_26 : decode cX4_line 26 = .ok (.getfield 76, 3) := by decide +kernel
theorem dX4_line_29 : decode cX4_line 29 = .ok (.ifCond .ne 17, 3) := by decide +kernel
theorem dX4_line_32 : decode cX4_line 32 = .ok (.iload_n 2, 1) := by decide +kernel
theorem dX4_line_33 : decode cX4_line 33 = .ok (.bipush 6, 2) := by decide +kernel
theorem dX4_line_35 : decode cX4_line 35 = .ok (.if_icmp .ne 14, 3) := by decide +kernel
theorem dX4_line_38 : decode cX4_line 38 = .ok (.aload 5, 2) := by decide +kernel
theorem dX4_line_40 : decode cX4_line 40 = .ok (.invokevirtual 80, 3) := by decide +kernel
theorem dX4_line_43 : decode cX4_line 43 = .ok (.ifCond .eq 6, 3) := by decide +kernel
theorem dX4_line_46 : decode cX4_line 46 = .ok (.bipush (-3), 2) := by decide +kernel
theorem dX4_line_48 : decode cX4_line 48 = .ok (.ireturn, 1) := by decide +kernel
theorem dX4_line_49 : decode cX4_line 49 = .ok (.aload 5, 2) := by decide +kernel
theorem dX4_line_51 : decode cX4_line 51 = .ok (.getfield 84, 3) := by decide +kernel
theorem dX4_line_54 : decode cX4_line 54 = .ok (.bipush 20, 2) := by decide +kernel
theorem dX4_line_56 : decode cX4_line 56 = .ok (.if_icmp .lt 6, 3) := by decide +kernel
theorem dX4_line_59 : decode cX4_line 59 = .ok (.bipush (-2), 2) := by decide +kernel
theorem dX4_line_61 : decode cX4_line 61 = .ok (.ireturn, 1) := by decide +kernel
theorem dX4_line_62 : decode cX4_line 62 = .ok (.aload_n 0, 1) := by decide +kernel
theorem dX4_line_63 : decode cX4_line 63 = .ok (.dup, 1) := by decide +kernel
theorem dX4_line_64 : decode cX4_line 64 = .ok (.getfield 87, 3) := by decide +kernel
theorem dX4_line_67 : decode cX4_line 67 = .ok (.iconst 1, 1) := by decide +kernel
theorem dX4_line_68 : decode cX4_line 68 = .ok (.iadd, 1) := by decide +kernel
theorem dX4_line_69 : decode cX4_line 69 = .ok (.putfield 87, 3) := by decide +kernel
theorem dX4_line_72 : decode cX4_line 72 = .ok (.aload 5, 2) := by decide +kernel
theorem dX4_line_74 : decode cX4_line 74 = .ok (.iload_n 2, 1) := by decide +kernel
theorem dX4_line_75 : decode cX4_line 75 = .ok (.iload_n 3, 1) := by decide +kernel
theorem dX4_line_76 : decode cX4_line 76 = .ok (.iload 4, 2) := by decide +kernel
theorem dX4_line_78 : decode cX4_line 78 = .ok (.invokevirtual 90, 3) := by decide +kernel
theorem dX4_line_81 : decode cX4_line 81 = .ok (.ireturn, 1) := by decide +kernel
theorem dX4_about_0 : decode cX4_about 0 = .ok (.aload_n 0, 1) := by decide +kernel
theorem dX4_about_1 : decode cX4_about 1 = .ok (.iload_n 1, 1) := by decide +kernel
theorem dX4_about_2 : decode cX4_about 2 = .ok (.invokevirtual 68, 3) := by decide +kernel
theorem dX4_about_5 : decode cX4_about 5 = .ok (.astore 4, 2) := by decide +kernel
theorem dX4_about_7 : decode cX4_about 7 = .ok (.aload 4, 2) := by decide +kernel
theorem dX4_about_9 : decode cX4_about 9 = .ok (.ifnull 12, 3) := by decide +kernel
theorem dX4_about_12 : decode cX4_about 12 = .ok (.aload 4, 2) := by decide +kernel
theorem dX4_about_14 : decode cX4_about 14 = .ok (.iload_n 2, 1) := by decide +kernel
theorem dX4_about_15 : decode cX4_about 15 = .ok (.invokevirtual 94, 3) := by decide +kernel
theorem dX4_about_18 : decode cX4_about 18 = .ok (.ifCond .ne 6, 3) := by decide +kernel
theorem dX4_about_21 : decode cX4_about 21 = .ok (.ldc 98, 2) := by decide +kernel
theorem dX4_about_23 : decode cX4_about 23 = .ok (.ireturn, 1) := by decide +kernel
theorem dX4_about_24 : decode cX4_about 24 = .ok (.iload_n 3, 1) := by decide +kernel
theorem dX4_about_25 : decode cX4_about 25 = .ok (.tableswitch 63 0 3 #[31, 39, 47, 55], 31) := by decide +kernel
theorem dX4_about_56 : decode cX4_about 56 = .ok (.aload 4, 2) := by decide +kernel
theorem dX4_about_58 : decode cX4_about 58 = .ok (.getfield 99, 3) := by decide +kernel
theorem dX4_about_61 : decode cX4_about 61 = .ok (.iload_n 2, 1) := by decide +kernel
theorem dX4_about_62 : decode cX4_about 62 = .ok (.iaload, 1) := by decide +kernel
theorem dX4_about_63 : decode cX4_about 63 = .ok (.ireturn, 1) := by decide +kernel
theorem dX4_about_64 : decode cX4_about 64 = .ok (.aload 4, 2) := by decide +kernel
theorem dX4_about_66 : decode cX4_about 66 = .ok (.getfield 102, 3) := by decide +kernel
theorem dX4_about_69 : decode cX4_about 69 = .ok (.iload_n 2, 1) := by decide +kernel
theorem dX4_about_70 : decode cX4_about 70 = .ok (.iaload, 1) := by decide +kernel
theorem dX4_about_71 : decode cX4_about 71 = .ok (.ireturn, 1) := by decide +kernel
theorem dX4_about_72 : decode cX4_about 72 = .ok (.aload 4, 2) := by decide +kernel
theorem dX4_about_74 : decode cX4_about 74 = .ok (.getfield 105, 3) := by decide +kernel
theorem dX4_about_77 : decode cX4_about 77 = .ok (.iload_n 2, 1) := by decide +kernel
theorem dX4_about_78 : decode cX4_about 78 = .ok (.iaload, 1) := by decide +kernel
theorem dX4_about_79 : decode cX4_about 79 = .ok (.ireturn, 1) := by decide +kernel
theorem dX4_about_80 : decode cX4_about 80 = .ok (.aload 4, 2) := by decide +kernel
theorem dX4_about_82 : decode cX4_about 82 = .ok (.getfield 108, 3) := by decide +kernel
theorem dX4_about_85 : decode cX4_about 85 = .ok (.iload_n 2, 1) := by decide +kernel
theorem dX4_about_86 : decode cX4_about 86 = .ok (.iaload, 1) := by decide +kernel
theorem dX4_about_87 : decode cX4_about 87 = .ok (.ireturn, 1) := by decide +kernel
theorem dX4_about_88 : decode cX4_about 88 = .ok (.ldc 98, 2) := by decide +kernel
theorem dX4_about_90 : decode cX4_about 90 = .ok (.ireturn, 1) := by decide +kernel
theorem dX4_whole_0 : decode cX4_whole 0 = .ok (.aload_n 0, 1) := by decide +kernel
theorem dX4_whole_1 : decode cX4_whole 1 = .ok (.iload_n 1, 1) := by decide +kernel
theorem dX4_whole_2 : decode cX4_whole 2 = .ok (.invokevirtual 68, 3) := by decide +kernel
theorem dX4_whole_5 : decode cX4_whole 5 = .ok (.astore_n 2, 1) := by decide +kernel
theorem dX4_whole_6 : decode cX4_whole 6 = .ok (.aload_n 2, 1) := by decide +kernel
theorem dX4_whole_7 : decode cX4_whole 7 = .ok (.ifnonnull 5, 3) := by decide +kernel
theorem dX4_whole_10 : decode cX4_whole 10 = .ok (.iconst (-1), 1) := by decide +kernel
theorem dX4_whole_11 : decode cX4_whole 11 = .ok (.ireturn, 1) := by decide +kernel
theorem dX4_whole_12 : decode cX4_whole 12 = .ok (.aload_n 2, 1) := by decide +kernel
theorem dX4_whole_13 : decode cX4_whole 13 = .ok (.invokevirtual 80, 3) := by decide +kernel
theorem dX4_whole_16 : decode cX4_whole 16 = .ok (.ifCond .eq 7, 3) := by decide +kernel
theorem dX4_whole_19 : decode cX4_whole 19 = .ok (.iconst 1, 1) := by decide +kernel
theorem dX4_whole_20 : decode cX4_whole 20 = .ok (.goto 4, 3) := by decide +kernel
theorem dX4_whole_23 : decode cX4_whole 23 = .ok (.iconst 0, 1) := by decide +kernel
theorem dX4_whole_24 : decode cX4_whole 24 = .ok (.ireturn, 1) := by decide +kernel
theorem dX4_run_0 : decode cX4_run 0 = .ok (.aload_n 0, 1) := by decide +kernel
theorem dX4_run_1 : decode cX4_run 1 = .ok (.iload_n 1, 1) := by decide +kernel
theorem dX4_run_2 : decode cX4_run 2 = .ok (.invokevirtual 68, 3) := by decide +kernel
theorem dX4_run_5 : decode cX4_run 5 = .ok (.astore 4, 2) := by decide +kernel
theorem dX4_run_7 : decode cX4_run 7 = .ok (.aload 4, 2) := by decide +kernel
theorem dX4_run_9 : decode cX4_run 9 = .ok (.ifnull 17, 3) := by decide +kernel
theorem dX4_run_12 : decode cX4_run 12 = .ok (.iload_n 2, 1) := by decide +kernel
theorem dX4_run_13 : decode cX4_run 13 = .ok (.invokestatic 111, 3) := by decide +kernel
theorem dX4_run_16 : decode cX4_run 16 = .ok (.ifCond .eq 10, 3) := by decide +kernel
theorem dX4_run_19 : decode cX4_run 19 = .ok (.iload_n 3, 1) := by decide +kernel
theorem dX4_run_20 : decode cX4_run 20 = .ok (.invokestatic 114, 3) := by decide +kernel
theorem dX4_run_23 : decode cX4_run 23 = .ok (.ifCond .ne 5, 3) := by decide +kernel
theorem dX4_run_26 : decode cX4_run 26 = .ok (.iconst (-1), 1) := by decide +kernel
theorem dX4_run_27 : decode cX4_run 27 = .ok (.ireturn, 1) := by decide +kernel
theorem dX4_run_28 : decode cX4_run 28 = .ok (.aload 4, 2) := by decide +kernel
theorem dX4_run_30 : decode cX4_run 30 = .ok (.invokevirtual 80, 3) := by decide +kernel
theorem dX4_run_33 : decode cX4_run 33 = .ok (.ifCond .ne 6, 3) := by decide +kernel
theorem dX4_run_36 : decode cX4_run 36 = .ok (.bipush (-3), 2) := by decide +kernel
theorem dX4_run_38 : decode cX4_run 38 = .ok (.ireturn, 1) := by decide +kernel
theorem dX4_run_39 : decode cX4_run 39 = .ok (.aload_n 0, 1) := by decide +kernel
theorem dX4_run_40 : decode cX4_run 40 = .ok (.getfield 34, 3) := by decide +kernel
theorem dX4_run_43 : decode cX4_run 43 = .ok (.aload 4, 2) := by decide +kernel
theorem dX4_run_45 : decode cX4_run 45 = .ok (.iload_n 2, 1) := by decide +kernel
theorem dX4_run_46 : decode cX4_run 46 = .ok (.iload_n 3, 1) := by decide +kernel
theorem dX4_run_47 : decode cX4_run 47 = .ok (.invokevirtual 117, 3) := by decide +kernel
theorem dX4_run_50 : decode cX4_run 50 = .ok (.aload_n 0, 1) := by decide +kernel
theorem dX4_run_51 : decode cX4_run 51 = .ok (.iconst 1, 1) := by decide +kernel
theorem dX4_run_52 : decode cX4_run 52 = .ok (.putfield 121, 3) := by decide +kernel
theorem dX4_run_55 : decode cX4_run 55 = .ok (.aload_n 0, 1) := by decide +kernel
theorem dX4_run_56 : decode cX4_run 56 = .ok (.getfield 34, 3) := by decide +kernel
theorem dX4_run_59 : decode cX4_run 59 = .ok (.getfield 124, 3) := by decide +kernel
theorem dX4_run_62 : decode cX4_run 62 = .ok (.ireturn, 1) := by decide +kernel
theorem dX4_told_0 : decode cX4_told 0 = .ok (.aload_n 0, 1) := by decide +kernel
theorem dX4_told_1 : decode cX4_told 1 = .ok (.getfield 121, 3) := by decide +kernel
theorem dX4_told_4 : decode cX4_told 4 = .ok (.ifCond .eq 7, 3) := by decide +kernel
theorem dX4_told_7 : decode cX4_told 7 = .ok (.iload_n 1, 1) := by decide +kernel
theorem dX4_told_8 : decode cX4_told 8 = .ok (.ifCond .ge 6, 3) := by decide +kernel
theorem dX4_told_11 : decode cX4_told 11 = .ok (.ldc 98, 2) := by decide +kernel
theorem dX4_told_13 : decode cX4_told 13 = .ok (.ireturn, 1) := by decide +kernel
theorem dX4_told_14 : decode cX4_told 14 = .ok (.iload_n 1, 1) := by decide +kernel
theorem dX4_told_15 : decode cX4_told 15 = .ok (.iconst 4, 1) := by decide +kernel
theorem dX4_told_16 : decode cX4_told 16 = .ok (.if_icmp .ge 13, 3) := by decide +kernel
theorem dX4_told_19 : decode cX4_told 19 = .ok (.aload_n 0, 1) := by decide +kernel
theorem dX4_told_20 : decode cX4_told 20 = .ok (.getfield 34, 3) := by decide +kernel
theorem dX4_told_23 : decode cX4_told 23 = .ok (.getfield 127, 3) := by decide +kernel
theorem dX4_told_26 : decode cX4_told 26 = .ok (.iload_n 1, 1) := by decide +kernel
theorem dX4_told_27 : decode cX4_told 27 = .ok (.iaload, 1) := by decide +kernel
theorem dX4_told_28 : decode cX4_told 28 = .ok (.ireturn, 1) := by decide +kernel
theorem dX4_told_29 : decode cX4_told 29 = .ok (.iload_n 1, 1) := by decide +kernel
theorem dX4_told_30 : decode cX4_told 30 = .ok (.bipush 12, 2) := by decide +kernel
theorem dX4_told_32 : decode cX4_told 32 = .ok (.if_icmp .ge 14, 3) := by decide +kernel
theorem dX4_told_35 : decode cX4_told 35 = .ok (.aload_n 0, 1) := by decide +kernel
theorem dX4_told_36 : decode cX4_told 36 = .ok (.getfield 34, 3) := by decide +kernel
theorem dX4_told_39 : decode cX4_told 39 = .ok (.iload_n 1, 1) := by decide +kernel
theorem dX4_told_40 : decode cX4_told 40 = .ok (.iconst 4, 1) := by decide +kernel
theorem dX4_told_41 : decode cX4_told 41 = .ok (.isub, 1) := by decide +kernel
theorem dX4_told_42 : decode cX4_told 42 = .ok (.invokevirtual 130, 3) := by decide +kernel
theorem dX4_told_45 : decode cX4_told 45 = .ok (.ireturn, 1) := by decide +kernel
theorem dX4_told_46 : decode cX4_told 46 = .ok (.iload_n 1, 1) := by decide +kernel
theorem dX4_told_47 : decode cX4_told 47 = .ok (.bipush 12, 2) := by decide +kernel
theorem dX4_told_49 : decode cX4_told 49 = .ok (.if_icmp .ne 19, 3) := by decide +kernel
theorem dX4_told_52 : decode cX4_told 52 = .ok (.aload_n 0, 1) := by decide +kernel
theorem dX4_told_53 : decode cX4_told 53 = .ok (.getfield 34, 3) := by decide +kernel
theorem dX4_told_56 : decode cX4_told 56 = .ok (.getfield 134, 3) := by decide +kernel
theorem dX4_told_59 : decode cX4_told 59 = .ok (.ifCond .eq 7, 3) := by decide +kernel
theorem dX4_told_62 : decode cX4_told 62 = .ok (.iconst 1, 1) := by decide +kernel
theorem dX4_told_63 : decode cX4_told 63 = .ok (.goto 4, 3) := by decide +kernel
theorem dX4_told_66 : decode cX4_told 66 = .ok (.iconst 0, 1) := by decide +kernel
theorem dX4_told_67 : decode cX4_told 67 = .ok (.ireturn, 1) := by decide +kernel
theorem dX4_told_68 : decode cX4_told 68 = .ok (.iload_n 1, 1) := by decide +kernel
theorem dX4_told_69 : decode cX4_told 69 = .ok (.bipush 13, 2) := by decide +kernel
theorem dX4_told_71 : decode cX4_told 71 = .ok (.if_icmp .ne 19, 3) := by decide +kernel
theorem dX4_told_74 : decode cX4_told 74 = .ok (.aload_n 0, 1) := by decide +kernel
theorem dX4_told_75 : decode cX4_told 75 = .ok (.getfield 34, 3) := by decide +kernel
theorem dX4_told_78 : decode cX4_told 78 = .ok (.invokevirtual 137, 3) := by decide +kernel
theorem dX4_told_81 : decode cX4_told 81 = .ok (.ifCond .eq 7, 3) := by decide +kernel
theorem dX4_told_84 : decode cX4_told 84 = .ok (.iconst 1, 1) := by decide +kernel
theorem dX4_told_85 : decode cX4_told 85 = .ok (.goto 4, 3) := by decide +kernel
theorem dX4_told_88 : decode cX4_told 88 = .ok (.iconst 0, 1) := by decide +kernel
theorem dX4_told_89 : decode cX4_told 89 = .ok (.ireturn, 1) := by decide +kernel
theorem dX4_told_90 : decode cX4_told 90 = .ok (.ldc 98, 2) := by decide +kernel
theorem dX4_told_92 : decode cX4_told 92 = .ok (.ireturn, 1) := by decide +kernel
theorem dX4_done_0 : decode cX4_done 0 = .ok (.iload_n 1, 1) := by decide +kernel
theorem dX4_done_1 : decode cX4_done 1 = .ok (.ifCond .lt 14, 3) := by decide +kernel
theorem dX4_done_4 : decode cX4_done 4 = .ok (.iload_n 1, 1) := by decide +kernel
theorem dX4_done_5 : decode cX4_done 5 = .ok (.aload_n 0, 1) := by decide +kernel
theorem dX4_done_6 : decode cX4_done 6 = .ok (.getfield 34, 3) := by decide +kernel
theorem dX4_done_9 : decode cX4_done 9 = .ok (.getfield 140, 3) := by decide +kernel
theorem dX4_done_12 : decode cX4_done 12 = .ok (.if_icmp .lt 5, 3) := by decide +kernel
theorem dX4_done_15 : decode cX4_done 15 = .ok (.iconst (-1), 1) := by decide +kernel
theorem dX4_done_16 : decode cX4_done 16 = .ok (.ireturn, 1) := by decide +kernel
theorem dX4_done_17 : decode cX4_done 17 = .ok (.aload_n 0, 1) := by decide +kernel
theorem dX4_done_18 : decode cX4_done 18 = .ok (.getfield 34, 3) := by decide +kernel
theorem dX4_done_21 : decode cX4_done 21 = .ok (.getfield 143, 3) := by decide +kernel
theorem dX4_done_24 : decode cX4_done 24 = .ok (.iload_n 1, 1) := by decide +kernel
theorem dX4_done_25 : decode cX4_done 25 = .ok (.iaload, 1) := by decide +kernel
theorem dX4_done_26 : decode cX4_done 26 = .ok (.ireturn, 1) := by decide +kernel
theorem dX4_question_0 : decode cX4_question 0 = .ok (.aload_n 0, 1) := by decide +kernel
theorem dX4_question_1 : decode cX4_question 1 = .ok (.iload_n 1, 1) := by decide +kernel
theorem dX4_question_2 : decode cX4_question 2 = .ok (.invokevirtual 68, 3) := by decide +kernel
theorem dX4_question_5 : decode cX4_question 5 = .ok (.astore 5, 2) := by decide +kernel
theorem dX4_question_7 : decode cX4_question 7 = .ok (.aload 5, 2) := by decide +kernel
theorem dX4_question_9 : decode cX4_question 9 = .ok (.ifnull 21, 3) := by decide +kernel
theorem dX4_question_12 : decode cX4_question 12 = .ok (.iload_n 2, 1) := by decide +kernel
theorem dX4_question_13 : decode cX4_question 13 = .ok (.invokestatic 111, 3) := by decide +kernel
theorem dX4_question_16 : decode cX4_question 16 = .ok (.ifCond .eq 14, 3) := by decide +kernel
theorem dX4_question_19 : decode cX4_question 19 = .ok (.aload 5, 2) := by decide +kernel
theorem dX4_question_21 : decode cX4_question 21 = .ok (.iload_n 3, 1) := by decide +kernel
theorem dX4_question_22 : decode cX4_question 22 = .ok (.iload 4, 2) := by decide +kernel
theorem dX4_question_24 : decode cX4_question 24 = .ok (.invokestatic 146, 3) := by decide +kernel
theorem dX4_question_27 : decode cX4_question 27 = .ok (.ifCond .ne 5, 3) := by decide +kernel
theorem dX4_question_30 : decode cX4_question 30 = .ok (.iconst (-1), 1) := by decide +kernel
theorem dX4_question_31 : decode cX4_question 31 = .ok (.ireturn, 1) := by decide +kernel
theorem dX4_question_32 : decode cX4_question 32 = .ok (.aload 5, 2) := by decide +kernel
theorem dX4_question_34 : decode cX4_question 34 = .ok (.invokevirtual 80, 3) := by decide +kernel
theorem dX4_question_37 : decode cX4_question 37 = .ok (.ifCond .ne 6, 3) := by decide +kernel
theorem dX4_question_40 : decode cX4_question 40 = .ok (.bipush (-3), 2) := by decide +kernel
theorem dX4_question_42 : decode cX4_question 42 = .ok (.ireturn, 1) := by decide +kernel
theorem dX4_question_43 : decode cX4_question 43 = .ok (.aload_n 0, 1) := by decide +kernel
theorem dX4_question_44 : decode cX4_question 44 = .ok (.getfield 38, 3) := by decide +kernel
theorem dX4_question_47 : decode cX4_question 47 = .ok (.aload 5, 2) := by decide +kernel
theorem dX4_question_49 : decode cX4_question 49 = .ok (.iload_n 2, 1) := by decide +kernel
theorem dX4_question_50 : decode cX4_question 50 = .ok (.iconst 0, 1) := by decide +kernel
theorem dX4_question_51 : decode cX4_question 51 = .ok (.invokevirtual 117, 3) := by decide +kernel
theorem dX4_question_54 : decode cX4_question 54 = .ok (.aload_n 0, 1) := by decide +kernel
theorem dX4_question_55 : decode cX4_question 55 = .ok (.getfield 38, 3) := by decide +kernel
theorem dX4_question_58 : decode cX4_question 58 = .ok (.getfield 134, 3) := by decide +kernel
theorem dX4_question_61 : decode cX4_question 61 = .ok (.ifCond .eq 6, 3) := by decide +kernel
theorem dX4_question_64 : decode cX4_question 64 = .ok (.bipush (-3), 2) := by decide +kernel
theorem dX4_question_66 : decode cX4_question 66 = .ok (.ireturn, 1) := by decide +kernel
theorem dX4_question_67 : decode cX4_question 67 = .ok (.aload_n 0, 1) := by decide +kernel
theorem dX4_question_68 : decode cX4_question 68 = .ok (.getfield 150, 3) := by decide +kernel
theorem dX4_question_71 : decode cX4_question 71 = .ok (.bipush 60, 2) := by decide +kernel
theorem dX4_question_73 : decode cX4_question 73 = .ok (.if_icmp .lt 6, 3) := by decide +kernel
theorem dX4_question_76 : decode cX4_question 76 = .ok (.bipush (-2), 2) := by decide +kernel
theorem dX4_question_78 : decode cX4_question 78 = .ok (.ireturn, 1) := by decide +kernel
theorem dX4_question_79 : decode cX4_question 79 = .ok (.aload 5, 2) := by decide +kernel
theorem dX4_question_81 : decode cX4_question 81 = .ok (.iconst 1, 1) := by decide +kernel
theorem dX4_question_82 : decode cX4_question 82 = .ok (.putfield 76, 3) := by decide +kernel
theorem dX4_question_85 : decode cX4_question 85 = .ok (.aload_n 0, 1) := by decide +kernel
theorem dX4_question_86 : decode cX4_question 86 = .ok (.getfield 17, 3) := by decide +kernel
theorem dX4_question_89 : decode cX4_question 89 = .ok (.aload_n 0, 1) := by decide +kernel
theorem dX4_question_90 : decode cX4_question 90 = .ok (.getfield 150, 3) := by decide +kernel
theorem dX4_question_93 : decode cX4_question 93 = .ok (.new 15, 3) := by decide +kernel
theorem dX4_question_96 : decode cX4_question 96 = .ok (.dup, 1) := by decide +kernel
theorem dX4_question_97 : decode cX4_question 97 = .ok (.aload 5, 2) := by decide +kernel
theorem dX4_question_99 : decode cX4_question 99 = .ok (.iload_n 2, 1) := by decide +kernel
theorem dX4_question_100 : decode cX4_question 100 = .ok (.iload_n 3, 1) := by decide +kernel
theorem dX4_question_101 : decode cX4_question 101 = .ok (.iload 4, 2) := by decide +kernel
theorem dX4_question_103 : decode cX4_question 103 = .ok (.invokespecial 153, 3) := by decide +kernel
theorem dX4_question_106 : decode cX4_question 106 = .ok (.aastore, 1) := by decide +kernel
theorem dX4_question_107 : decode cX4_question 107 = .ok (.aload_n 0, 1) := by decide +kernel
theorem dX4_question_108 : decode cX4_question 108 = .ok (.dup, 1) := by decide +kernel
theorem dX4_question_109 : decode cX4_question 109 = .ok (.getfield 150, 3) := by decide +kernel
theorem dX4_question_112 : decode cX4_question 112 = .ok (.dup_x1, 1) := by decide +kernel
theorem dX4_question_113 : decode cX4_question 113 = .ok (.iconst 1, 1) := by decide +kernel
theorem dX4_question_114 : decode cX4_question 114 = .ok (.iadd, 1) := by decide +kernel
theorem dX4_question_115 : decode cX4_question 115 = .ok (.putfield 150, 3) := by decide +kernel
theorem dX4_question_118 : decode cX4_question 118 = .ok (.ireturn, 1) := by decide +kernel
theorem dX4_answer_0 : decode cX4_answer 0 = .ok (.aload_n 0, 1) := by decide +kernel
theorem dX4_answer_1 : decode cX4_answer 1 = .ok (.iload_n 1, 1) := by decide +kernel
theorem dX4_answer_2 : decode cX4_answer 2 = .ok (.invokevirtual 156, 3) := by decide +kernel
theorem dX4_answer_5 : decode cX4_answer 5 = .ok (.astore_n 3, 1) := by decide +kernel
theorem dX4_answer_6 : decode cX4_answer 6 = .ok (.aload_n 3, 1) := by decide +kernel
theorem dX4_answer_7 : decode cX4_answer 7 = .ok (.ifnull 10, 3) := by decide +kernel
theorem dX4_answer_10 : decode cX4_answer 10 = .ok (.iload_n 2, 1) := by decide +kernel
theorem dX4_answer_11 : decode cX4_answer 11 = .ok (.invokestatic 114, 3) := by decide +kernel
theorem dX4_answer_14 : decode cX4_answer 14 = .ok (.ifCond .ne 6, 3) := by decide +kernel
theorem dX4_answer_17 : decode cX4_answer 17 = .ok (.ldc 98, 2) := by decide +kernel
theorem dX4_answer_19 : decode cX4_answer 19 = .ok (.ireturn, 1) := by decide +kernel
theorem dX4_answer_20 : decode cX4_answer 20 = .ok (.aload_n 0, 1) := by decide +kernel
theorem dX4_answer_21 : decode cX4_answer 21 = .ok (.aload_n 3, 1) := by decide +kernel
theorem dX4_answer_22 : decode cX4_answer 22 = .ok (.iload_n 2, 1) := by decide +kernel
theorem dX4_answer_23 : decode cX4_answer 23 = .ok (.invokevirtual 160, 3) := by decide +kernel
theorem dX4_answer_26 : decode cX4_answer 26 = .ok (.ireturn, 1) := by decide +kernel
theorem dX4_choices_0 : decode cX4_choices 0 = .ok (.aload_n 0, 1) := by decide +kernel
theorem dX4_choices_1 : decode cX4_choices 1 = .ok (.iload_n 1, 1) := by decide +kernel
theorem dX4_choices_2 : decode cX4_choices 2 = .ok (.invokevirtual 156, 3) := by decide +kernel
theorem dX4_choices_5 : decode cX4_choices 5 = .ok (.astore_n 3, 1) := by decide +kernel
theorem dX4_choices_6 : decode cX4_choices 6 = .ok (.aload_n 3, 1) := by decide +kernel
theorem dX4_choices_7 : decode cX4_choices 7 = .ok (.ifnull 14, 3) := by decide +kernel
theorem dX4_choices_10 : decode cX4_choices 10 = .ok (.iload_n 2, 1) := by decide +kernel
theorem dX4_choices_11 : decode cX4_choices 11 = .ok (.iconst 2, 1) := by decide +kernel
theorem dX4_choices_12 : decode cX4_choices 12 = .ok (.if_icmp .lt 9, 3) := by decide +kernel
theorem dX4_choices_15 : decode cX4_choices 15 = .ok (.iload_n 2, 1) := by decide +kernel
theorem dX4_choices_16 : decode cX4_choices 16 = .ok (.bipush 6, 2) := by decide +kernel
theorem dX4_choices_18 : decode cX4_choices 18 = .ok (.if_icmp .le 5, 3) := by decide +kernel
theorem dX4_choices_21 : decode cX4_choices 21 = .ok (.iconst (-1), 1) := by decide +kernel
theorem dX4_choices_22 : decode cX4_choices 22 = .ok (.ireturn, 1) := by decide +kernel
theorem dX4_choices_23 : decode cX4_choices 23 = .ok (.aload_n 0, 1) := by decide +kernel
theorem dX4_choices_24 : decode cX4_choices 24 = .ok (.aload_n 3, 1) := by decide +kernel
theorem dX4_choices_25 : decode cX4_choices 25 = .ok (.invokevirtual 164, 3) := by decide +kernel
theorem dX4_choices_28 : decode cX4_choices 28 = .ok (.iload_n 2, 1) := by decide +kernel
theorem dX4_choices_29 : decode cX4_choices 29 = .ok (.if_icmp .ge 6, 3) := by decide +kernel
theorem dX4_choices_32 : decode cX4_choices 32 = .ok (.bipush (-3), 2) := by decide +kernel
theorem dX4_choices_34 : decode cX4_choices 34 = .ok (.ireturn, 1) := by decide +kernel
theorem dX4_choices_35 : decode cX4_choices 35 = .ok (.aload_n 0, 1) := by decide +kernel
theorem dX4_choices_36 : decode cX4_choices 36 = .ok (.iload_n 1, 1) := by decide +kernel
theorem dX4_choices_37 : decode cX4_choices 37 = .ok (.putfield 168, 3) := by decide +kernel
theorem dX4_choices_40 : decode cX4_choices 40 = .ok (.aload_n 0, 1) := by decide +kernel
theorem dX4_choices_41 : decode cX4_choices 41 = .ok (.iload_n 2, 1) := by decide +kernel
theorem dX4_choices_42 : decode cX4_choices 42 = .ok (.putfield 171, 3) := by decide +kernel
theorem dX4_choices_45 : decode cX4_choices 45 = .ok (.iload_n 2, 1) := by decide +kernel
theorem dX4_choices_46 : decode cX4_choices 46 = .ok (.ireturn, 1) := by decide +kernel
theorem dX4_choice_0 : decode cX4_choice 0 = .ok (.aload_n 0, 1) := by decide +kernel
theorem dX4_choice_1 : decode cX4_choice 1 = .ok (.aload_n 0, 1) := by decide +kernel
theorem dX4_choice_2 : decode cX4_choice 2 = .ok (.getfield 168, 3) := by decide +kernel
theorem dX4_choice_5 : decode cX4_choice 5 = .ok (.invokevirtual 156, 3) := by decide +kernel
theorem dX4_choice_8 : decode cX4_choice 8 = .ok (.astore_n 3, 1) := by decide +kernel
theorem dX4_choice_9 : decode cX4_choice 9 = .ok (.aload_n 3, 1) := by decide +kernel
theorem dX4_choice_10 : decode cX4_choice 10 = .ok (.ifnull 15, 3) := by decide +kernel
theorem dX4_choice_13 : decode cX4_choice 13 = .ok (.iload_n 1, 1) := by decide +kernel
theorem dX4_choice_14 : decode cX4_choice 14 = .ok (.ifCond .lt 11, 3) := by decide +kernel
theorem dX4_choice_17 : decode cX4_choice 17 = .ok (.iload_n 1, 1) := by decide +kernel
theorem dX4_choice_18 : decode cX4_choice 18 = .ok (.aload_n 0, 1) := by decide +kernel
theorem dX4_choice_19 : decode cX4_choice 19 = .ok (.getfield 171, 3) := by decide +kernel
theorem dX4_choice_22 : decode cX4_choice 22 = .ok (.if_icmp .lt 6, 3) := by decide +kernel
theorem dX4_choice_25 : decode cX4_choice 25 = .ok (.ldc 98, 2) := by decide +kernel
theorem dX4_choice_27 : decode cX4_choice 27 = .ok (.ireturn, 1) := by decide +kernel
theorem dX4_choice_28 : decode cX4_choice 28 = .ok (.aload_n 0, 1) := by decide +kernel
theorem dX4_choice_29 : decode cX4_choice 29 = .ok (.aload_n 3, 1) := by decide +kernel
theorem dX4_choice_30 : decode cX4_choice 30 = .ok (.invokevirtual 164, 3) := by decide +kernel
theorem dX4_choice_33 : decode cX4_choice 33 = .ok (.pop, 1) := by decide +kernel
theorem dX4_choice_34 : decode cX4_choice 34 = .ok (.iload_n 2, 1) := by decide +kernel
theorem dX4_choice_35 : decode cX4_choice 35 = .ok (.lookupswitch 39 #[(0, 25), (1, 32)], 25) := by decide +kernel
theorem dX4_choice_60 : decode cX4_choice 60 = .ok (.aload_n 0, 1) := by decide +kernel
theorem dX4_choice_61 : decode cX4_choice 61 = .ok (.getfield 44, 3) := by decide +kernel
theorem dX4_choice_64 : decode cX4_choice 64 = .ok (.iload_n 1, 1) := by decide +kernel
theorem dX4_choice_65 : decode cX4_choice 65 = .ok (.iaload, 1) := by decide +kernel
theorem dX4_choice_66 : decode cX4_choice 66 = .ok (.ireturn, 1) := by decide +kernel
theorem dX4_choice_67 : decode cX4_choice 67 = .ok (.aload_n 0, 1) := by decide +kernel
theorem dX4_choice_68 : decode cX4_choice 68 = .ok (.getfield 47, 3) := by decide +kernel
theorem dX4_choice_71 : decode cX4_choice 71 = .ok (.iload_n 1, 1) := by decide +kernel
theorem dX4_choice_72 : decode cX4_choice 72 = .ok (.iaload, 1) := by decide +kernel
theorem dX4_choice_73 : decode cX4_choice 73 = .ok (.ireturn, 1) := by decide +kernel
theorem dX4_choice_74 : decode cX4_choice 74 = .ok (.ldc 98, 2) := by decide +kernel
theorem dX4_choice_76 : decode cX4_choice 76 = .ok (.ireturn, 1) := by decide +kernel
theorem dX4_gap_0 : decode cX4_gap 0 = .ok (.aload_n 0, 1) := by decide +kernel
theorem dX4_gap_1 : decode cX4_gap 1 = .ok (.iload_n 1, 1) := by decide +kernel
theorem dX4_gap_2 : decode cX4_gap 2 = .ok (.invokevirtual 68, 3) := by decide +kernel
theorem dX4_gap_5 : decode cX4_gap 5 = .ok (.astore_n 3, 1) := by decide +kernel
theorem dX4_gap_6 : decode cX4_gap 6 = .ok (.aload_n 3, 1) := by decide +kernel
theorem dX4_gap_7 : decode cX4_gap 7 = .ok (.ifnull 11, 3) := by decide +kernel
theorem dX4_gap_10 : decode cX4_gap 10 = .ok (.aload_n 3, 1) := by decide +kernel
theorem dX4_gap_11 : decode cX4_gap 11 = .ok (.iload_n 2, 1) := by decide +kernel
theorem dX4_gap_12 : decode cX4_gap 12 = .ok (.invokevirtual 94, 3) := by decide +kernel
theorem dX4_gap_15 : decode cX4_gap 15 = .ok (.ifCond .ne 5, 3) := by decide +kernel
theorem dX4_gap_18 : decode cX4_gap 18 = .ok (.iconst (-1), 1) := by decide +kernel
theorem dX4_gap_19 : decode cX4_gap 19 = .ok (.ireturn, 1) := by decide +kernel
theorem dX4_gap_20 : decode cX4_gap 20 = .ok (.aload_n 3, 1) := by decide +kernel
theorem dX4_gap_21 : decode cX4_gap 21 = .ok (.invokevirtual 80, 3) := by decide +kernel
theorem dX4_gap_24 : decode cX4_gap 24 = .ok (.ifCond .eq 12, 3) := by decide +kernel
theorem dX4_gap_27 : decode cX4_gap 27 = .ok (.aload_n 3, 1) := by decide +kernel
theorem dX4_gap_28 : decode cX4_gap 28 = .ok (.getfield 99, 3) := by decide +kernel
theorem dX4_gap_31 : decode cX4_gap 31 = .ok (.iload_n 2, 1) := by decide +kernel
theorem dX4_gap_32 : decode cX4_gap 32 = .ok (.iaload, 1) := by decide +kernel
theorem dX4_gap_33 : decode cX4_gap 33 = .ok (.ifCond .eq 6, 3) := by decide +kernel
theorem dX4_gap_36 : decode cX4_gap 36 = .ok (.bipush (-3), 2) := by decide +kernel
theorem dX4_gap_38 : decode cX4_gap 38 = .ok (.ireturn, 1) := by decide +kernel
theorem dX4_gap_39 : decode cX4_gap 39 = .ok (.aload_n 0, 1) := by decide +kernel
theorem dX4_gap_40 : decode cX4_gap 40 = .ok (.aload_n 0, 1) := by decide +kernel
theorem dX4_gap_41 : decode cX4_gap 41 = .ok (.aload_n 3, 1) := by decide +kernel
theorem dX4_gap_42 : decode cX4_gap 42 = .ok (.iload_n 2, 1) := by decide +kernel
theorem dX4_gap_43 : decode cX4_gap 43 = .ok (.invokevirtual 174, 3) := by decide +kernel
theorem dX4_gap_46 : decode cX4_gap 46 = .ok (.putfield 178, 3) := by decide +kernel
theorem dX4_gap_49 : decode cX4_gap 49 = .ok (.aload_n 0, 1) := by decide +kernel
theorem dX4_gap_50 : decode cX4_gap 50 = .ok (.getfield 178, 3) := by decide +kernel
theorem dX4_gap_53 : decode cX4_gap 53 = .ok (.invokestatic 182, 3) := by decide +kernel
theorem dX4_gap_56 : decode cX4_gap 56 = .ok (.ireturn, 1) := by decide +kernel
theorem dX4_filling_0 : decode cX4_filling 0 = .ok (.aload_n 0, 1) := by decide +kernel
theorem dX4_filling_1 : decode cX4_filling 1 = .ok (.getfield 178, 3) := by decide +kernel
theorem dX4_filling_4 : decode cX4_filling 4 = .ok (.iload_n 1, 1) := by decide +kernel
theorem dX4_filling_5 : decode cX4_filling 5 = .ok (.invokestatic 188, 3) := by decide +kernel
theorem dX4_filling_8 : decode cX4_filling 8 = .ok (.istore_n 2, 1) := by decide +kernel
theorem dX4_filling_9 : decode cX4_filling 9 = .ok (.iload_n 2, 1) := by decide +kernel
theorem dX4_filling_10 : decode cX4_filling 10 = .ok (.ifCond .ge 8, 3) := by decide +kernel
theorem dX4_filling_13 : decode cX4_filling 13 = .ok (.ldc 98, 2) := by decide +kernel
theorem dX4_filling_15 : decode cX4_filling 15 = .ok (.goto 7, 3) := by decide +kernel
theorem dX4_filling_18 : decode cX4_filling 18 = .ok (.iload_n 2, 1) := by decide +kernel
theorem dX4_filling_19 : decode cX4_filling 19 = .ok (.bipush 9, 2) := by decide +kernel
theorem dX4_filling_21 : decode cX4_filling 21 = .ok (.isub, 1) := by decide +kernel
theorem dX4_filling_22 : decode cX4_filling 22 = .ok (.ireturn, 1) := by decide +kernel
theorem dX4_why_0 : decode cX4_why 0 = .ok (.aload_n 0, 1) := by decide +kernel
theorem dX4_why_1 : decode cX4_why 1 = .ok (.iload_n 1, 1) := by decide +kernel
theorem dX4_why_2 : decode cX4_why 2 = .ok (.invokevirtual 156, 3) := by decide +kernel
theorem dX4_why_5 : decode cX4_why 5 = .ok (.astore_n 3, 1) := by decide +kernel
theorem dX4_why_6 : decode cX4_why 6 = .ok (.aload_n 3, 1) := by decide +kernel
theorem dX4_why_7 : decode cX4_why 7 = .ok (.ifnull 10, 3) := by decide +kernel
theorem dX4_why_10 : decode cX4_why 10 = .ok (.aload_n 3, 1) := by decide +kernel
theorem dX4_why_11 : decode cX4_why 11 = .ok (.getfield 192, 3) := by decide +kernel
theorem dX4_why_14 : decode cX4_why 14 = .ok (.ifCond .eq 5, 3) := by decide +kernel
theorem dX4_why_17 : decode cX4_why 17 = .ok (.iconst (-1), 1) := by decide +kernel
theorem dX4_why_18 : decode cX4_why 18 = .ok (.ireturn, 1) := by decide +kernel
theorem dX4_why_19 : decode cX4_why 19 = .ok (.iconst 0, 1) := by decide +kernel
theorem dX4_why_20 : decode cX4_why 20 = .ok (.istore 4, 2) := by decide +kernel
theorem dX4_why_22 : decode cX4_why 22 = .ok (.iconst 0, 1) := by decide +kernel
theorem dX4_why_23 : decode cX4_why 23 = .ok (.istore 5, 2) := by decide +kernel
theorem dX4_why_25 : decode cX4_why 25 = .ok (.iload 5, 2) := by decide +kernel
theorem dX4_why_27 : decode cX4_why 27 = .ok (.bipush 10, 2) := by decide +kernel
theorem dX4_why_29 : decode cX4_why 29 = .ok (.if_icmp .ge 58, 3) := by decide +kernel
theorem dX4_why_32 : decode cX4_why 32 = .ok (.aload_n 0, 1) := by decide +kernel
theorem dX4_why_33 : decode cX4_why 33 = .ok (.getfield 38, 3) := by decide +kernel
theorem dX4_why_36 : decode cX4_why 36 = .ok (.aload_n 3, 1) := by decide +kernel
theorem dX4_why_37 : decode cX4_why 37 = .ok (.getfield 195, 3) := by decide +kernel
theorem dX4_why_40 : decode cX4_why 40 = .ok (.iload 5, 2) := by decide +kernel
theorem dX4_why_42 : decode cX4_why 42 = .ok (.iconst 0, 1) := by decide +kernel
theorem dX4_why_43 : decode cX4_why 43 = .ok (.invokevirtual 117, 3) := by decide +kernel
theorem dX4_why_46 : decode cX4_why 46 = .ok (.aload_n 0, 1) := by decide +kernel
theorem dX4_why_47 : decode cX4_why 47 = .ok (.getfield 38, 3) := by decide +kernel
theorem dX4_why_50 : decode cX4_why 50 = .ok (.getfield 134, 3) := by decide +kernel
theorem dX4_why_53 : decode cX4_why 53 = .ok (.ifCond .ne 28, 3) := by decide +kernel
theorem dX4_why_56 : decode cX4_why 56 = .ok (.aload_n 0, 1) := by decide +kernel
theorem dX4_why_57 : decode cX4_why 57 = .ok (.getfield 38, 3) := by decide +kernel
theorem dX4_why_60 : decode cX4_why 60 = .ok (.getfield 127, 3) := by decide +kernel
theorem dX4_why_63 : decode cX4_why 63 = .ok (.aload_n 3, 1) := by decide +kernel
theorem dX4_why_64 : decode cX4_why 64 = .ok (.getfield 199, 3) := by decide +kernel
theorem dX4_why_67 : decode cX4_why 67 = .ok (.iaload, 1) := by decide +kernel
theorem dX4_why_68 : decode cX4_why 68 = .ok (.iload_n 2, 1) := by decide +kernel
theorem dX4_why_69 : decode cX4_why 69 = .ok (.if_icmp .ne 12, 3) := by decide +kernel
theorem dX4_why_72 : decode cX4_why 72 = .ok (.iload 4, 2) := by decide +kernel
theorem dX4_why_74 : decode cX4_why 74 = .ok (.iconst 1, 1) := by decide +kernel
theorem dX4_why_75 : decode cX4_why 75 = .ok (.iload 5, 2) := by decide +kernel
theorem dX4_why_77 : decode cX4_why 77 = .ok (.ishl, 1) := by decide +kernel
theorem dX4_why_78 : decode cX4_why 78 = .ok (.ior, 1) := by decide +kernel
theorem dX4_why_79 : decode cX4_why 79 = .ok (.istore 4, 2) := by decide +kernel
theorem dX4_why_81 : decode cX4_why 81 = .ok (.iinc 5 1, 3) := by decide +kernel
theorem dX4_why_84 : decode cX4_why 84 = .ok (.goto (-59), 3) := by decide +kernel
theorem dX4_why_87 : decode cX4_why 87 = .ok (.iload 4, 2) := by decide +kernel
theorem dX4_why_89 : decode cX4_why 89 = .ok (.ireturn, 1) := by decide +kernel
theorem dX4_same_0 : decode cX4_same 0 = .ok (.aload_n 0, 1) := by decide +kernel
theorem dX4_same_1 : decode cX4_same 1 = .ok (.iload_n 1, 1) := by decide +kernel
theorem dX4_same_2 : decode cX4_same 2 = .ok (.invokevirtual 68, 3) := by decide +kernel
theorem dX4_same_5 : decode cX4_same 5 = .ok (.astore_n 3, 1) := by decide +kernel
theorem dX4_same_6 : decode cX4_same 6 = .ok (.aload_n 0, 1) := by decide +kernel
theorem dX4_same_7 : decode cX4_same 7 = .ok (.iload_n 2, 1) := by decide +kernel
theorem dX4_same_8 : decode cX4_same 8 = .ok (.invokevirtual 68, 3) := by decide +kernel
theorem dX4_same_11 : decode cX4_same 11 = .ok (.astore 4, 2) := by decide +kernel
theorem dX4_same_13 : decode cX4_same 13 = .ok (.aload_n 3, 1) := by decide +kernel
theorem dX4_same_14 : decode cX4_same 14 = .ok (.ifnull 8, 3) := by decide +kernel
theorem dX4_same_17 : decode cX4_same 17 = .ok (.aload 4, 2) := by decide +kernel
theorem dX4_same_19 : decode cX4_same 19 = .ok (.ifnonnull 5, 3) := by decide +kernel
theorem dX4_same_22 : decode cX4_same 22 = .ok (.iconst (-1), 1) := by decide +kernel
theorem dX4_same_23 : decode cX4_same 23 = .ok (.ireturn, 1) := by decide +kernel
theorem dX4_same_24 : decode cX4_same 24 = .ok (.aload_n 3, 1) := by decide +kernel
theorem dX4_same_25 : decode cX4_same 25 = .ok (.invokevirtual 80, 3) := by decide +kernel
theorem dX4_same_28 : decode cX4_same 28 = .ok (.ifCond .eq 11, 3) := by decide +kernel
theorem dX4_same_31 : decode cX4_same 31 = .ok (.aload 4, 2) := by decide +kernel
theorem dX4_same_33 : decode cX4_same 33 = .ok (.invokevirtual 80, 3) := by decide +kernel
theorem dX4_same_36 : decode cX4_same 36 = .ok (.ifCond .ne 6, 3) := by decide +kernel
theorem dX4_same_39 : decode cX4_same 39 = .ok (.bipush (-3), 2) := by decide +kernel
theorem dX4_same_41 : decode cX4_same 41 = .ok (.ireturn, 1) := by decide +kernel
theorem dX4_same_42 : decode cX4_same 42 = .ok (.iconst 0, 1) := by decide +kernel
theorem dX4_same_43 : decode cX4_same 43 = .ok (.istore 5, 2) := by decide +kernel
theorem dX4_same_45 : decode cX4_same 45 = .ok (.iload 5, 2) := by decide +kernel
theorem dX4_same_47 : decode cX4_same 47 = .ok (.bipush 10, 2) := by decide +kernel
theorem dX4_same_49 : decode cX4_same 49 = .ok (.if_icmp .ge 49, 3) := by decide +kernel
theorem dX4_same_52 : decode cX4_same 52 = .ok (.aload_n 0, 1) := by decide +kernel
theorem dX4_same_53 : decode cX4_same 53 = .ok (.getfield 38, 3) := by decide +kernel
theorem dX4_same_56 : decode cX4_same 56 = .ok (.aload_n 3, 1) := by decide +kernel
theorem dX4_same_57 : decode cX4_same 57 = .ok (.iload 5, 2) := by decide +kernel
theorem dX4_same_59 : decode cX4_same 59 = .ok (.iconst 0, 1) := by decide +kernel
theorem dX4_same_60 : decode cX4_same 60 = .ok (.invokevirtual 117, 3) := by decide +kernel
theorem dX4_same_63 : decode cX4_same 63 = .ok (.aload_n 0, 1) := by decide +kernel
theorem dX4_same_64 : decode cX4_same 64 = .ok (.getfield 41, 3) := by decide +kernel
theorem dX4_same_67 : decode cX4_same 67 = .ok (.aload 4, 2) := by decide +kernel
theorem dX4_same_69 : decode cX4_same 69 = .ok (.iload 5, 2) := by decide +kernel
theorem dX4_same_71 : decode cX4_same 71 = .ok (.iconst 0, 1) := by decide +kernel
theorem dX4_same_72 : decode cX4_same 72 = .ok (.invokevirtual 117, 3) := by decide +kernel
theorem dX4_same_75 : decode cX4_same 75 = .ok (.aload_n 0, 1) := by decide +kernel
theorem dX4_same_76 : decode cX4_same 76 = .ok (.getfield 38, 3) := by decide +kernel
theorem dX4_same_79 : decode cX4_same 79 = .ok (.aload_n 0, 1) := by decide +kernel
theorem dX4_same_80 : decode cX4_same 80 = .ok (.getfield 41, 3) := by decide +kernel
theorem dX4_same_83 : decode cX4_same 83 = .ok (.invokevirtual 202, 3) := by decide +kernel
theorem dX4_same_86 : decode cX4_same 86 = .ok (.ifCond .ne 6, 3) := by decide +kernel
theorem dX4_same_89 : decode cX4_same 89 = .ok (.iload 5, 2) := by decide +kernel
theorem dX4_same_91 : decode cX4_same 91 = .ok (.ireturn, 1) := by decide +kernel
theorem dX4_same_92 : decode cX4_same 92 = .ok (.iinc 5 1, 3) := by decide +kernel
theorem dX4_same_95 : decode cX4_same 95 = .ok (.goto (-50), 3) := by decide +kernel
theorem dX4_same_98 : decode cX4_same 98 = .ok (.bipush 10, 2) := by decide +kernel
theorem dX4_same_100 : decode cX4_same 100 = .ok (.ireturn, 1) := by decide +kernel
theorem dX4_give_0 : decode cX4_give 0 = .ok (.iload_n 1, 1) := by decide +kernel
theorem dX4_give_1 : decode cX4_give 1 = .ok (.invokestatic 206, 3) := by decide +kernel
theorem dX4_give_4 : decode cX4_give 4 = .ok (.ifCond .eq 11, 3) := by decide +kernel
theorem dX4_give_7 : decode cX4_give 7 = .ok (.aload_n 0, 1) := by decide +kernel
theorem dX4_give_8 : decode cX4_give 8 = .ok (.iload_n 2, 1) := by decide +kernel
theorem dX4_give_9 : decode cX4_give 9 = .ok (.invokevirtual 156, 3) := by decide +kernel
theorem dX4_give_12 : decode cX4_give 12 = .ok (.ifnonnull 5, 3) := by decide +kernel
theorem dX4_give_15 : decode cX4_give 15 = .ok (.iconst (-1), 1) := by decide +kernel
theorem dX4_give_16 : decode cX4_give 16 = .ok (.ireturn, 1) := by decide +kernel
theorem dX4_give_17 : decode cX4_give 17 = .ok (.aload_n 0, 1) := by decide +kernel
theorem dX4_give_18 : decode cX4_give 18 = .ok (.getfield 23, 3) := by decide +kernel
theorem dX4_give_21 : decode cX4_give 21 = .ok (.iload_n 1, 1) := by decide +kernel
theorem dX4_give_22 : decode cX4_give 22 = .ok (.aaload, 1) := by decide +kernel
theorem dX4_give_23 : decode cX4_give 23 = .ok (.iload_n 2, 1) := by decide +kernel
theorem dX4_give_24 : decode cX4_give 24 = .ok (.iload_n 3, 1) := by decide +kernel
theorem dX4_give_25 : decode cX4_give 25 = .ok (.invokevirtual 209, 3) := by decide +kernel
theorem dX4_give_28 : decode cX4_give 28 = .ok (.ireturn, 1) := by decide +kernel
theorem dX4_price_0 : decode cX4_price 0 = .ok (.iload_n 1, 1) := by decide +kernel
theorem dX4_price_1 : decode cX4_price 1 = .ok (.ifCond .lt 20, 3) := by decide +kernel
theorem dX4_price_4 : decode cX4_price 4 = .ok (.iload_n 1, 1) := by decide +kernel
theorem dX4_price_5 : decode cX4_price 5 = .ok (.bipush 6, 2) := by decide +kernel
theorem dX4_price_7 : decode cX4_price 7 = .ok (.if_icmp .gt 14, 3) := by decide +kernel
theorem dX4_price_10 : decode cX4_price 10 = .ok (.iload_n 2, 1) := by decide +kernel
theorem dX4_price_11 : decode cX4_price 11 = .ok (.iconst 1, 1) := by decide +kernel
theorem dX4_price_12 : decode cX4_price 12 = .ok (.if_icmp .lt 9, 3) := by decide +kernel
theorem dX4_price_15 : decode cX4_price 15 = .ok (.iload_n 2, 1) := by decide +kernel
theorem dX4_price_16 : decode cX4_price 16 = .ok (.bipush 99, 2) := by decide +kernel
theorem dX4_price_18 : decode cX4_price 18 = .ok (.if_icmp .le 5, 3) := by decide +kernel
theorem dX4_price_21 : decode cX4_price 21 = .ok (.iconst (-1), 1) := by decide +kernel
theorem dX4_price_22 : decode cX4_price 22 = .ok (.ireturn, 1) := by decide +kernel
theorem dX4_price_23 : decode cX4_price 23 = .ok (.aload_n 0, 1) := by decide +kernel
theorem dX4_price_24 : decode cX4_price 24 = .ok (.getfield 27, 3) := by decide +kernel
theorem dX4_price_27 : decode cX4_price 27 = .ok (.iload_n 1, 1) := by decide +kernel
theorem dX4_price_28 : decode cX4_price 28 = .ok (.iaload, 1) := by decide +kernel
theorem dX4_price_29 : decode cX4_price 29 = .ok (.istore_n 3, 1) := by decide +kernel
theorem dX4_price_30 : decode cX4_price 30 = .ok (.aload_n 0, 1) := by decide +kernel
theorem dX4_price_31 : decode cX4_price 31 = .ok (.getfield 27, 3) := by decide +kernel
theorem dX4_price_34 : decode cX4_price 34 = .ok (.iload_n 1, 1) := by decide +kernel
theorem dX4_price_35 : decode cX4_price 35 = .ok (.iload_n 2, 1) := by decide +kernel
theorem dX4_price_36 : decode cX4_price 36 = .ok (.iastore, 1) := by decide +kernel
theorem dX4_price_37 : decode cX4_price 37 = .ok (.iload_n 3, 1) := by decide +kernel
theorem dX4_price_38 : decode cX4_price 38 = .ok (.ireturn, 1) := by decide +kernel
theorem dX4_cost_0 : decode cX4_cost 0 = .ok (.iload_n 1, 1) := by decide +kernel
theorem dX4_cost_1 : decode cX4_cost 1 = .ok (.invokestatic 206, 3) := by decide +kernel
theorem dX4_cost_4 : decode cX4_cost 4 = .ok (.ifCond .eq 18, 3) := by decide +kernel
theorem dX4_cost_7 : decode cX4_cost 7 = .ok (.iload_n 2, 1) := by decide +kernel
theorem dX4_cost_8 : decode cX4_cost 8 = .ok (.invokestatic 114, 3) := by decide +kernel
theorem dX4_cost_11 : decode cX4_cost 11 = .ok (.ifCond .eq 11, 3) := by decide +kernel
theorem dX4_cost_14 : decode cX4_cost 14 = .ok (.iload_n 2, 1) := by decide +kernel
theorem dX4_cost_15 : decode cX4_cost 15 = .ok (.invokestatic 213, 3) := by decide +kernel
theorem dX4_cost_18 : decode cX4_cost 18 = .ok (.iconst 2, 1) := by decide +kernel
theorem dX4_cost_19 : decode cX4_cost 19 = .ok (.if_icmp .le 5, 3) := by decide +kernel
theorem dX4_cost_22 : decode cX4_cost 22 = .ok (.iconst (-1), 1) := by decide +kernel
theorem dX4_cost_23 : decode cX4_cost 23 = .ok (.ireturn, 1) := by decide +kernel
theorem dX4_cost_24 : decode cX4_cost 24 = .ok (.aload_n 0, 1) := by decide +kernel
theorem dX4_cost_25 : decode cX4_cost 25 = .ok (.aload_n 0, 1) := by decide +kernel
theorem dX4_cost_26 : decode cX4_cost 26 = .ok (.getfield 23, 3) := by decide +kernel
theorem dX4_cost_29 : decode cX4_cost 29 = .ok (.iload_n 1, 1) := by decide +kernel
theorem dX4_cost_30 : decode cX4_cost 30 = .ok (.aaload, 1) := by decide +kernel
theorem dX4_cost_31 : decode cX4_cost 31 = .ok (.iload_n 2, 1) := by decide +kernel
theorem dX4_cost_32 : decode cX4_cost 32 = .ok (.invokevirtual 217, 3) := by decide +kernel
theorem dX4_cost_35 : decode cX4_cost 35 = .ok (.ireturn, 1) := by decide +kernel
theorem dX4_sets_0 : decode cX4_sets 0 = .ok (.iload_n 1, 1) := by decide +kernel
theorem dX4_sets_1 : decode cX4_sets 1 = .ok (.invokestatic 206, 3) := by decide +kernel
theorem dX4_sets_4 : decode cX4_sets 4 = .ok (.ifCond .ne 5, 3) := by decide +kernel
theorem dX4_sets_7 : decode cX4_sets 7 = .ok (.iconst (-1), 1) := by decide +kernel
theorem dX4_sets_8 : decode cX4_sets 8 = .ok (.ireturn, 1) := by decide +kernel
theorem dX4_sets_9 : decode cX4_sets 9 = .ok (.aload_n 0, 1) := by decide +kernel
theorem dX4_sets_10 : decode cX4_sets 10 = .ok (.aload_n 0, 1) := by decide +kernel
theorem dX4_sets_11 : decode cX4_sets 11 = .ok (.getfield 23, 3) := by decide +kernel
theorem dX4_sets_14 : decode cX4_sets 14 = .ok (.iload_n 1, 1) := by decide +kernel
theorem dX4_sets_15 : decode cX4_sets 15 = .ok (.aaload, 1) := by decide +kernel
theorem dX4_sets_16 : decode cX4_sets 16 = .ok (.invokevirtual 221, 3) := by decide +kernel
theorem dX4_sets_19 : decode cX4_sets 19 = .ok (.invokestatic 182, 3) := by decide +kernel
theorem dX4_sets_22 : decode cX4_sets 22 = .ok (.ireturn, 1) := by decide +kernel
theorem dX4_set_0 : decode cX4_set 0 = .ok (.iload_n 1, 1) := by decide +kernel
theorem dX4_set_1 : decode cX4_set 1 = .ok (.invokestatic 206, 3) := by decide +kernel
theorem dX4_set_4 : decode cX4_set 4 = .ok (.ifCond .ne 5, 3) := by decide +kernel
theorem dX4_set_7 : decode cX4_set 7 = .ok (.iconst (-1), 1) := by decide +kernel
theorem dX4_set_8 : decode cX4_set 8 = .ok (.ireturn, 1) := by decide +kernel
theorem dX4_set_9 : decode cX4_set 9 = .ok (.aload_n 0, 1) := by decide +kernel
theorem dX4_set_10 : decode cX4_set 10 = .ok (.aload_n 0, 1) := by decide +kernel
theorem dX4_set_11 : decode cX4_set 11 = .ok (.getfield 23, 3) := by decide +kernel
theorem dX4_set_14 : decode cX4_set 14 = .ok (.iload_n 1, 1) := by decide +kernel
theorem dX4_set_15 : decode cX4_set 15 = .ok (.aaload, 1) := by decide +kernel
theorem dX4_set_16 : decode cX4_set 16 = .ok (.invokevirtual 221, 3) := by decide +kernel
theorem dX4_set_19 : decode cX4_set 19 = .ok (.iload_n 2, 1) := by decide +kernel
theorem dX4_set_20 : decode cX4_set 20 = .ok (.invokestatic 188, 3) := by decide +kernel
theorem dX4_set_23 : decode cX4_set 23 = .ok (.istore_n 3, 1) := by decide +kernel
theorem dX4_set_24 : decode cX4_set 24 = .ok (.iload_n 3, 1) := by decide +kernel
theorem dX4_set_25 : decode cX4_set 25 = .ok (.ifCond .ge 7, 3) := by decide +kernel
theorem dX4_set_28 : decode cX4_set 28 = .ok (.iconst (-1), 1) := by decide +kernel
theorem dX4_set_29 : decode cX4_set 29 = .ok (.goto 4, 3) := by decide +kernel
theorem dX4_set_32 : decode cX4_set 32 = .ok (.iload_n 3, 1) := by decide +kernel
theorem dX4_set_33 : decode cX4_set 33 = .ok (.ireturn, 1) := by decide +kernel
theorem dX4_next_0 : decode cX4_next 0 = .ok (.iload_n 1, 1) := by decide +kernel
theorem dX4_next_1 : decode cX4_next 1 = .ok (.invokestatic 206, 3) := by decide +kernel
theorem dX4_next_4 : decode cX4_next 4 = .ok (.ifCond .ne 5, 3) := by decide +kernel
theorem dX4_next_7 : decode cX4_next 7 = .ok (.iconst (-1), 1) := by decide +kernel
theorem dX4_next_8 : decode cX4_next 8 = .ok (.ireturn, 1) := by decide +kernel
theorem dX4_next_9 : decode cX4_next 9 = .ok (.aload_n 0, 1) := by decide +kernel
theorem dX4_next_10 : decode cX4_next 10 = .ok (.aload_n 0, 1) := by decide +kernel
theorem dX4_next_11 : decode cX4_next 11 = .ok (.getfield 23, 3) := by decide +kernel
theorem dX4_next_14 : decode cX4_next 14 = .ok (.iload_n 1, 1) := by decide +kernel
theorem dX4_next_15 : decode cX4_next 15 = .ok (.aaload, 1) := by decide +kernel
theorem dX4_next_16 : decode cX4_next 16 = .ok (.invokevirtual 221, 3) := by decide +kernel
theorem dX4_next_19 : decode cX4_next 19 = .ok (.lstore_n 2, 1) := by decide +kernel
theorem dX4_next_20 : decode cX4_next 20 = .ok (.bipush (-5), 2) := by decide +kernel
theorem dX4_next_22 : decode cX4_next 22 = .ok (.istore 4, 2) := by decide +kernel
theorem dX4_next_24 : decode cX4_next 24 = .ok (.bipush 65, 2) := by decide +kernel
theorem dX4_next_26 : decode cX4_next 26 = .ok (.istore 5, 2) := by decide +kernel
theorem dX4_next_28 : decode cX4_next 28 = .ok (.iconst 0, 1) := by decide +kernel
theorem dX4_next_29 : decode cX4_next 29 = .ok (.istore 6, 2) := by decide +kernel
theorem dX4_next_31 : decode cX4_next 31 = .ok (.iload 6, 2) := by decide +kernel
theorem dX4_next_33 : decode cX4_next 33 = .ok (.aload_n 0, 1) := by decide +kernel
theorem dX4_next_34 : decode cX4_next 34 = .ok (.getfield 150, 3) := by decide +kernel
theorem dX4_next_37 : decode cX4_next 37 = .ok (.if_icmp .ge 56, 3) := by decide +kernel
theorem dX4_next_40 : decode cX4_next 40 = .ok (.aload_n 0, 1) := by decide +kernel
theorem dX4_next_41 : decode cX4_next 41 = .ok (.getfield 23, 3) := by decide +kernel
theorem dX4_next_44 : decode cX4_next 44 = .ok (.iload_n 1, 1) := by decide +kernel
theorem dX4_next_45 : decode cX4_next 45 = .ok (.aaload, 1) := by decide +kernel
theorem dX4_next_46 : decode cX4_next 46 = .ok (.iload 6, 2) := by decide +kernel
theorem dX4_next_48 : decode cX4_next 48 = .ok (.invokevirtual 225, 3) := by decide +kernel
theorem dX4_next_51 : decode cX4_next 51 = .ok (.ifCond .ne 36, 3) := by decide +kernel
theorem dX4_next_54 : decode cX4_next 54 = .ok (.aload_n 0, 1) := by decide +kernel
theorem dX4_next_55 : decode cX4_next 55 = .ok (.aload_n 0, 1) := by decide +kernel
theorem dX4_next_56 : decode cX4_next 56 = .ok (.aload_n 0, 1) := by decide +kernel
theorem dX4_next_57 : decode cX4_next 57 = .ok (.getfield 17, 3) := by decide +kernel
theorem dX4_next_60 : decode cX4_next 60 = .ok (.iload 6, 2) := by decide +kernel
theorem dX4_next_62 : decode cX4_next 62 = .ok (.aaload, 1) := by decide +kernel
theorem dX4_next_63 : decode cX4_next 63 = .ok (.lload_n 2, 1) := by decide +kernel
theorem dX4_next_64 : decode cX4_next 64 = .ok (.invokevirtual 228, 3) := by decide +kernel
theorem dX4_next_67 : decode cX4_next 67 = .ok (.invokevirtual 232, 3) := by decide +kernel
theorem dX4_next_70 : decode cX4_next 70 = .ok (.istore 7, 2) := by decide +kernel
theorem dX4_next_72 : decode cX4_next 72 = .ok (.iload 7, 2) := by decide +kernel
theorem dX4_next_74 : decode cX4_next 74 = .ok (.iload 5, 2) := by decide +kernel
theorem dX4_next_76 : decode cX4_next 76 = .ok (.if_icmp .ge 11, 3) := by decide +kernel
theorem dX4_next_79 : decode cX4_next 79 = .ok (.iload 7, 2) := by decide +kernel
theorem dX4_next_81 : decode cX4_next 81 = .ok (.istore 5, 2) := by decide +kernel
theorem dX4_next_83 : decode cX4_next 83 = .ok (.iload 6, 2) := by decide +kernel
theorem dX4_next_85 : decode cX4_next 85 = .ok (.istore 4, 2) := by decide +kernel
theorem dX4_next_87 : decode cX4_next 87 = .ok (.iinc 6 1, 3) := by decide +kernel
theorem dX4_next_90 : decode cX4_next 90 = .ok (.goto (-59), 3) := by decide +kernel
theorem dX4_next_93 : decode cX4_next 93 = .ok (.iload 4, 2) := by decide +kernel
theorem dX4_next_95 : decode cX4_next 95 = .ok (.ireturn, 1) := by decide +kernel
theorem dX4_parting_0 : decode cX4_parting 0 = .ok (.aload_n 0, 1) := by decide +kernel
theorem dX4_parting_1 : decode cX4_parting 1 = .ok (.getfield 150, 3) := by decide +kernel
theorem dX4_parting_4 : decode cX4_parting 4 = .ok (.bipush 12, 2) := by decide +kernel
theorem dX4_parting_6 : decode cX4_parting 6 = .ok (.invokestatic 235, 3) := by decide +kernel
theorem dX4_parting_9 : decode cX4_parting 9 = .ok (.istore_n 1, 1) := by decide +kernel
theorem dX4_parting_10 : decode cX4_parting 10 = .ok (.iconst 0, 1) := by decide +kernel
theorem dX4_parting_11 : decode cX4_parting 11 = .ok (.istore_n 2, 1) := by decide +kernel
theorem dX4_parting_12 : decode cX4_parting 12 = .ok (.iload_n 2, 1) := by decide +kernel
theorem dX4_parting_13 : decode cX4_parting 13 = .ok (.iload_n 1, 1) := by decide +kernel
theorem dX4_parting_14 : decode cX4_parting 14 = .ok (.if_icmp .ge 25, 3) := by decide +kernel
theorem dX4_parting_17 : decode cX4_parting 17 = .ok (.aload_n 0, 1) := by decide +kernel
theorem dX4_parting_18 : decode cX4_parting 18 = .ok (.getfield 53, 3) := by decide +kernel
theorem dX4_parting_21 : decode cX4_parting 21 = .ok (.iload_n 2, 1) := by decide +kernel
theorem dX4_parting_22 : decode cX4_parting 22 = .ok (.aload_n 0, 1) := by decide +kernel
theorem dX4_parting_23 : decode cX4_parting 23 = .ok (.aload_n 0, 1) := by decide +kernel
theorem dX4_parting_24 : decode cX4_parting 24 = .ok (.getfield 17, 3) := by decide +kernel
theorem dX4_parting_27 : decode cX4_parting 27 = .ok (.iload_n 2, 1) := by decide +kernel
theorem dX4_parting_28 : decode cX4_parting 28 = .ok (.aaload, 1) := by decide +kernel
theorem dX4_parting_29 : decode cX4_parting 29 = .ok (.invokevirtual 240, 3) := by decide +kernel
theorem dX4_parting_32 : decode cX4_parting 32 = .ok (.iastore, 1) := by decide +kernel
theorem dX4_parting_33 : decode cX4_parting 33 = .ok (.iinc 2 1, 3) := by decide +kernel
theorem dX4_parting_36 : decode cX4_parting 36 = .ok (.goto (-24), 3) := by decide +kernel
theorem dX4_parting_39 : decode cX4_parting 39 = .ok (.iconst 1, 1) := by decide +kernel
theorem dX4_parting_40 : decode cX4_parting 40 = .ok (.iload_n 1, 1) := by decide +kernel
theorem dX4_parting_41 : decode cX4_parting 41 = .ok (.ishl, 1) := by decide +kernel
theorem dX4_parting_42 : decode cX4_parting 42 = .ok (.iconst 1, 1) := by decide +kernel
theorem dX4_parting_43 : decode cX4_parting 43 = .ok (.isub, 1) := by decide +kernel
theorem dX4_parting_44 : decode cX4_parting 44 = .ok (.istore_n 2, 1) := by decide +kernel
theorem dX4_parting_45 : decode cX4_parting 45 = .ok (.aload_n 0, 1) := by decide +kernel
theorem dX4_parting_46 : decode cX4_parting 46 = .ok (.iload_n 2, 1) := by decide +kernel
theorem dX4_parting_47 : decode cX4_parting 47 = .ok (.invokevirtual 243, 3) := by decide +kernel
theorem dX4_parting_50 : decode cX4_parting 50 = .ok (.ifCond .ne 6, 3) := by decide +kernel
theorem dX4_parting_53 : decode cX4_parting 53 = .ok (.bipush (-5), 2) := by decide +kernel
theorem dX4_parting_55 : decode cX4_parting 55 = .ok (.ireturn, 1) := by decide +kernel
theorem dX4_parting_56 : decode cX4_parting 56 = .ok (.iload_n 1, 1) := by decide +kernel
theorem dX4_parting_57 : decode cX4_parting 57 = .ok (.istore_n 3, 1) := by decide +kernel
theorem dX4_parting_58 : decode cX4_parting 58 = .ok (.iconst 1, 1) := by decide +kernel
theorem dX4_parting_59 : decode cX4_parting 59 = .ok (.istore 4, 2) := by decide +kernel
theorem dX4_parting_61 : decode cX4_parting 61 = .ok (.iload 4, 2) := by decide +kernel
theorem dX4_parting_63 : decode cX4_parting 63 = .ok (.iload_n 2, 1) := by decide +kernel
theorem dX4_parting_64 : decode cX4_parting 64 = .ok (.if_icmp .ge 33, 3) := by decide +kernel
theorem dX4_parting_67 : decode cX4_parting 67 = .ok (.iload 4, 2) := by decide +kernel
theorem dX4_parting_69 : decode cX4_parting 69 = .ok (.invokestatic 213, 3) := by decide +kernel
theorem dX4_parting_72 : decode cX4_parting 72 = .ok (.iload_n 3, 1) := by decide +kernel
theorem dX4_parting_73 : decode cX4_parting 73 = .ok (.if_icmp .ge 18, 3) := by decide +kernel
theorem dX4_parting_76 : decode cX4_parting 76 = .ok (.aload_n 0, 1) := by decide +kernel
theorem dX4_parting_77 : decode cX4_parting 77 = .ok (.iload 4, 2) := by decide +kernel
theorem dX4_parting_79 : decode cX4_parting 79 = .ok (.invokevirtual 243, 3) := by decide +kernel
theorem dX4_parting_82 : decode cX4_parting 82 = .ok (.ifCond .eq 9, 3) := by decide +kernel
theorem dX4_parting_85 : decode cX4_parting 85 = .ok (.iload 4, 2) := by decide +kernel
theorem dX4_parting_87 : decode cX4_parting 87 = .ok (.invokestatic 213, 3) := by decide +kernel
theorem dX4_parting_90 : decode cX4_parting 90 = .ok (.istore_n 3, 1) := by decide +kernel
theorem dX4_parting_91 : decode cX4_parting 91 = .ok (.iinc 4 1, 3) := by decide +kernel
theorem dX4_parting_94 : decode cX4_parting 94 = .ok (.goto (-33), 3) := by decide +kernel
theorem dX4_parting_97 : decode cX4_parting 97 = .ok (.iload_n 3, 1) := by decide +kernel
theorem dX4_parting_98 : decode cX4_parting 98 = .ok (.ireturn, 1) := by decide +kernel
theorem dX4_count_0 : decode cX4_count 0 = .ok (.iload_n 1, 1) := by decide +kernel
theorem dX4_count_1 : decode cX4_count 1 = .ok (.tableswitch 42 0 2 #[27, 32, 37], 27) := by decide +kernel
theorem dX4_count_28 : decode cX4_count 28 = .ok (.aload_n 0, 1) := by decide +kernel
theorem dX4_count_29 : decode cX4_count 29 = .ok (.getfield 63, 3) := by decide +kernel
theorem dX4_count_32 : decode cX4_count 32 = .ok (.ireturn, 1) := by decide +kernel
theorem dX4_count_33 : decode cX4_count 33 = .ok (.aload_n 0, 1) := by decide +kernel
theorem dX4_count_34 : decode cX4_count 34 = .ok (.getfield 150, 3) := by decide +kernel
theorem dX4_count_37 : decode cX4_count 37 = .ok (.ireturn, 1) := by decide +kernel
theorem dX4_count_38 : decode cX4_count 38 = .ok (.aload_n 0, 1) := by decide +kernel
theorem dX4_count_39 : decode cX4_count 39 = .ok (.getfield 87, 3) := by decide +kernel
theorem dX4_count_42 : decode cX4_count 42 = .ok (.ireturn, 1) := by decide +kernel
theorem dX4_count_43 : decode cX4_count 43 = .ok (.iconst (-1), 1) := by decide +kernel
theorem dX4_count_44 : decode cX4_count 44 = .ok (.ireturn, 1) := by decide +kernel
theorem dX4_programAt_0 : decode cX4_programAt 0 = .ok (.iload_n 1, 1) := by decide +kernel
theorem dX4_programAt_1 : decode cX4_programAt 1 = .ok (.ifCond .lt 20, 3) := by decide +kernel
theorem dX4_programAt_4 : decode cX4_programAt 4 = .ok (.iload_n 1, 1) := by decide +kernel
theorem dX4_programAt_5 : decode cX4_programAt 5 = .ok (.aload_n 0, 1) := by decide +kernel
theorem dX4_programAt_6 : decode cX4_programAt 6 = .ok (.getfield 63, 3) := by decide +kernel
theorem dX4_programAt_9 : decode cX4_programAt 9 = .ok (.if_icmp .ge 12, 3) := by decide +kernel
theorem dX4_programAt_12 : decode cX4_programAt 12 = .ok (.aload_n 0, 1) := by decide +kernel
theorem dX4_programAt_13 : decode cX4_programAt 13 = .ok (.getfield 11, 3) := by decide +kernel
theorem dX4_programAt_16 : decode cX4_programAt 16 = .ok (.iload_n 1, 1) := by decide +kernel
theorem dX4_programAt_17 : decode cX4_programAt 17 = .ok (.aaload, 1) := by decide +kernel
theorem dX4_programAt_18 : decode cX4_programAt 18 = .ok (.goto 4, 3) := by decide +kernel
theorem dX4_programAt_21 : decode cX4_programAt 21 = .ok (.aconst_null, 1) := by decide +kernel
theorem dX4_programAt_22 : decode cX4_programAt 22 = .ok (.areturn, 1) := by decide +kernel
theorem dX4_questionAt_0 : decode cX4_questionAt 0 = .ok (.iload_n 1, 1) := by decide +kernel
theorem dX4_questionAt_1 : decode cX4_questionAt 1 = .ok (.ifCond .lt 20, 3) := by decide +kernel
theorem dX4_questionAt_4 : decode cX4_questionAt 4 = .ok (.iload_n 1, 1) := by decide +kernel
theorem dX4_questionAt_5 : decode cX4_questionAt 5 = .ok (.aload_n 0, 1) := by decide +kernel
theorem dX4_questionAt_6 : decode cX4_questionAt 6 = .ok (.getfield 150, 3) := by decide +kernel
theorem dX4_questionAt_9 : decode cX4_questionAt 9 = .ok (.if_icmp .ge 12, 3) := by decide +kernel
theorem dX4_questionAt_12 : decode cX4_questionAt 12 = .ok (.aload_n 0, 1) := by decide +kernel
theorem dX4_questionAt_13 : decode cX4_questionAt 13 = .ok (.getfield 17, 3) := by decide +kernel
theorem dX4_questionAt_16 : decode cX4_questionAt 16 = .ok (.iload_n 1, 1) := by decide +kernel
theorem dX4_questionAt_17 : decode cX4_questionAt 17 = .ok (.aaload, 1) := by decide +kernel
theorem dX4_questionAt_18 : decode cX4_questionAt 18 = .ok (.goto 4, 3) := by decide +kernel
theorem dX4_questionAt_21 : decode cX4_questionAt 21 = .ok (.aconst_null, 1) := by decide +kernel
theorem dX4_questionAt_22 : decode cX4_questionAt 22 = .ok (.areturn, 1) := by decide +kernel
theorem dX4_isPupil_0 : decode cX4_isPupil 0 = .ok (.iload_n 0, 1) := by decide +kernel
theorem dX4_isPupil_1 : decode cX4_isPupil 1 = .ok (.ifCond .lt 13, 3) := by decide +kernel
theorem dX4_isPupil_4 : decode cX4_isPupil 4 = .ok (.iload_n 0, 1) := by decide +kernel
theorem dX4_isPupil_5 : decode cX4_isPupil 5 = .ok (.bipush 10, 2) := by decide +kernel
theorem dX4_isPupil_7 : decode cX4_isPupil 7 = .ok (.if_icmp .ge 7, 3) := by decide +kernel
theorem dX4_isPupil_10 : decode cX4_isPupil 10 = .ok (.iconst 1, 1) := by decide +kernel
theorem dX4_isPupil_11 : decode cX4_isPupil 11 = .ok (.goto 4, 3) := by decide +kernel
theorem dX4_isPupil_14 : decode cX4_isPupil 14 = .ok (.iconst 0, 1) := by decide +kernel
theorem dX4_isPupil_15 : decode cX4_isPupil 15 = .ok (.ireturn, 1) := by decide +kernel
theorem dX4_isInput_0 : decode cX4_isInput 0 = .ok (.iload_n 0, 1) := by decide +kernel
theorem dX4_isInput_1 : decode cX4_isInput 1 = .ok (.ifCond .lt 13, 3) := by decide +kernel
theorem dX4_isInput_4 : decode cX4_isInput 4 = .ok (.iload_n 0, 1) := by decide +kernel
theorem dX4_isInput_5 : decode cX4_isInput 5 = .ok (.bipush 10, 2) := by decide +kernel
theorem dX4_isInput_7 : decode cX4_isInput 7 = .ok (.if_icmp .ge 7, 3) := by decide +kernel
theorem dX4_isInput_10 : decode cX4_isInput 10 = .ok (.iconst 1, 1) := by decide +kernel
theorem dX4_isInput_11 : decode cX4_isInput 11 = .ok (.goto 4, 3) := by decide +kernel
theorem dX4_isInput_14 : decode cX4_isInput 14 = .ok (.iconst 0, 1) := by decide +kernel
theorem dX4_isInput_15 : decode cX4_isInput 15 = .ok (.ireturn, 1) := by decide +kernel
theorem dX4_isMachine_0 : decode cX4_isMachine 0 = .ok (.iload_n 0, 1) := by decide +kernel
theorem dX4_isMachine_1 : decode cX4_isMachine 1 = .ok (.ifCond .lt 13, 3) := by decide +kernel
theorem dX4_isMachine_4 : decode cX4_isMachine 4 = .ok (.iload_n 0, 1) := by decide +kernel
theorem dX4_isMachine_5 : decode cX4_isMachine 5 = .ok (.bipush 64, 2) := by decide +kernel
theorem dX4_isMachine_7 : decode cX4_isMachine 7 = .ok (.if_icmp .ge 7, 3) := by decide +kernel
theorem dX4_isMachine_10 : decode cX4_isMachine 10 = .ok (.iconst 1, 1) := by decide +kernel
theorem dX4_isMachine_11 : decode cX4_isMachine 11 = .ok (.goto 4, 3) := by decide +kernel
theorem dX4_isMachine_14 : decode cX4_isMachine 14 = .ok (.iconst 0, 1) := by decide +kernel
theorem dX4_isMachine_15 : decode cX4_isMachine 15 = .ok (.ireturn, 1) := by decide +kernel
theorem dX4_isVariable_0 : decode cX4_isVariable 0 = .ok (.iload_n 0, 1) := by decide +kernel
theorem dX4_isVariable_1 : decode cX4_isVariable 1 = .ok (.ifCond .lt 12, 3) := by decide +kernel
theorem dX4_isVariable_4 : decode cX4_isVariable 4 = .ok (.iload_n 0, 1) := by decide +kernel
theorem dX4_isVariable_5 : decode cX4_isVariable 5 = .ok (.iconst 4, 1) := by decide +kernel
theorem dX4_isVariable_6 : decode cX4_isVariable 6 = .ok (.if_icmp .ge 7, 3) := by decide +kernel
theorem dX4_isVariable_9 : decode cX4_isVariable 9 = .ok (.iconst 1, 1) := by decide +kernel
theorem dX4_isVariable_10 : decode cX4_isVariable 10 = .ok (.goto 4, 3) := by decide +kernel
theorem dX4_isVariable_13 : decode cX4_isVariable 13 = .ok (.iconst 0, 1) := by decide +kernel
theorem dX4_isVariable_14 : decode cX4_isVariable 14 = .ok (.ireturn, 1) := by decide +kernel
theorem dX4_isCell_0 : decode cX4_isCell 0 = .ok (.iload_n 0, 1) := by decide +kernel
theorem dX4_isCell_1 : decode cX4_isCell 1 = .ok (.ifCond .lt 13, 3) := by decide +kernel
theorem dX4_isCell_4 : decode cX4_isCell 4 = .ok (.iload_n 0, 1) := by decide +kernel
theorem dX4_isCell_5 : decode cX4_isCell 5 = .ok (.bipush 8, 2) := by decide +kernel
theorem dX4_isCell_7 : decode cX4_isCell 7 = .ok (.if_icmp .ge 7, 3) := by decide +kernel
theorem dX4_isCell_10 : decode cX4_isCell 10 = .ok (.iconst 1, 1) := by decide +kernel
theorem dX4_isCell_11 : decode cX4_isCell 11 = .ok (.goto 4, 3) := by decide +kernel
theorem dX4_isCell_14 : decode cX4_isCell 14 = .ok (.iconst 0, 1) := by decide +kernel
theorem dX4_isCell_15 : decode cX4_isCell 15 = .ok (.ireturn, 1) := by decide +kernel
theorem dX4_isName_0 : decode cX4_isName 0 = .ok (.iload_n 0, 1) := by decide +kernel
theorem dX4_isName_1 : decode cX4_isName 1 = .ok (.ifCond .lt 12, 3) := by decide +kernel
theorem dX4_isName_4 : decode cX4_isName 4 = .ok (.iload_n 0, 1) := by decide +kernel
theorem dX4_isName_5 : decode cX4_isName 5 = .ok (.iconst 2, 1) := by decide +kernel
theorem dX4_isName_6 : decode cX4_isName 6 = .ok (.if_icmp .ge 7, 3) := by decide +kernel
theorem dX4_isName_9 : decode cX4_isName 9 = .ok (.iconst 1, 1) := by decide +kernel
theorem dX4_isName_10 : decode cX4_isName 10 = .ok (.goto 4, 3) := by decide +kernel
theorem dX4_isName_13 : decode cX4_isName 13 = .ok (.iconst 0, 1) := by decide +kernel
theorem dX4_isName_14 : decode cX4_isName 14 = .ok (.ireturn, 1) := by decide +kernel
theorem dX4_fitsOp_0 : decode cX4_fitsOp 0 = .ok (.iload_n 0, 1) := by decide +kernel
theorem dX4_fitsOp_1 : decode cX4_fitsOp 1 = .ok (.tableswitch 191 0 9 #[55, 80, 80, 80, 100, 80, 117, 131, 151, 171], 55) := by decide +kernel
theorem dX4_fitsOp_56 : decode cX4_fitsOp 56 = .ok (.iload_n 1, 1) := by decide +kernel
theorem dX4_fitsOp_57 : decode cX4_fitsOp 57 = .ok (.invokestatic 246, 3) := by decide +kernel
theorem dX4_fitsOp_60 : decode cX4_fitsOp 60 = .ok (.ifCond .eq 19, 3) := by decide +kernel
theorem dX4_fitsOp_63 : decode cX4_fitsOp 63 = .ok (.iload_n 2, 1) := by decide +kernel
theorem dX4_fitsOp_64 : decode cX4_fitsOp 64 = .ok (.bipush (-99), 2) := by decide +kernel
theorem dX4_fitsOp_66 : decode cX4_fitsOp 66 = .ok (.if_icmp .lt 13, 3) := by decide +kernel
theorem dX4_fitsOp_69 : decode cX4_fitsOp 69 = .ok (.iload_n 2, 1) := by decide +kernel
theorem dX4_fitsOp_70 : decode cX4_fitsOp 70 = .ok (.bipush 99, 2) := by decide +kernel
theorem dX4_fitsOp_72 : decode cX4_fitsOp 72 = .ok (.if_icmp .gt 7, 3) := by decide +kernel
theorem dX4_fitsOp_75 : decode cX4_fitsOp 75 = .ok (.iconst 1, 1) := by decide +kernel
theorem dX4_fitsOp_76 : decode cX4_fitsOp 76 = .ok (.goto 4, 3) := by decide +kernel
theorem dX4_fitsOp_79 : decode cX4_fitsOp 79 = .ok (.iconst 0, 1) := by decide +kernel
theorem dX4_fitsOp_80 : decode cX4_fitsOp 80 = .ok (.ireturn, 1) := by decide +kernel
theorem dX4_fitsOp_81 : decode cX4_fitsOp 81 = .ok (.iload_n 1, 1) := by decide +kernel
theorem dX4_fitsOp_82 : decode cX4_fitsOp 82 = .ok (.invokestatic 246, 3) := by decide +kernel
theorem dX4_fitsOp_85 : decode cX4_fitsOp 85 = .ok (.ifCond .eq 14, 3) := by decide +kernel
theorem dX4_fitsOp_88 : decode cX4_fitsOp 88 = .ok (.iload_n 2, 1) := by decide +kernel
theorem dX4_fitsOp_89 : decode cX4_fitsOp 89 = .ok (.invokestatic 246, 3) := by decide +kernel
theorem dX4_fitsOp_92 : decode cX4_fitsOp 92 = .ok (.ifCond .eq 7, 3) := by decide +kernel
theorem dX4_fitsOp_95 : decode cX4_fitsOp 95 = .ok (.iconst 1, 1) := by decide +kernel
theorem dX4_fitsOp_96 : decode cX4_fitsOp 96 = .ok (.goto 4, 3) := by decide +kernel
theorem dX4_fitsOp_99 : decode cX4_fitsOp 99 = .ok (.iconst 0, 1) := by decide +kernel
theorem dX4_fitsOp_100 : decode cX4_fitsOp 100 = .ok (.ireturn, 1) := by decide +kernel
theorem dX4_fitsOp_101 : decode cX4_fitsOp 101 = .ok (.iload_n 1, 1) := by decide +kernel
theorem dX4_fitsOp_102 : decode cX4_fitsOp 102 = .ok (.invokestatic 246, 3) := by decide +kernel
theorem dX4_fitsOp_105 : decode cX4_fitsOp 105 = .ok (.ifCond .eq 11, 3) := by decide +kernel
theorem dX4_fitsOp_108 : decode cX4_fitsOp 108 = .ok (.iload_n 2, 1) := by decide +kernel
theorem dX4_fitsOp_109 : decode cX4_fitsOp 109 = .ok (.ifCond .ne 7, 3) := by decide +kernel
theorem dX4_fitsOp_112 : decode cX4_fitsOp 112 = .ok (.iconst 1, 1) := by decide +kernel
theorem dX4_fitsOp_113 : decode cX4_fitsOp 113 = .ok (.goto 4, 3) := by decide +kernel
theorem dX4_fitsOp_116 : decode cX4_fitsOp 116 = .ok (.iconst 0, 1) := by decide +kernel
theorem dX4_fitsOp_117 : decode cX4_fitsOp 117 = .ok (.ireturn, 1) := by decide +kernel
theorem dX4_fitsOp_118 : decode cX4_fitsOp 118 = .ok (.iload_n 1, 1) := by decide +kernel
theorem dX4_fitsOp_119 : decode cX4_fitsOp 119 = .ok (.ifCond .ne 11, 3) := by decide +kernel
theorem dX4_fitsOp_122 : decode cX4_fitsOp 122 = .ok (.iload_n 2, 1) := by decide +kernel
theorem dX4_fitsOp_123 : decode cX4_fitsOp 123 = .ok (.ifCond .ne 7, 3) := by decide +kernel
theorem dX4_fitsOp_126 : decode cX4_fitsOp 126 = .ok (.iconst 1, 1) := by decide +kernel
theorem dX4_fitsOp_127 : decode cX4_fitsOp 127 = .ok (.goto 4, 3) := by decide +kernel
theorem dX4_fitsOp_130 : decode cX4_fitsOp 130 = .ok (.iconst 0, 1) := by decide +kernel
theorem dX4_fitsOp_131 : decode cX4_fitsOp 131 = .ok (.ireturn, 1) := by decide +kernel
theorem dX4_fitsOp_132 : decode cX4_fitsOp 132 = .ok (.iload_n 1, 1) := by decide +kernel
theorem dX4_fitsOp_133 : decode cX4_fitsOp 133 = .ok (.invokestatic 249, 3) := by decide +kernel
theorem dX4_fitsOp_136 : decode cX4_fitsOp 136 = .ok (.ifCond .eq 14, 3) := by decide +kernel
theorem dX4_fitsOp_139 : decode cX4_fitsOp 139 = .ok (.iload_n 2, 1) := by decide +kernel
theorem dX4_fitsOp_140 : decode cX4_fitsOp 140 = .ok (.invokestatic 246, 3) := by decide +kernel
theorem dX4_fitsOp_143 : decode cX4_fitsOp 143 = .ok (.ifCond .eq 7, 3) := by decide +kernel
theorem dX4_fitsOp_146 : decode cX4_fitsOp 146 = .ok (.iconst 1, 1) := by decide +kernel
theorem dX4_fitsOp_147 : decode cX4_fitsOp 147 = .ok (.goto 4, 3) := by decide +kernel
theorem dX4_fitsOp_150 : decode cX4_fitsOp 150 = .ok (.iconst 0, 1) := by decide +kernel
theorem dX4_fitsOp_151 : decode cX4_fitsOp 151 = .ok (.ireturn, 1) := by decide +kernel
theorem dX4_fitsOp_152 : decode cX4_fitsOp 152 = .ok (.iload_n 1, 1) := by decide +kernel
theorem dX4_fitsOp_153 : decode cX4_fitsOp 153 = .ok (.invokestatic 246, 3) := by decide +kernel
theorem dX4_fitsOp_156 : decode cX4_fitsOp 156 = .ok (.ifCond .eq 14, 3) := by decide +kernel
theorem dX4_fitsOp_159 : decode cX4_fitsOp 159 = .ok (.iload_n 2, 1) := by decide +kernel
theorem dX4_fitsOp_160 : decode cX4_fitsOp 160 = .ok (.invokestatic 249, 3) := by decide +kernel
theorem dX4_fitsOp_163 : decode cX4_fitsOp 163 = .ok (.ifCond .eq 7, 3) := by decide +kernel
theorem dX4_fitsOp_166 : decode cX4_fitsOp 166 = .ok (.iconst 1, 1) := by decide +kernel
theorem dX4_fitsOp_167 : decode cX4_fitsOp 167 = .ok (.goto 4, 3) := by decide +kernel
theorem dX4_fitsOp_170 : decode cX4_fitsOp 170 = .ok (.iconst 0, 1) := by decide +kernel
theorem dX4_fitsOp_171 : decode cX4_fitsOp 171 = .ok (.ireturn, 1) := by decide +kernel
theorem dX4_fitsOp_172 : decode cX4_fitsOp 172 = .ok (.iload_n 1, 1) := by decide +kernel
theorem dX4_fitsOp_173 : decode cX4_fitsOp 173 = .ok (.invokestatic 252, 3) := by decide +kernel
theorem dX4_fitsOp_176 : decode cX4_fitsOp 176 = .ok (.ifCond .eq 14, 3) := by decide +kernel
theorem dX4_fitsOp_179 : decode cX4_fitsOp 179 = .ok (.iload_n 2, 1) := by decide +kernel
theorem dX4_fitsOp_180 : decode cX4_fitsOp 180 = .ok (.invokestatic 252, 3) := by decide +kernel
theorem dX4_fitsOp_183 : decode cX4_fitsOp 183 = .ok (.ifCond .eq 7, 3) := by decide +kernel
theorem dX4_fitsOp_186 : decode cX4_fitsOp 186 = .ok (.iconst 1, 1) := by decide +kernel
theorem dX4_fitsOp_187 : decode cX4_fitsOp 187 = .ok (.goto 4, 3) := by decide +kernel
theorem dX4_fitsOp_190 : decode cX4_fitsOp 190 = .ok (.iconst 0, 1) := by decide +kernel
theorem dX4_fitsOp_191 : decode cX4_fitsOp 191 = .ok (.ireturn, 1) := by decide +kernel
theorem dX4_fitsOp_192 : decode cX4_fitsOp 192 = .ok (.iconst 0, 1) := by decide +kernel
theorem dX4_fitsOp_193 : decode cX4_fitsOp 193 = .ok (.ireturn, 1) := by decide +kernel
theorem dX4_isAskable_0 : decode cX4_isAskable 0 = .ok (.iload_n 1, 1) := by decide +kernel
theorem dX4_isAskable_1 : decode cX4_isAskable 1 = .ok (.tableswitch 43 0 2 #[27, 32, 38], 27) := by decide +kernel
theorem dX4_isAskable_28 : decode cX4_isAskable 28 = .ok (.iload_n 2, 1) := by decide +kernel
theorem dX4_isAskable_29 : decode cX4_isAskable 29 = .ok (.invokestatic 246, 3) := by decide +kernel
theorem dX4_isAskable_32 : decode cX4_isAskable 32 = .ok (.ireturn, 1) := by decide +kernel
theorem dX4_isAskable_33 : decode cX4_isAskable 33 = .ok (.aload_n 0, 1) := by decide +kernel
theorem dX4_isAskable_34 : decode cX4_isAskable 34 = .ok (.iload_n 2, 1) := by decide +kernel
theorem dX4_isAskable_35 : decode cX4_isAskable 35 = .ok (.invokevirtual 94, 3) := by decide +kernel
theorem dX4_isAskable_38 : decode cX4_isAskable 38 = .ok (.ireturn, 1) := by decide +kernel
theorem dX4_isAskable_39 : decode cX4_isAskable 39 = .ok (.iload_n 2, 1) := by decide +kernel
theorem dX4_isAskable_40 : decode cX4_isAskable 40 = .ok (.invokestatic 249, 3) := by decide +kernel
theorem dX4_isAskable_43 : decode cX4_isAskable 43 = .ok (.ireturn, 1) := by decide +kernel
theorem dX4_isAskable_44 : decode cX4_isAskable 44 = .ok (.iconst 0, 1) := by decide +kernel
theorem dX4_isAskable_45 : decode cX4_isAskable 45 = .ok (.ireturn, 1) := by decide +kernel
theorem dX4_answerBy_0 : decode cX4_answerBy 0 = .ok (.aload_n 1, 1) := by decide +kernel
theorem dX4_answerBy_1 : decode cX4_answerBy 1 = .ok (.iload_n 2, 1) := by decide +kernel
theorem dX4_answerBy_2 : decode cX4_answerBy 2 = .ok (.invokevirtual 255, 3) := by decide +kernel
theorem dX4_answerBy_5 : decode cX4_answerBy 5 = .ok (.ifCond .ne 39, 3) := by decide +kernel
theorem dX4_answerBy_8 : decode cX4_answerBy 8 = .ok (.aload_n 0, 1) := by decide +kernel
theorem dX4_answerBy_9 : decode cX4_answerBy 9 = .ok (.getfield 38, 3) := by decide +kernel
theorem dX4_answerBy_12 : decode cX4_answerBy 12 = .ok (.aload_n 1, 1) := by decide +kernel
theorem dX4_answerBy_13 : decode cX4_answerBy 13 = .ok (.getfield 195, 3) := by decide +kernel
theorem dX4_answerBy_16 : decode cX4_answerBy 16 = .ok (.aload_n 1, 1) := by decide +kernel
theorem dX4_answerBy_17 : decode cX4_answerBy 17 = .ok (.getfield 258, 3) := by decide +kernel
theorem dX4_answerBy_20 : decode cX4_answerBy 20 = .ok (.iload_n 2, 1) := by decide +kernel
theorem dX4_answerBy_21 : decode cX4_answerBy 21 = .ok (.invokevirtual 117, 3) := by decide +kernel
theorem dX4_answerBy_24 : decode cX4_answerBy 24 = .ok (.aload_n 1, 1) := by decide +kernel
theorem dX4_answerBy_25 : decode cX4_answerBy 25 = .ok (.iload_n 2, 1) := by decide +kernel
theorem dX4_answerBy_26 : decode cX4_answerBy 26 = .ok (.aload_n 0, 1) := by decide +kernel
theorem dX4_answerBy_27 : decode cX4_answerBy 27 = .ok (.getfield 38, 3) := by decide +kernel
theorem dX4_answerBy_30 : decode cX4_answerBy 30 = .ok (.aload_n 1, 1) := by decide +kernel
theorem dX4_answerBy_31 : decode cX4_answerBy 31 = .ok (.getfield 192, 3) := by decide +kernel
theorem dX4_answerBy_34 : decode cX4_answerBy 34 = .ok (.aload_n 1, 1) := by decide +kernel
theorem dX4_answerBy_35 : decode cX4_answerBy 35 = .ok (.getfield 199, 3) := by decide +kernel
theorem dX4_answerBy_38 : decode cX4_answerBy 38 = .ok (.invokevirtual 261, 3) := by decide +kernel
theorem dX4_answerBy_41 : decode cX4_answerBy 41 = .ok (.invokevirtual 264, 3) := by decide +kernel
theorem dX4_answerBy_44 : decode cX4_answerBy 44 = .ok (.aload_n 1, 1) := by decide +kernel
theorem dX4_answerBy_45 : decode cX4_answerBy 45 = .ok (.getfield 268, 3) := by decide +kernel
theorem dX4_answerBy_48 : decode cX4_answerBy 48 = .ok (.iload_n 2, 1) := by decide +kernel
theorem dX4_answerBy_49 : decode cX4_answerBy 49 = .ok (.iaload, 1) := by decide +kernel
theorem dX4_answerBy_50 : decode cX4_answerBy 50 = .ok (.ireturn, 1) := by decide +kernel
theorem dX4_listChoices_0 : decode cX4_listChoices 0 = .ok (.iconst 0, 1) := by decide +kernel
theorem dX4_listChoices_1 : decode cX4_listChoices 1 = .ok (.istore_n 2, 1) := by decide +kernel
theorem dX4_listChoices_2 : decode cX4_listChoices 2 = .ok (.iconst 0, 1) := by decide +kernel
theorem dX4_listChoices_3 : decode cX4_listChoices 3 = .ok (.istore_n 3, 1) := by decide +kernel
theorem dX4_listChoices_4 : decode cX4_listChoices 4 = .ok (.iload_n 3, 1) := by decide +kernel
theorem dX4_listChoices_5 : decode cX4_listChoices 5 = .ok (.bipush 7, 2) := by decide +kernel
theorem dX4_listChoices_7 : decode cX4_listChoices 7 = .ok (.if_icmp .ge 51, 3) := by decide +kernel
theorem dX4_listChoices_10 : decode cX4_listChoices 10 = .ok (.aload_n 0, 1) := by decide +kernel
theorem dX4_listChoices_11 : decode cX4_listChoices 11 = .ok (.aload_n 1, 1) := by decide +kernel
theorem dX4_listChoices_12 : decode cX4_listChoices 12 = .ok (.iload_n 3, 1) := by decide +kernel
theorem dX4_listChoices_13 : decode cX4_listChoices 13 = .ok (.invokestatic 271, 3) := by decide +kernel
theorem dX4_listChoices_16 : decode cX4_listChoices 16 = .ok (.invokevirtual 160, 3) := by decide +kernel
theorem dX4_listChoices_19 : decode cX4_listChoices 19 = .ok (.istore 4, 2) := by decide +kernel
theorem dX4_listChoices_21 : decode cX4_listChoices 21 = .ok (.aload_n 0, 1) := by decide +kernel
theorem dX4_listChoices_22 : decode cX4_listChoices 22 = .ok (.iload 4, 2) := by decide +kernel
theorem dX4_listChoices_24 : decode cX4_listChoices 24 = .ok (.iload_n 2, 1) := by decide +kernel
theorem dX4_listChoices_25 : decode cX4_listChoices 25 = .ok (.invokevirtual 274, 3) := by decide +kernel
theorem dX4_listChoices_28 : decode cX4_listChoices 28 = .ok (.ifCond .ne 24, 3) := by decide +kernel
theorem dX4_listChoices_31 : decode cX4_listChoices 31 = .ok (.aload_n 0, 1) := by decide +kernel
theorem dX4_listChoices_32 : decode cX4_listChoices 32 = .ok (.getfield 44, 3) := by decide +kernel
theorem dX4_listChoices_35 : decode cX4_listChoices 35 = .ok (.iload_n 2, 1) := by decide +kernel
theorem dX4_listChoices_36 : decode cX4_listChoices 36 = .ok (.iload 4, 2) := by decide +kernel
theorem dX4_listChoices_38 : decode cX4_listChoices 38 = .ok (.iastore, 1) := by decide +kernel
theorem dX4_listChoices_39 : decode cX4_listChoices 39 = .ok (.aload_n 0, 1) := by decide +kernel
theorem dX4_listChoices_40 : decode cX4_listChoices 40 = .ok (.getfield 47, 3) := by decide +kernel
theorem dX4_listChoices_43 : decode cX4_listChoices 43 = .ok (.iload_n 2, 1) := by decide +kernel
theorem dX4_listChoices_44 : decode cX4_listChoices 44 = .ok (.iload_n 3, 1) := by decide +kernel
theorem dX4_listChoices_45 : decode cX4_listChoices 45 = .ok (.invokestatic 271, 3) := by decide +kernel
theorem dX4_listChoices_48 : decode cX4_listChoices 48 = .ok (.iastore, 1) := by decide +kernel
theorem dX4_listChoices_49 : decode cX4_listChoices 49 = .ok (.iinc 2 1, 3) := by decide +kernel
theorem dX4_listChoices_52 : decode cX4_listChoices 52 = .ok (.iinc 3 1, 3) := by decide +kernel
theorem dX4_listChoices_55 : decode cX4_listChoices 55 = .ok (.goto (-51), 3) := by decide +kernel
theorem dX4_listChoices_58 : decode cX4_listChoices 58 = .ok (.iload_n 2, 1) := by decide +kernel
theorem dX4_listChoices_59 : decode cX4_listChoices 59 = .ok (.ireturn, 1) := by decide +kernel
theorem dX4_isListed_0 : decode cX4_isListed 0 = .ok (.iconst 0, 1) := by decide +kernel
theorem dX4_isListed_1 : decode cX4_isListed 1 = .ok (.istore_n 3, 1) := by decide +kernel
theorem dX4_isListed_2 : decode cX4_isListed 2 = .ok (.iload_n 3, 1) := by decide +kernel
theorem dX4_isListed_3 : decode cX4_isListed 3 = .ok (.iload_n 2, 1) := by decide +kernel
theorem dX4_isListed_4 : decode cX4_isListed 4 = .ok (.if_icmp .ge 21, 3) := by decide +kernel
theorem dX4_isListed_7 : decode cX4_isListed 7 = .ok (.aload_n 0, 1) := by decide +kernel
theorem dX4_isListed_8 : decode cX4_isListed 8 = .ok (.getfield 44, 3) := by decide +kernel
theorem dX4_isListed_11 : decode cX4_isListed 11 = .ok (.iload_n 3, 1) := by decide +kernel
theorem dX4_isListed_12 : decode cX4_isListed 12 = .ok (.iaload, 1) := by decide +kernel
theorem dX4_isListed_13 : decode cX4_isListed 13 = .ok (.iload_n 1, 1) := by decide +kernel
theorem dX4_isListed_14 : decode cX4_isListed 14 = .ok (.if_icmp .ne 5, 3) := by decide +kernel
theorem dX4_isListed_17 : decode cX4_isListed 17 = .ok (.iconst 1, 1) := by decide +kernel
theorem dX4_isListed_18 : decode cX4_isListed 18 = .ok (.ireturn, 1) := by decide +kernel
theorem dX4_isListed_19 : decode cX4_isListed 19 = .ok (.iinc 3 1, 3) := by decide +kernel
theorem dX4_isListed_22 : decode cX4_isListed 22 = .ok (.goto (-20), 3) := by decide +kernel
theorem dX4_isListed_25 : decode cX4_isListed 25 = .ok (.iconst 0, 1) := by decide +kernel
theorem dX4_isListed_26 : decode cX4_isListed 26 = .ok (.ireturn, 1) := by decide +kernel
theorem dX4_singleMachine_0 : decode cX4_singleMachine 0 = .ok (.iload_n 0, 1) := by decide +kernel
theorem dX4_singleMachine_1 : decode cX4_singleMachine 1 = .ok (.ifCond .ne 7, 3) := by decide +kernel
theorem dX4_singleMachine_4 : decode cX4_singleMachine 4 = .ok (.iconst 0, 1) := by decide +kernel
theorem dX4_singleMachine_5 : decode cX4_singleMachine 5 = .ok (.goto 8, 3) := by decide +kernel
theorem dX4_singleMachine_8 : decode cX4_singleMachine 8 = .ok (.iconst 1, 1) := by decide +kernel
theorem dX4_singleMachine_9 : decode cX4_singleMachine 9 = .ok (.iload_n 0, 1) := by decide +kernel
theorem dX4_singleMachine_10 : decode cX4_singleMachine 10 = .ok (.iconst 1, 1) := by decide +kernel
theorem dX4_singleMachine_11 : decode cX4_singleMachine 11 = .ok (.isub, 1) := by decide +kernel
theorem dX4_singleMachine_12 : decode cX4_singleMachine 12 = .ok (.ishl, 1) := by decide +kernel
theorem dX4_singleMachine_13 : decode cX4_singleMachine 13 = .ok (.ireturn, 1) := by decide +kernel
theorem dX4_findFillings_0 : decode cX4_findFillings 0 = .ok (.ldc2_w 278, 3) := by decide +kernel
theorem dX4_findFillings_3 : decode cX4_findFillings 3 = .ok (.lstore_n 3, 1) := by decide +kernel
theorem dX4_findFillings_4 : decode cX4_findFillings 4 = .ok (.iconst 0, 1) := by decide +kernel
theorem dX4_findFillings_5 : decode cX4_findFillings 5 = .ok (.istore 5, 2) := by decide +kernel
theorem dX4_findFillings_7 : decode cX4_findFillings 7 = .ok (.iload 5, 2) := by decide +kernel
theorem dX4_findFillings_9 : decode cX4_findFillings 9 = .ok (.bipush 10, 2) := by decide +kernel
theorem dX4_findFillings_11 : decode cX4_findFillings 11 = .ok (.if_icmp .ge 42, 3) := by decide +kernel
theorem dX4_findFillings_14 : decode cX4_findFillings 14 = .ok (.aload_n 0, 1) := by decide +kernel
theorem dX4_findFillings_15 : decode cX4_findFillings 15 = .ok (.getfield 38, 3) := by decide +kernel
theorem dX4_findFillings_18 : decode cX4_findFillings 18 = .ok (.aload_n 1, 1) := by decide +kernel
theorem dX4_findFillings_19 : decode cX4_findFillings 19 = .ok (.iload 5, 2) := by decide +kernel
theorem dX4_findFillings_21 : decode cX4_findFillings 21 = .ok (.iconst 0, 1) := by decide +kernel
theorem dX4_findFillings_22 : decode cX4_findFillings 22 = .ok (.invokevirtual 117, 3) := by decide +kernel
theorem dX4_findFillings_25 : decode cX4_findFillings 25 = .ok (.aload_n 0, 1) := by decide +kernel
theorem dX4_findFillings_26 : decode cX4_findFillings 26 = .ok (.getfield 38, 3) := by decide +kernel
theorem dX4_findFillings_29 : decode cX4_findFillings 29 = .ok (.getfield 143, 3) := by decide +kernel
theorem dX4_findFillings_32 : decode cX4_findFillings 32 = .ok (.iload_n 2, 1) := by decide +kernel
theorem dX4_findFillings_33 : decode cX4_findFillings 33 = .ok (.iaload, 1) := by decide +kernel
theorem dX4_findFillings_34 : decode cX4_findFillings 34 = .ok (.ifCond .le 13, 3) := by decide +kernel
theorem dX4_findFillings_37 : decode cX4_findFillings 37 = .ok (.aload_n 0, 1) := by decide +kernel
theorem dX4_findFillings_38 : decode cX4_findFillings 38 = .ok (.aload_n 1, 1) := by decide +kernel
theorem dX4_findFillings_39 : decode cX4_findFillings 39 = .ok (.iload_n 2, 1) := by decide +kernel
theorem dX4_findFillings_40 : decode cX4_findFillings 40 = .ok (.iload 5, 2) := by decide +kernel
theorem dX4_findFillings_42 : decode cX4_findFillings 42 = .ok (.lload_n 3, 1) := by decide +kernel
theorem dX4_findFillings_43 : decode cX4_findFillings 43 = .ok (.invokevirtual 280, 3) := by decide +kernel
theorem dX4_findFillings_46 : decode cX4_findFillings 46 = .ok (.lstore_n 3, 1) := by decide +kernel
theorem dX4_findFillings_47 : decode cX4_findFillings 47 = .ok (.iinc 5 1, 3) := by decide +kernel
theorem dX4_findFillings_50 : decode cX4_findFillings 50 = .ok (.goto (-43), 3) := by decide +kernel
theorem dX4_findFillings_53 : decode cX4_findFillings 53 = .ok (.lload_n 3, 1) := by decide +kernel
theorem dX4_findFillings_54 : decode cX4_findFillings 54 = .ok (.lreturn, 1) := by decide +kernel
theorem dX4_fillingsThatEndAlike_0 : decode cX4_fillingsThatEndAlike 0 = .ok (.aload_n 1, 1) := by decide +kernel
theorem dX4_fillingsThatEndAlike_1 : decode cX4_fillingsThatEndAlike 1 = .ok (.getfield 105, 3) := by decide +kernel
theorem dX4_fillingsThatEndAlike_4 : decode cX4_fillingsThatEndAlike 4 = .ok (.iload_n 2, 1) := by decide +kernel
theorem dX4_fillingsThatEndAlike_5 : decode cX4_fillingsThatEndAlike 5 = .ok (.iaload, 1) := by decide +kernel
theorem dX4_fillingsThatEndAlike_6 : decode cX4_fillingsThatEndAlike 6 = .ok (.istore 6, 2) := by decide +kernel
theorem dX4_fillingsThatEndAlike_8 : decode cX4_fillingsThatEndAlike 8 = .ok (.lload 4, 2) := by decide +kernel
theorem dX4_fillingsThatEndAlike_10 : decode cX4_fillingsThatEndAlike 10 = .ok (.lstore 7, 2) := by decide +kernel
theorem dX4_fillingsThatEndAlike_12 : decode cX4_fillingsThatEndAlike 12 = .ok (.iconst 0, 1) := by decide +kernel
theorem dX4_fillingsThatEndAlike_13 : decode cX4_fillingsThatEndAlike 13 = .ok (.istore 9, 2) := by decide +kernel
theorem dX4_fillingsThatEndAlike_15 : decode cX4_fillingsThatEndAlike 15 = .ok (.iload 9, 2) := by decide +kernel
theorem dX4_fillingsThatEndAlike_17 : decode cX4_fillingsThatEndAlike 17 = .ok (.bipush 18, 2) := by decide +kernel
theorem dX4_fillingsThatEndAlike_19 : decode cX4_fillingsThatEndAlike 19 = .ok (.if_icmp .gt 67, 3) := by decide +kernel
theorem dX4_fillingsThatEndAlike_22 : decode cX4_fillingsThatEndAlike 22 = .ok (.lload 7, 2) := by decide +kernel
theorem dX4_fillingsThatEndAlike_24 : decode cX4_fillingsThatEndAlike 24 = .ok (.iload 9, 2) := by decide +kernel
theorem dX4_fillingsThatEndAlike_26 : decode cX4_fillingsThatEndAlike 26 = .ok (.invokestatic 284, 3) := by decide +kernel
theorem dX4_fillingsThatEndAlike_29 : decode cX4_fillingsThatEndAlike 29 = .ok (.ifCond .eq 51, 3) := by decide +kernel
theorem dX4_fillingsThatEndAlike_32 : decode cX4_fillingsThatEndAlike 32 = .ok (.aload_n 1, 1) := by decide +kernel
theorem dX4_fillingsThatEndAlike_33 : decode cX4_fillingsThatEndAlike 33 = .ok (.getfield 105, 3) := by decide +kernel
theorem dX4_fillingsThatEndAlike_36 : decode cX4_fillingsThatEndAlike 36 = .ok (.iload_n 2, 1) := by decide +kernel
theorem dX4_fillingsThatEndAlike_37 : decode cX4_fillingsThatEndAlike 37 = .ok (.iload 9, 2) := by decide +kernel
theorem dX4_fillingsThatEndAlike_39 : decode cX4_fillingsThatEndAlike 39 = .ok (.bipush 9, 2) := by decide +kernel
theorem dX4_fillingsThatEndAlike_41 : decode cX4_fillingsThatEndAlike 41 = .ok (.isub, 1) := by decide +kernel
theorem dX4_fillingsThatEndAlike_42 : decode cX4_fillingsThatEndAlike 42 = .ok (.iastore, 1) := by decide +kernel
theorem dX4_fillingsThatEndAlike_43 : decode cX4_fillingsThatEndAlike 43 = .ok (.aload_n 0, 1) := by decide +kernel
theorem dX4_fillingsThatEndAlike_44 : decode cX4_fillingsThatEndAlike 44 = .ok (.getfield 41, 3) := by decide +kernel
theorem dX4_fillingsThatEndAlike_47 : decode cX4_fillingsThatEndAlike 47 = .ok (.aload_n 1, 1) := by decide +kernel
theorem dX4_fillingsThatEndAlike_48 : decode cX4_fillingsThatEndAlike 48 = .ok (.iload_n 3, 1) := by decide +kernel
theorem dX4_fillingsThatEndAlike_49 : decode cX4_fillingsThatEndAlike 49 = .ok (.iconst 0, 1) := by decide +kernel
theorem dX4_fillingsThatEndAlike_50 : decode cX4_fillingsThatEndAlike 50 = .ok (.invokevirtual 117, 3) := by decide +kernel
theorem dX4_fillingsThatEndAlike_53 : decode cX4_fillingsThatEndAlike 53 = .ok (.aload_n 0, 1) := by decide +kernel
theorem dX4_fillingsThatEndAlike_54 : decode cX4_fillingsThatEndAlike 54 = .ok (.getfield 41, 3) := by decide +kernel
theorem dX4_fillingsThatEndAlike_57 : decode cX4_fillingsThatEndAlike 57 = .ok (.aload_n 0, 1) := by decide +kernel
theorem dX4_fillingsThatEndAlike_58 : decode cX4_fillingsThatEndAlike 58 = .ok (.getfield 38, 3) := by decide +kernel
theorem dX4_fillingsThatEndAlike_61 : decode cX4_fillingsThatEndAlike 61 = .ok (.invokevirtual 288, 3) := by decide +kernel
theorem dX4_fillingsThatEndAlike_64 : decode cX4_fillingsThatEndAlike 64 = .ok (.ifCond .ne 16, 3) := by decide +kernel
theorem dX4_fillingsThatEndAlike_67 : decode cX4_fillingsThatEndAlike 67 = .ok (.lload 7, 2) := by decide +kernel
theorem dX4_fillingsThatEndAlike_69 : decode cX4_fillingsThatEndAlike 69 = .ok (.lconst 1, 1) := by decide +kernel
theorem dX4_fillingsThatEndAlike_70 : decode cX4_fillingsThatEndAlike 70 = .ok (.iload 9, 2) := by decide +kernel
theorem dX4_fillingsThatEndAlike_72 : decode cX4_fillingsThatEndAlike 72 = .ok (.lshl, 1) := by decide +kernel
theorem dX4_fillingsThatEndAlike_73 : decode cX4_fillingsThatEndAlike 73 = .ok (.ldc2_w 291, 3) := by decide +kernel
theorem dX4_fillingsThatEndAlike_76 : decode cX4_fillingsThatEndAlike 76 = .ok (.lxor, 1) := by decide +kernel
theorem dX4_fillingsThatEndAlike_77 : decode cX4_fillingsThatEndAlike 77 = .ok (.land, 1) := by decide +kernel
theorem dX4_fillingsThatEndAlike_78 : decode cX4_fillingsThatEndAlike 78 = .ok (.lstore 7, 2) := by decide +kernel
theorem dX4_fillingsThatEndAlike_80 : decode cX4_fillingsThatEndAlike 80 = .ok (.iinc 9 1, 3) := by decide +kernel
theorem dX4_fillingsThatEndAlike_83 : decode cX4_fillingsThatEndAlike 83 = .ok (.goto (-68), 3) := by decide +kernel
theorem dX4_fillingsThatEndAlike_86 : decode cX4_fillingsThatEndAlike 86 = .ok (.aload_n 1, 1) := by decide +kernel
theorem dX4_fillingsThatEndAlike_87 : decode cX4_fillingsThatEndAlike 87 = .ok (.getfield 105, 3) := by decide +kernel
theorem dX4_fillingsThatEndAlike_90 : decode cX4_fillingsThatEndAlike 90 = .ok (.iload_n 2, 1) := by decide +kernel
theorem dX4_fillingsThatEndAlike_91 : decode cX4_fillingsThatEndAlike 91 = .ok (.iload 6, 2) := by decide +kernel
theorem dX4_fillingsThatEndAlike_93 : decode cX4_fillingsThatEndAlike 93 = .ok (.iastore, 1) := by decide +kernel
theorem dX4_fillingsThatEndAlike_94 : decode cX4_fillingsThatEndAlike 94 = .ok (.lload 7, 2) := by decide +kernel
theorem dX4_fillingsThatEndAlike_96 : decode cX4_fillingsThatEndAlike 96 = .ok (.lreturn, 1) := by decide +kernel
theorem dX4_costOf_0 : decode cX4_costOf 0 = .ok (.iconst 0, 1) := by decide +kernel
theorem dX4_costOf_1 : decode cX4_costOf 1 = .ok (.istore_n 3, 1) := by decide +kernel
theorem dX4_costOf_2 : decode cX4_costOf 2 = .ok (.iconst 0, 1) := by decide +kernel
theorem dX4_costOf_3 : decode cX4_costOf 3 = .ok (.istore 4, 2) := by decide +kernel
theorem dX4_costOf_5 : decode cX4_costOf 5 = .ok (.iload 4, 2) := by decide +kernel
theorem dX4_costOf_7 : decode cX4_costOf 7 = .ok (.bipush 6, 2) := by decide +kernel
theorem dX4_costOf_9 : decode cX4_costOf 9 = .ok (.if_icmp .ge 29, 3) := by decide +kernel
theorem dX4_costOf_12 : decode cX4_costOf 12 = .ok (.iload_n 2, 1) := by decide +kernel
theorem dX4_costOf_13 : decode cX4_costOf 13 = .ok (.i2l, 1) := by decide +kernel
theorem dX4_costOf_14 : decode cX4_costOf 14 = .ok (.iload 4, 2) := by decide +kernel
theorem dX4_costOf_16 : decode cX4_costOf 16 = .ok (.invokestatic 284, 3) := by decide +kernel
theorem dX4_costOf_19 : decode cX4_costOf 19 = .ok (.ifCond .eq 13, 3) := by decide +kernel
theorem dX4_costOf_22 : decode cX4_costOf 22 = .ok (.iload_n 3, 1) := by decide +kernel
theorem dX4_costOf_23 : decode cX4_costOf 23 = .ok (.aload_n 0, 1) := by decide +kernel
theorem dX4_costOf_24 : decode cX4_costOf 24 = .ok (.getfield 27, 3) := by decide +kernel
theorem dX4_costOf_27 : decode cX4_costOf 27 = .ok (.iload 4, 2) := by decide +kernel
theorem dX4_costOf_29 : decode cX4_costOf 29 = .ok (.iaload, 1) := by decide +kernel
theorem dX4_costOf_30 : decode cX4_costOf 30 = .ok (.iadd, 1) := by decide +kernel
theorem dX4_costOf_31 : decode cX4_costOf 31 = .ok (.istore_n 3, 1) := by decide +kernel
theorem dX4_costOf_32 : decode cX4_costOf 32 = .ok (.iinc 4 1, 3) := by decide +kernel
theorem dX4_costOf_35 : decode cX4_costOf 35 = .ok (.goto (-30), 3) := by decide +kernel
theorem dX4_costOf_38 : decode cX4_costOf 38 = .ok (.iconst 0, 1) := by decide +kernel
theorem dX4_costOf_39 : decode cX4_costOf 39 = .ok (.istore 4, 2) := by decide +kernel
theorem dX4_costOf_41 : decode cX4_costOf 41 = .ok (.iload 4, 2) := by decide +kernel
theorem dX4_costOf_43 : decode cX4_costOf 43 = .ok (.aload_n 0, 1) := by decide +kernel
theorem dX4_costOf_44 : decode cX4_costOf 44 = .ok (.getfield 150, 3) := by decide +kernel
theorem dX4_costOf_47 : decode cX4_costOf 47 = .ok (.if_icmp .ge 50, 3) := by decide +kernel
theorem dX4_costOf_50 : decode cX4_costOf 50 = .ok (.aload_n 1, 1) := by decide +kernel
theorem dX4_costOf_51 : decode cX4_costOf 51 = .ok (.iload 4, 2) := by decide +kernel
theorem dX4_costOf_53 : decode cX4_costOf 53 = .ok (.invokevirtual 225, 3) := by decide +kernel
theorem dX4_costOf_56 : decode cX4_costOf 56 = .ok (.ifCond .eq 35, 3) := by decide +kernel
theorem dX4_costOf_59 : decode cX4_costOf 59 = .ok (.aload_n 1, 1) := by decide +kernel
theorem dX4_costOf_60 : decode cX4_costOf 60 = .ok (.getfield 293, 3) := by decide +kernel
theorem dX4_costOf_63 : decode cX4_costOf 63 = .ok (.iload 4, 2) := by decide +kernel
theorem dX4_costOf_65 : decode cX4_costOf 65 = .ok (.iaload, 1) := by decide +kernel
theorem dX4_costOf_66 : decode cX4_costOf 66 = .ok (.aload_n 0, 1) := by decide +kernel
theorem dX4_costOf_67 : decode cX4_costOf 67 = .ok (.aload_n 0, 1) := by decide +kernel
theorem dX4_costOf_68 : decode cX4_costOf 68 = .ok (.getfield 17, 3) := by decide +kernel
theorem dX4_costOf_71 : decode cX4_costOf 71 = .ok (.iload 4, 2) := by decide +kernel
theorem dX4_costOf_73 : decode cX4_costOf 73 = .ok (.aaload, 1) := by decide +kernel
theorem dX4_costOf_74 : decode cX4_costOf 74 = .ok (.iload_n 2, 1) := by decide +kernel
theorem dX4_costOf_75 : decode cX4_costOf 75 = .ok (.invokevirtual 160, 3) := by decide +kernel
theorem dX4_costOf_78 : decode cX4_costOf 78 = .ok (.if_icmp .eq 13, 3) := by decide +kernel
theorem dX4_costOf_81 : decode cX4_costOf 81 = .ok (.iload_n 3, 1) := by decide +kernel
theorem dX4_costOf_82 : decode cX4_costOf 82 = .ok (.aload_n 0, 1) := by decide +kernel
theorem dX4_costOf_83 : decode cX4_costOf 83 = .ok (.getfield 27, 3) := by decide +kernel
theorem dX4_costOf_86 : decode cX4_costOf 86 = .ok (.bipush 6, 2) := by decide +kernel
theorem dX4_costOf_88 : decode cX4_costOf 88 = .ok (.iaload, 1) := by decide +kernel
theorem dX4_costOf_89 : decode cX4_costOf 89 = .ok (.iadd, 1) := by decide +kernel
theorem dX4_costOf_90 : decode cX4_costOf 90 = .ok (.istore_n 3, 1) := by decide +kernel
theorem dX4_costOf_91 : decode cX4_costOf 91 = .ok (.iinc 4 1, 3) := by decide +kernel
theorem dX4_costOf_94 : decode cX4_costOf 94 = .ok (.goto (-53), 3) := by decide +kernel
theorem dX4_costOf_97 : decode cX4_costOf 97 = .ok (.iload_n 3, 1) := by decide +kernel
theorem dX4_costOf_98 : decode cX4_costOf 98 = .ok (.ireturn, 1) := by decide +kernel
theorem dX4_findSets_0 : decode cX4_findSets 0 = .ok (.lconst 0, 1) := by decide +kernel
theorem dX4_findSets_1 : decode cX4_findSets 1 = .ok (.lstore_n 2, 1) := by decide +kernel
theorem dX4_findSets_2 : decode cX4_findSets 2 = .ok (.ldc_w 296, 3) := by decide +kernel
theorem dX4_findSets_5 : decode cX4_findSets 5 = .ok (.istore 4, 2) := by decide +kernel
theorem dX4_findSets_7 : decode cX4_findSets 7 = .ok (.iconst 0, 1) := by decide +kernel
theorem dX4_findSets_8 : decode cX4_findSets 8 = .ok (.istore 5, 2) := by decide +kernel
theorem dX4_findSets_10 : decode cX4_findSets 10 = .ok (.iload 5, 2) := by decide +kernel
theorem dX4_findSets_12 : decode cX4_findSets 12 = .ok (.bipush 64, 2) := by decide +kernel
theorem dX4_findSets_14 : decode cX4_findSets 14 = .ok (.if_icmp .ge 54, 3) := by decide +kernel
theorem dX4_findSets_17 : decode cX4_findSets 17 = .ok (.iload 5, 2) := by decide +kernel
theorem dX4_findSets_19 : decode cX4_findSets 19 = .ok (.invokestatic 213, 3) := by decide +kernel
theorem dX4_findSets_22 : decode cX4_findSets 22 = .ok (.iconst 2, 1) := by decide +kernel
theorem dX4_findSets_23 : decode cX4_findSets 23 = .ok (.if_icmp .gt 39, 3) := by decide +kernel
theorem dX4_findSets_26 : decode cX4_findSets 26 = .ok (.aload_n 0, 1) := by decide +kernel
theorem dX4_findSets_27 : decode cX4_findSets 27 = .ok (.aload_n 1, 1) := by decide +kernel
theorem dX4_findSets_28 : decode cX4_findSets 28 = .ok (.iload 5, 2) := by decide +kernel
theorem dX4_findSets_30 : decode cX4_findSets 30 = .ok (.invokevirtual 217, 3) := by decide +kernel
theorem dX4_findSets_33 : decode cX4_findSets 33 = .ok (.istore 6, 2) := by decide +kernel
theorem dX4_findSets_35 : decode cX4_findSets 35 = .ok (.iload 6, 2) := by decide +kernel
theorem dX4_findSets_37 : decode cX4_findSets 37 = .ok (.iload 4, 2) := by decide +kernel
theorem dX4_findSets_39 : decode cX4_findSets 39 = .ok (.if_icmp .ge 9, 3) := by decide +kernel
theorem dX4_findSets_42 : decode cX4_findSets 42 = .ok (.iload 6, 2) := by decide +kernel
theorem dX4_findSets_44 : decode cX4_findSets 44 = .ok (.istore 4, 2) := by decide +kernel
theorem dX4_findSets_46 : decode cX4_findSets 46 = .ok (.lconst 0, 1) := by decide +kernel
theorem dX4_findSets_47 : decode cX4_findSets 47 = .ok (.lstore_n 2, 1) := by decide +kernel
theorem dX4_findSets_48 : decode cX4_findSets 48 = .ok (.iload 6, 2) := by decide +kernel
theorem dX4_findSets_50 : decode cX4_findSets 50 = .ok (.iload 4, 2) := by decide +kernel
theorem dX4_findSets_52 : decode cX4_findSets 52 = .ok (.if_icmp .ne 10, 3) := by decide +kernel
theorem dX4_findSets_55 : decode cX4_findSets 55 = .ok (.lload_n 2, 1) := by decide +kernel
theorem dX4_findSets_56 : decode cX4_findSets 56 = .ok (.lconst 1, 1) := by decide +kernel
theorem dX4_findSets_57 : decode cX4_findSets 57 = .ok (.iload 5, 2) := by decide +kernel
theorem dX4_findSets_59 : decode cX4_findSets 59 = .ok (.lshl, 1) := by decide +kernel
theorem dX4_findSets_60 : decode cX4_findSets 60 = .ok (.lor, 1) := by decide +kernel
theorem dX4_findSets_61 : decode cX4_findSets 61 = .ok (.lstore_n 2, 1) := by decide +kernel
theorem dX4_findSets_62 : decode cX4_findSets 62 = .ok (.iinc 5 1, 3) := by decide +kernel
theorem dX4_findSets_65 : decode cX4_findSets 65 = .ok (.goto (-55), 3) := by decide +kernel
theorem dX4_findSets_68 : decode cX4_findSets 68 = .ok (.lload_n 2, 1) := by decide +kernel
theorem dX4_findSets_69 : decode cX4_findSets 69 = .ok (.lreturn, 1) := by decide +kernel
theorem dX4_listSetAnswers_0 : decode cX4_listSetAnswers 0 = .ok (.iconst 0, 1) := by decide +kernel
theorem dX4_listSetAnswers_1 : decode cX4_listSetAnswers 1 = .ok (.istore 4, 2) := by decide +kernel
theorem dX4_listSetAnswers_3 : decode cX4_listSetAnswers 3 = .ok (.iconst 0, 1) := by decide +kernel
theorem dX4_listSetAnswers_4 : decode cX4_listSetAnswers 4 = .ok (.istore 5, 2) := by decide +kernel
theorem dX4_listSetAnswers_6 : decode cX4_listSetAnswers 6 = .ok (.iload 5, 2) := by decide +kernel
theorem dX4_listSetAnswers_8 : decode cX4_listSetAnswers 8 = .ok (.bipush 64, 2) := by decide +kernel
theorem dX4_listSetAnswers_10 : decode cX4_listSetAnswers 10 = .ok (.if_icmp .ge 35, 3) := by decide +kernel
theorem dX4_listSetAnswers_13 : decode cX4_listSetAnswers 13 = .ok (.lload_n 2, 1) := by decide +kernel
theorem dX4_listSetAnswers_14 : decode cX4_listSetAnswers 14 = .ok (.iload 5, 2) := by decide +kernel
theorem dX4_listSetAnswers_16 : decode cX4_listSetAnswers 16 = .ok (.invokestatic 284, 3) := by decide +kernel
theorem dX4_listSetAnswers_19 : decode cX4_listSetAnswers 19 = .ok (.ifCond .eq 20, 3) := by decide +kernel
theorem dX4_listSetAnswers_22 : decode cX4_listSetAnswers 22 = .ok (.aload_n 0, 1) := by decide +kernel
theorem dX4_listSetAnswers_23 : decode cX4_listSetAnswers 23 = .ok (.getfield 50, 3) := by decide +kernel
theorem dX4_listSetAnswers_26 : decode cX4_listSetAnswers 26 = .ok (.iload 4, 2) := by decide +kernel
theorem dX4_listSetAnswers_28 : decode cX4_listSetAnswers 28 = .ok (.aload_n 0, 1) := by decide +kernel
theorem dX4_listSetAnswers_29 : decode cX4_listSetAnswers 29 = .ok (.aload_n 1, 1) := by decide +kernel
theorem dX4_listSetAnswers_30 : decode cX4_listSetAnswers 30 = .ok (.iload 5, 2) := by decide +kernel
theorem dX4_listSetAnswers_32 : decode cX4_listSetAnswers 32 = .ok (.invokevirtual 160, 3) := by decide +kernel
theorem dX4_listSetAnswers_35 : decode cX4_listSetAnswers 35 = .ok (.iastore, 1) := by decide +kernel
theorem dX4_listSetAnswers_36 : decode cX4_listSetAnswers 36 = .ok (.iinc 4 1, 3) := by decide +kernel
theorem dX4_listSetAnswers_39 : decode cX4_listSetAnswers 39 = .ok (.iinc 5 1, 3) := by decide +kernel
theorem dX4_listSetAnswers_42 : decode cX4_listSetAnswers 42 = .ok (.goto (-36), 3) := by decide +kernel
theorem dX4_listSetAnswers_45 : decode cX4_listSetAnswers 45 = .ok (.iload 4, 2) := by decide +kernel
theorem dX4_listSetAnswers_47 : decode cX4_listSetAnswers 47 = .ok (.ireturn, 1) := by decide +kernel
theorem dX4_mostAlike_0 : decode cX4_mostAlike 0 = .ok (.iconst 0, 1) := by decide +kernel
theorem dX4_mostAlike_1 : decode cX4_mostAlike 1 = .ok (.istore_n 2, 1) := by decide +kernel
theorem dX4_mostAlike_2 : decode cX4_mostAlike 2 = .ok (.iconst 0, 1) := by decide +kernel
theorem dX4_mostAlike_3 : decode cX4_mostAlike 3 = .ok (.istore_n 3, 1) := by decide +kernel
theorem dX4_mostAlike_4 : decode cX4_mostAlike 4 = .ok (.iload_n 3, 1) := by decide +kernel
theorem dX4_mostAlike_5 : decode cX4_mostAlike 5 = .ok (.iload_n 1, 1) := by decide +kernel
theorem dX4_mostAlike_6 : decode cX4_mostAlike 6 = .ok (.if_icmp .ge 53, 3) := by decide +kernel
theorem dX4_mostAlike_9 : decode cX4_mostAlike 9 = .ok (.iconst 0, 1) := by decide +kernel
theorem dX4_mostAlike_10 : decode cX4_mostAlike 10 = .ok (.istore 4, 2) := by decide +kernel
theorem dX4_mostAlike_12 : decode cX4_mostAlike 12 = .ok (.iconst 0, 1) := by decide +kernel
theorem dX4_mostAlike_13 : decode cX4_mostAlike 13 = .ok (.istore 5, 2) := by decide +kernel
theorem dX4_mostAlike_15 : decode cX4_mostAlike 15 = .ok (.iload 5, 2) := by decide +kernel
theorem dX4_mostAlike_17 : decode cX4_mostAlike 17 = .ok (.iload_n 1, 1) := by decide +kernel
theorem dX4_mostAlike_18 : decode cX4_mostAlike 18 = .ok (.if_icmp .ge 28, 3) := by decide +kernel
theorem dX4_mostAlike_21 : decode cX4_mostAlike 21 = .ok (.aload_n 0, 1) := by decide +kernel
theorem dX4_mostAlike_22 : decode cX4_mostAlike 22 = .ok (.getfield 50, 3) := by decide +kernel
theorem dX4_mostAlike_25 : decode cX4_mostAlike 25 = .ok (.iload_n 3, 1) := by decide +kernel
theorem dX4_mostAlike_26 : decode cX4_mostAlike 26 = .ok (.iaload, 1) := by decide +kernel
theorem dX4_mostAlike_27 : decode cX4_mostAlike 27 = .ok (.aload_n 0, 1) := by decide +kernel
theorem dX4_mostAlike_28 : decode cX4_mostAlike 28 = .ok (.getfield 50, 3) := by decide +kernel
theorem dX4_mostAlike_31 : decode cX4_mostAlike 31 = .ok (.iload 5, 2) := by decide +kernel
theorem dX4_mostAlike_33 : decode cX4_mostAlike 33 = .ok (.iaload, 1) := by decide +kernel
theorem dX4_mostAlike_34 : decode cX4_mostAlike 34 = .ok (.if_icmp .ne 6, 3) := by decide +kernel
theorem dX4_mostAlike_37 : decode cX4_mostAlike 37 = .ok (.iinc 4 1, 3) := by decide +kernel
theorem dX4_mostAlike_40 : decode cX4_mostAlike 40 = .ok (.iinc 5 1, 3) := by decide +kernel
theorem dX4_mostAlike_43 : decode cX4_mostAlike 43 = .ok (.goto (-28), 3) := by decide +kernel
theorem dX4_mostAlike_46 : decode cX4_mostAlike 46 = .ok (.iload_n 2, 1) := by decide +kernel
theorem dX4_mostAlike_47 : decode cX4_mostAlike 47 = .ok (.iload 4, 2) := by decide +kernel
theorem dX4_mostAlike_49 : decode cX4_mostAlike 49 = .ok (.invokestatic 297, 3) := by decide +kernel
theorem dX4_mostAlike_52 : decode cX4_mostAlike 52 = .ok (.istore_n 2, 1) := by decide +kernel
theorem dX4_mostAlike_53 : decode cX4_mostAlike 53 = .ok (.iinc 3 1, 3) := by decide +kernel
theorem dX4_mostAlike_56 : decode cX4_mostAlike 56 = .ok (.goto (-52), 3) := by decide +kernel
theorem dX4_mostAlike_59 : decode cX4_mostAlike 59 = .ok (.iload_n 2, 1) := by decide +kernel
theorem dX4_mostAlike_60 : decode cX4_mostAlike 60 = .ok (.ireturn, 1) := by decide +kernel
theorem dX4_pairsParted_0 : decode cX4_pairsParted 0 = .ok (.iconst 0, 1) := by decide +kernel
theorem dX4_pairsParted_1 : decode cX4_pairsParted 1 = .ok (.istore_n 2, 1) := by decide +kernel
theorem dX4_pairsParted_2 : decode cX4_pairsParted 2 = .ok (.iconst 0, 1) := by decide +kernel
theorem dX4_pairsParted_3 : decode cX4_pairsParted 3 = .ok (.istore_n 3, 1) := by decide +kernel
theorem dX4_pairsParted_4 : decode cX4_pairsParted 4 = .ok (.iconst 1, 1) := by decide +kernel
theorem dX4_pairsParted_5 : decode cX4_pairsParted 5 = .ok (.istore 4, 2) := by decide +kernel
theorem dX4_pairsParted_7 : decode cX4_pairsParted 7 = .ok (.iload 4, 2) := by decide +kernel
theorem dX4_pairsParted_9 : decode cX4_pairsParted 9 = .ok (.bipush 7, 2) := by decide +kernel
theorem dX4_pairsParted_11 : decode cX4_pairsParted 11 = .ok (.if_icmp .ge 57, 3) := by decide +kernel
theorem dX4_pairsParted_14 : decode cX4_pairsParted 14 = .ok (.iconst 0, 1) := by decide +kernel
theorem dX4_pairsParted_15 : decode cX4_pairsParted 15 = .ok (.istore 5, 2) := by decide +kernel
theorem dX4_pairsParted_17 : decode cX4_pairsParted 17 = .ok (.iload 5, 2) := by decide +kernel
theorem dX4_pairsParted_19 : decode cX4_pairsParted 19 = .ok (.iload 4, 2) := by decide +kernel
theorem dX4_pairsParted_21 : decode cX4_pairsParted 21 = .ok (.if_icmp .ge 41, 3) := by decide +kernel
theorem dX4_pairsParted_24 : decode cX4_pairsParted 24 = .ok (.aload_n 0, 1) := by decide +kernel
theorem dX4_pairsParted_25 : decode cX4_pairsParted 25 = .ok (.aload_n 1, 1) := by decide +kernel
theorem dX4_pairsParted_26 : decode cX4_pairsParted 26 = .ok (.iload 4, 2) := by decide +kernel
theorem dX4_pairsParted_28 : decode cX4_pairsParted 28 = .ok (.invokestatic 271, 3) := by decide +kernel
theorem dX4_pairsParted_31 : decode cX4_pairsParted 31 = .ok (.invokevirtual 160, 3) := by decide +kernel
theorem dX4_pairsParted_34 : decode cX4_pairsParted 34 = .ok (.aload_n 0, 1) := by decide +kernel
theorem dX4_pairsParted_35 : decode cX4_pairsParted 35 = .ok (.aload_n 1, 1) := by decide +kernel
theorem dX4_pairsParted_36 : decode cX4_pairsParted 36 = .ok (.iload 5, 2) := by decide +kernel
theorem dX4_pairsParted_38 : decode cX4_pairsParted 38 = .ok (.invokestatic 271, 3) := by decide +kernel
theorem dX4_pairsParted_41 : decode cX4_pairsParted 41 = .ok (.invokevirtual 160, 3) := by decide +kernel
theorem dX4_pairsParted_44 : decode cX4_pairsParted 44 = .ok (.if_icmp .eq 9, 3) := by decide +kernel
theorem dX4_pairsParted_47 : decode cX4_pairsParted 47 = .ok (.iload_n 2, 1) := by decide +kernel
theorem dX4_pairsParted_48 : decode cX4_pairsParted 48 = .ok (.iconst 1, 1) := by decide +kernel
theorem dX4_pairsParted_49 : decode cX4_pairsParted 49 = .ok (.iload_n 3, 1) := by decide +kernel
theorem dX4_pairsParted_50 : decode cX4_pairsParted 50 = .ok (.ishl, 1) := by decide +kernel
theorem dX4_pairsParted_51 : decode cX4_pairsParted 51 = .ok (.ior, 1) := by decide +kernel
theorem dX4_pairsParted_52 : decode cX4_pairsParted 52 = .ok (.istore_n 2, 1) := by decide +kernel
theorem dX4_pairsParted_53 : decode cX4_pairsParted 53 = .ok (.iinc 3 1, 3) := by decide +kernel
theorem dX4_pairsParted_56 : decode cX4_pairsParted 56 = .ok (.iinc 5 1, 3) := by decide +kernel
theorem dX4_pairsParted_59 : decode cX4_pairsParted 59 = .ok (.goto (-42), 3) := by decide +kernel
theorem dX4_pairsParted_62 : decode cX4_pairsParted 62 = .ok (.iinc 4 1, 3) := by decide +kernel
theorem dX4_pairsParted_65 : decode cX4_pairsParted 65 = .ok (.goto (-58), 3) := by decide +kernel
theorem dX4_pairsParted_68 : decode cX4_pairsParted 68 = .ok (.iload_n 2, 1) := by decide +kernel
theorem dX4_pairsParted_69 : decode cX4_pairsParted 69 = .ok (.ireturn, 1) := by decide +kernel
theorem dX4_partsAll_0 : decode cX4_partsAll 0 = .ok (.iconst 0, 1) := by decide +kernel
theorem dX4_partsAll_1 : decode cX4_partsAll 1 = .ok (.istore_n 2, 1) := by decide +kernel
theorem dX4_partsAll_2 : decode cX4_partsAll 2 = .ok (.iconst 0, 1) := by decide +kernel
theorem dX4_partsAll_3 : decode cX4_partsAll 3 = .ok (.istore_n 3, 1) := by decide +kernel
theorem dX4_partsAll_4 : decode cX4_partsAll 4 = .ok (.iload_n 3, 1) := by decide +kernel
theorem dX4_partsAll_5 : decode cX4_partsAll 5 = .ok (.bipush 12, 2) := by decide +kernel
theorem dX4_partsAll_7 : decode cX4_partsAll 7 = .ok (.if_icmp .ge 27, 3) := by decide +kernel
theorem dX4_partsAll_10 : decode cX4_partsAll 10 = .ok (.iload_n 1, 1) := by decide +kernel
theorem dX4_partsAll_11 : decode cX4_partsAll 11 = .ok (.i2l, 1) := by decide +kernel
theorem dX4_partsAll_12 : decode cX4_partsAll 12 = .ok (.iload_n 3, 1) := by decide +kernel
theorem dX4_partsAll_13 : decode cX4_partsAll 13 = .ok (.invokestatic 284, 3) := by decide +kernel
theorem dX4_partsAll_16 : decode cX4_partsAll 16 = .ok (.ifCond .eq 12, 3) := by decide +kernel
theorem dX4_partsAll_19 : decode cX4_partsAll 19 = .ok (.iload_n 2, 1) := by decide +kernel
theorem dX4_partsAll_20 : decode cX4_partsAll 20 = .ok (.aload_n 0, 1) := by decide +kernel
theorem dX4_partsAll_21 : decode cX4_partsAll 21 = .ok (.getfield 53, 3) := by decide +kernel
theorem dX4_partsAll_24 : decode cX4_partsAll 24 = .ok (.iload_n 3, 1) := by decide +kernel
theorem dX4_partsAll_25 : decode cX4_partsAll 25 = .ok (.iaload, 1) := by decide +kernel
theorem dX4_partsAll_26 : decode cX4_partsAll 26 = .ok (.ior, 1) := by decide +kernel
theorem dX4_partsAll_27 : decode cX4_partsAll 27 = .ok (.istore_n 2, 1) := by decide +kernel
theorem dX4_partsAll_28 : decode cX4_partsAll 28 = .ok (.iinc 3 1, 3) := by decide +kernel
theorem dX4_partsAll_31 : decode cX4_partsAll 31 = .ok (.goto (-27), 3) := by decide +kernel
theorem dX4_partsAll_34 : decode cX4_partsAll 34 = .ok (.iload_n 2, 1) := by decide +kernel
theorem dX4_partsAll_35 : decode cX4_partsAll 35 = .ok (.ldc_w 300, 3) := by decide +kernel
theorem dX4_partsAll_38 : decode cX4_partsAll 38 = .ok (.if_icmp .ne 7, 3) := by decide +kernel
theorem dX4_partsAll_41 : decode cX4_partsAll 41 = .ok (.iconst 1, 1) := by decide +kernel
theorem dX4_partsAll_42 : decode cX4_partsAll 42 = .ok (.goto 4, 3) := by decide +kernel
theorem dX4_partsAll_45 : decode cX4_partsAll 45 = .ok (.iconst 0, 1) := by decide +kernel
theorem dX4_partsAll_46 : decode cX4_partsAll 46 = .ok (.ireturn, 1) := by decide +kernel
theorem dX4_hasBit_0 : decode cX4_hasBit 0 = .ok (.lload_n 0, 1) := by decide +kernel
theorem dX4_hasBit_1 : decode cX4_hasBit 1 = .ok (.iload_n 2, 1) := by decide +kernel
theorem dX4_hasBit_2 : decode cX4_hasBit 2 = .ok (.lshr, 1) := by decide +kernel
theorem dX4_hasBit_3 : decode cX4_hasBit 3 = .ok (.lconst 1, 1) := by decide +kernel
theorem dX4_hasBit_4 : decode cX4_hasBit 4 = .ok (.land, 1) := by decide +kernel
theorem dX4_hasBit_5 : decode cX4_hasBit 5 = .ok (.lconst 0, 1) := by decide +kernel
theorem dX4_hasBit_6 : decode cX4_hasBit 6 = .ok (.lcmp, 1) := by decide +kernel
theorem dX4_hasBit_7 : decode cX4_hasBit 7 = .ok (.ifCond .eq 7, 3) := by decide +kernel
theorem dX4_hasBit_10 : decode cX4_hasBit 10 = .ok (.iconst 1, 1) := by decide +kernel
theorem dX4_hasBit_11 : decode cX4_hasBit 11 = .ok (.goto 4, 3) := by decide +kernel
theorem dX4_hasBit_14 : decode cX4_hasBit 14 = .ok (.iconst 0, 1) := by decide +kernel
theorem dX4_hasBit_15 : decode cX4_hasBit 15 = .ok (.ireturn, 1) := by decide +kernel
theorem dX4_bitAt_0 : decode cX4_bitAt 0 = .ok (.iconst 0, 1) := by decide +kernel
theorem dX4_bitAt_1 : decode cX4_bitAt 1 = .ok (.istore_n 3, 1) := by decide +kernel
theorem dX4_bitAt_2 : decode cX4_bitAt 2 = .ok (.iconst 0, 1) := by decide +kernel
theorem dX4_bitAt_3 : decode cX4_bitAt 3 = .ok (.istore 4, 2) := by decide +kernel
theorem dX4_bitAt_5 : decode cX4_bitAt 5 = .ok (.iload 4, 2) := by decide +kernel
theorem dX4_bitAt_7 : decode cX4_bitAt 7 = .ok (.bipush 64, 2) := by decide +kernel
theorem dX4_bitAt_9 : decode cX4_bitAt 9 = .ok (.if_icmp .ge 29, 3) := by decide +kernel
theorem dX4_bitAt_12 : decode cX4_bitAt 12 = .ok (.lload_n 0, 1) := by decide +kernel
theorem dX4_bitAt_13 : decode cX4_bitAt 13 = .ok (.iload 4, 2) := by decide +kernel
theorem dX4_bitAt_15 : decode cX4_bitAt 15 = .ok (.invokestatic 284, 3) := by decide +kernel
theorem dX4_bitAt_18 : decode cX4_bitAt 18 = .ok (.ifCond .eq 14, 3) := by decide +kernel
theorem dX4_bitAt_21 : decode cX4_bitAt 21 = .ok (.iload_n 3, 1) := by decide +kernel
theorem dX4_bitAt_22 : decode cX4_bitAt 22 = .ok (.iload_n 2, 1) := by decide +kernel
theorem dX4_bitAt_23 : decode cX4_bitAt 23 = .ok (.if_icmp .ne 6, 3) := by decide +kernel
theorem dX4_bitAt_26 : decode cX4_bitAt 26 = .ok (.iload 4, 2) := by decide +kernel
theorem dX4_bitAt_28 : decode cX4_bitAt 28 = .ok (.ireturn, 1) := by decide +kernel
theorem dX4_bitAt_29 : decode cX4_bitAt 29 = .ok (.iinc 3 1, 3) := by decide +kernel
theorem dX4_bitAt_32 : decode cX4_bitAt 32 = .ok (.iinc 4 1, 3) := by decide +kernel
theorem dX4_bitAt_35 : decode cX4_bitAt 35 = .ok (.goto (-30), 3) := by decide +kernel
theorem dX4_bitAt_38 : decode cX4_bitAt 38 = .ok (.iconst (-1), 1) := by decide +kernel
theorem dX4_bitAt_39 : decode cX4_bitAt 39 = .ok (.ireturn, 1) := by decide +kernel
theorem dJ6_bitCount_0f7a4_0 : decode cJ6_bitCount_0f7a4 0 = .ok (.iload_n 0, 1) := by decide +kernel
theorem dJ6_bitCount_0f7a4_1 : decode cJ6_bitCount_0f7a4 1 = .ok (.iload_n 0, 1) := by decide +kernel
theorem dJ6_bitCount_0f7a4_2 : decode cJ6_bitCount_0f7a4 2 = .ok (.iconst 1, 1) := by decide +kernel
theorem dJ6_bitCount_0f7a4_3 : decode cJ6_bitCount_0f7a4 3 = .ok (.iushr, 1) := by decide +kernel
theorem dJ6_bitCount_0f7a4_4 : decode cJ6_bitCount_0f7a4 4 = .ok (.ldc_w 265, 3) := by decide +kernel
theorem dJ6_bitCount_0f7a4_7 : decode cJ6_bitCount_0f7a4 7 = .ok (.iand, 1) := by decide +kernel
theorem dJ6_bitCount_0f7a4_8 : decode cJ6_bitCount_0f7a4 8 = .ok (.isub, 1) := by decide +kernel
theorem dJ6_bitCount_0f7a4_9 : decode cJ6_bitCount_0f7a4 9 = .ok (.istore_n 0, 1) := by decide +kernel
theorem dJ6_bitCount_0f7a4_10 : decode cJ6_bitCount_0f7a4 10 = .ok (.iload_n 0, 1) := by decide +kernel
theorem dJ6_bitCount_0f7a4_11 : decode cJ6_bitCount_0f7a4 11 = .ok (.ldc_w 266, 3) := by decide +kernel
theorem dJ6_bitCount_0f7a4_14 : decode cJ6_bitCount_0f7a4 14 = .ok (.iand, 1) := by decide +kernel
theorem dJ6_bitCount_0f7a4_15 : decode cJ6_bitCount_0f7a4 15 = .ok (.iload_n 0, 1) := by decide +kernel
theorem dJ6_bitCount_0f7a4_16 : decode cJ6_bitCount_0f7a4 16 = .ok (.iconst 2, 1) := by decide +kernel
theorem dJ6_bitCount_0f7a4_17 : decode cJ6_bitCount_0f7a4 17 = .ok (.iushr, 1) := by decide +kernel
theorem dJ6_bitCount_0f7a4_18 : decode cJ6_bitCount_0f7a4 18 = .ok (.ldc_w 266, 3) := by decide +kernel
theorem dJ6_bitCount_0f7a4_21 : decode cJ6_bitCount_0f7a4 21 = .ok (.iand, 1) := by decide +kernel
theorem dJ6_bitCount_0f7a4_22 : decode cJ6_bitCount_0f7a4 22 = .ok (.iadd, 1) := by decide +kernel
theorem dJ6_bitCount_0f7a4_23 : decode cJ6_bitCount_0f7a4 23 = .ok (.istore_n 0, 1) := by decide +kernel
theorem dJ6_bitCount_0f7a4_24 : decode cJ6_bitCount_0f7a4 24 = .ok (.iload_n 0, 1) := by decide +kernel
theorem dJ6_bitCount_0f7a4_25 : decode cJ6_bitCount_0f7a4 25 = .ok (.iload_n 0, 1) := by decide +kernel
theorem dJ6_bitCount_0f7a4_26 : decode cJ6_bitCount_0f7a4 26 = .ok (.iconst 4, 1) := by decide +kernel
theorem dJ6_bitCount_0f7a4_27 : decode cJ6_bitCount_0f7a4 27 = .ok (.iushr, 1) := by decide +kernel
theorem dJ6_bitCount_0f7a4_28 : decode cJ6_bitCount_0f7a4 28 = .ok (.iadd, 1) := by decide +kernel
theorem dJ6_bitCount_0f7a4_29 : decode cJ6_bitCount_0f7a4 29 = .ok (.ldc_w 267, 3) := by decide +kernel
theorem dJ6_bitCount_0f7a4_32 : decode cJ6_bitCount_0f7a4 32 = .ok (.iand, 1) := by decide +kernel
theorem dJ6_bitCount_0f7a4_33 : decode cJ6_bitCount_0f7a4 33 = .ok (.istore_n 0, 1) := by decide +kernel
theorem dJ6_bitCount_0f7a4_34 : decode cJ6_bitCount_0f7a4 34 = .ok (.iload_n 0, 1) := by decide +kernel
theorem dJ6_bitCount_0f7a4_35 : decode cJ6_bitCount_0f7a4 35 = .ok (.iload_n 0, 1) := by decide +kernel
theorem dJ6_bitCount_0f7a4_36 : decode cJ6_bitCount_0f7a4 36 = .ok (.bipush 8, 2) := by decide +kernel
theorem dJ6_bitCount_0f7a4_38 : decode cJ6_bitCount_0f7a4 38 = .ok (.iushr, 1) := by decide +kernel
theorem dJ6_bitCount_0f7a4_39 : decode cJ6_bitCount_0f7a4 39 = .ok (.iadd, 1) := by decide +kernel
theorem dJ6_bitCount_0f7a4_40 : decode cJ6_bitCount_0f7a4 40 = .ok (.istore_n 0, 1) := by decide +kernel
theorem dJ6_bitCount_0f7a4_41 : decode cJ6_bitCount_0f7a4 41 = .ok (.iload_n 0, 1) := by decide +kernel
theorem dJ6_bitCount_0f7a4_42 : decode cJ6_bitCount_0f7a4 42 = .ok (.iload_n 0, 1) := by decide +kernel
theorem dJ6_bitCount_0f7a4_43 : decode cJ6_bitCount_0f7a4 43 = .ok (.bipush 16, 2) := by decide +kernel
theorem dJ6_bitCount_0f7a4_45 : decode cJ6_bitCount_0f7a4 45 = .ok (.iushr, 1) := by decide +kernel
theorem dJ6_bitCount_0f7a4_46 : decode cJ6_bitCount_0f7a4 46 = .ok (.iadd, 1) := by decide +kernel
theorem dJ6_bitCount_0f7a4_47 : decode cJ6_bitCount_0f7a4 47 = .ok (.istore_n 0, 1) := by decide +kernel
theorem dJ6_bitCount_0f7a4_48 : decode cJ6_bitCount_0f7a4 48 = .ok (.iload_n 0, 1) := by decide +kernel
theorem dJ6_bitCount_0f7a4_49 : decode cJ6_bitCount_0f7a4 49 = .ok (.bipush 63, 2) := by decide +kernel
theorem dJ6_bitCount_0f7a4_51 : decode cJ6_bitCount_0f7a4 51 = .ok (.iand, 1) := by decide +kernel
theorem dJ6_bitCount_0f7a4_52 : decode cJ6_bitCount_0f7a4 52 = .ok (.ireturn, 1) := by decide +kernel
theorem dJ13_bitCount_95d88_0 : decode cJ13_bitCount_95d88 0 = .ok (.lload_n 0, 1) := by decide +kernel
theorem dJ13_bitCount_95d88_1 : decode cJ13_bitCount_95d88 1 = .ok (.lload_n 0, 1) := by decide +kernel
theorem dJ13_bitCount_95d88_2 : decode cJ13_bitCount_95d88 2 = .ok (.iconst 1, 1) := by decide +kernel
theorem dJ13_bitCount_95d88_3 : decode cJ13_bitCount_95d88 3 = .ok (.lushr, 1) := by decide +kernel
theorem dJ13_bitCount_95d88_4 : decode cJ13_bitCount_95d88 4 = .ok (.ldc2_w 314, 3) := by decide +kernel
theorem dJ13_bitCount_95d88_7 : decode cJ13_bitCount_95d88 7 = .ok (.land, 1) := by decide +kernel
theorem dJ13_bitCount_95d88_8 : decode cJ13_bitCount_95d88 8 = .ok (.lsub, 1) := by decide +kernel
theorem dJ13_bitCount_95d88_9 : decode cJ13_bitCount_95d88 9 = .ok (.lstore_n 0, 1) := by decide +kernel
theorem dJ13_bitCount_95d88_10 : decode cJ13_bitCount_95d88 10 = .ok (.lload_n 0, 1) := by decide +kernel
theorem dJ13_bitCount_95d88_11 : decode cJ13_bitCount_95d88 11 = .ok (.ldc2_w 316, 3) := by decide +kernel
theorem dJ13_bitCount_95d88_14 : decode cJ13_bitCount_95d88 14 = .ok (.land, 1) := by decide +kernel
theorem dJ13_bitCount_95d88_15 : decode cJ13_bitCount_95d88 15 = .ok (.lload_n 0, 1) := by decide +kernel
theorem dJ13_bitCount_95d88_16 : decode cJ13_bitCount_95d88 16 = .ok (.iconst 2, 1) := by decide +kernel
theorem dJ13_bitCount_95d88_17 : decode cJ13_bitCount_95d88 17 = .ok (.lushr, 1) := by decide +kernel
theorem dJ13_bitCount_95d88_18 : decode cJ13_bitCount_95d88 18 = .ok (.ldc2_w 316, 3) := by decide +kernel
theorem dJ13_bitCount_95d88_21 : decode cJ13_bitCount_95d88 21 = .ok (.land, 1) := by decide +kernel
theorem dJ13_bitCount_95d88_22 : decode cJ13_bitCount_95d88 22 = .ok (.ladd, 1) := by decide +kernel
theorem dJ13_bitCount_95d88_23 : decode cJ13_bitCount_95d88 23 = .ok (.lstore_n 0, 1) := by decide +kernel
theorem dJ13_bitCount_95d88_24 : decode cJ13_bitCount_95d88 24 = .ok (.lload_n 0, 1) := by decide +kernel
theorem dJ13_bitCount_95d88_25 : decode cJ13_bitCount_95d88 25 = .ok (.lload_n 0, 1) := by decide +kernel
theorem dJ13_bitCount_95d88_26 : decode cJ13_bitCount_95d88 26 = .ok (.iconst 4, 1) := by decide +kernel
theorem dJ13_bitCount_95d88_27 : decode cJ13_bitCount_95d88 27 = .ok (.lushr, 1) := by decide +kernel
theorem dJ13_bitCount_95d88_28 : decode cJ13_bitCount_95d88 28 = .ok (.ladd, 1) := by decide +kernel
theorem dJ13_bitCount_95d88_29 : decode cJ13_bitCount_95d88 29 = .ok (.ldc2_w 318, 3) := by decide +kernel
theorem dJ13_bitCount_95d88_32 : decode cJ13_bitCount_95d88 32 = .ok (.land, 1) := by decide +kernel
theorem dJ13_bitCount_95d88_33 : decode cJ13_bitCount_95d88 33 = .ok (.lstore_n 0, 1) := by decide +kernel
theorem dJ13_bitCount_95d88_34 : decode cJ13_bitCount_95d88 34 = .ok (.lload_n 0, 1) := by decide +kernel
theorem dJ13_bitCount_95d88_35 : decode cJ13_bitCount_95d88 35 = .ok (.lload_n 0, 1) := by decide +kernel
theorem dJ13_bitCount_95d88_36 : decode cJ13_bitCount_95d88 36 = .ok (.bipush 8, 2) := by decide +kernel
theorem dJ13_bitCount_95d88_38 : decode cJ13_bitCount_95d88 38 = .ok (.lushr, 1) := by decide +kernel
theorem dJ13_bitCount_95d88_39 : decode cJ13_bitCount_95d88 39 = .ok (.ladd, 1) := by decide +kernel
theorem dJ13_bitCount_95d88_40 : decode cJ13_bitCount_95d88 40 = .ok (.lstore_n 0, 1) := by decide +kernel
theorem dJ13_bitCount_95d88_41 : decode cJ13_bitCount_95d88 41 = .ok (.lload_n 0, 1) := by decide +kernel
theorem dJ13_bitCount_95d88_42 : decode cJ13_bitCount_95d88 42 = .ok (.lload_n 0, 1) := by decide +kernel
theorem dJ13_bitCount_95d88_43 : decode cJ13_bitCount_95d88 43 = .ok (.bipush 16, 2) := by decide +kernel
theorem dJ13_bitCount_95d88_45 : decode cJ13_bitCount_95d88 45 = .ok (.lushr, 1) := by decide +kernel
theorem dJ13_bitCount_95d88_46 : decode cJ13_bitCount_95d88 46 = .ok (.ladd, 1) := by decide +kernel
theorem dJ13_bitCount_95d88_47 : decode cJ13_bitCount_95d88 47 = .ok (.lstore_n 0, 1) := by decide +kernel
theorem dJ13_bitCount_95d88_48 : decode cJ13_bitCount_95d88 48 = .ok (.lload_n 0, 1) := by decide +kernel
theorem dJ13_bitCount_95d88_49 : decode cJ13_bitCount_95d88 49 = .ok (.lload_n 0, 1) := by decide +kernel
theorem dJ13_bitCount_95d88_50 : decode cJ13_bitCount_95d88 50 = .ok (.bipush 32, 2) := by decide +kernel
theorem dJ13_bitCount_95d88_52 : decode cJ13_bitCount_95d88 52 = .ok (.lushr, 1) := by decide +kernel
theorem dJ13_bitCount_95d88_53 : decode cJ13_bitCount_95d88 53 = .ok (.ladd, 1) := by decide +kernel
theorem dJ13_bitCount_95d88_54 : decode cJ13_bitCount_95d88 54 = .ok (.lstore_n 0, 1) := by decide +kernel
theorem dJ13_bitCount_95d88_55 : decode cJ13_bitCount_95d88 55 = .ok (.lload_n 0, 1) := by decide +kernel
theorem dJ13_bitCount_95d88_56 : decode cJ13_bitCount_95d88 56 = .ok (.l2i, 1) := by decide +kernel
theorem dJ13_bitCount_95d88_57 : decode cJ13_bitCount_95d88 57 = .ok (.bipush 127, 2) := by decide +kernel
theorem dJ13_bitCount_95d88_59 : decode cJ13_bitCount_95d88 59 = .ok (.iand, 1) := by decide +kernel
theorem dJ13_bitCount_95d88_60 : decode cJ13_bitCount_95d88 60 = .ok (.ireturn, 1) := by decide +kernel
theorem dJ9_max_7cf53_0 : decode cJ9_max_7cf53 0 = .ok (.iload_n 0, 1) := by decide +kernel
theorem dJ9_max_7cf53_1 : decode cJ9_max_7cf53 1 = .ok (.iload_n 1, 1) := by decide +kernel
theorem dJ9_max_7cf53_2 : decode cJ9_max_7cf53 2 = .ok (.if_icmp .lt 7, 3) := by decide +kernel
theorem dJ9_max_7cf53_5 : decode cJ9_max_7cf53 5 = .ok (.iload_n 0, 1) := by decide +kernel
theorem dJ9_max_7cf53_6 : decode cJ9_max_7cf53 6 = .ok (.goto 4, 3) := by decide +kernel
theorem dJ9_max_7cf53_9 : decode cJ9_max_7cf53 9 = .ok (.iload_n 1, 1) := by decide +kernel
theorem dJ9_max_7cf53_10 : decode cJ9_max_7cf53 10 = .ok (.ireturn, 1) := by decide +kernel
theorem dJ9_min_7cf53_0 : decode cJ9_min_7cf53 0 = .ok (.iload_n 0, 1) := by decide +kernel
theorem dJ9_min_7cf53_1 : decode cJ9_min_7cf53 1 = .ok (.iload_n 1, 1) := by decide +kernel
theorem dJ9_min_7cf53_2 : decode cJ9_min_7cf53 2 = .ok (.if_icmp .gt 7, 3) := by decide +kernel
theorem dJ9_min_7cf53_5 : decode cJ9_min_7cf53 5 = .ok (.iload_n 0, 1) := by decide +kernel
theorem dJ9_min_7cf53_6 : decode cJ9_min_7cf53 6 = .ok (.goto 4, 3) := by decide +kernel
theorem dJ9_min_7cf53_9 : decode cJ9_min_7cf53 9 = .ok (.iload_n 1, 1) := by decide +kernel
theorem dJ9_min_7cf53_10 : decode cJ9_min_7cf53 10 = .ok (.ireturn, 1) := by decide +kernel
theorem dJ7_fill_53178_0 : decode cJ7_fill_53178 0 = .ok (.iconst 0, 1) := by decide +kernel
theorem dJ7_fill_53178_1 : decode cJ7_fill_53178 1 = .ok (.istore_n 2, 1) := by decide +kernel
theorem dJ7_fill_53178_2 : decode cJ7_fill_53178 2 = .ok (.aload_n 0, 1) := by decide +kernel
theorem dJ7_fill_53178_3 : decode cJ7_fill_53178 3 = .ok (.arraylength, 1) := by decide +kernel
theorem dJ7_fill_53178_4 : decode cJ7_fill_53178 4 = .ok (.istore_n 3, 1) := by decide +kernel
theorem dJ7_fill_53178_5 : decode cJ7_fill_53178 5 = .ok (.iload_n 2, 1) := by decide +kernel
theorem dJ7_fill_53178_6 : decode cJ7_fill_53178 6 = .ok (.iload_n 3, 1) := by decide +kernel
theorem dJ7_fill_53178_7 : decode cJ7_fill_53178 7 = .ok (.if_icmp .ge 13, 3) := by decide +kernel
theorem dJ7_fill_53178_10 : decode cJ7_fill_53178 10 = .ok (.aload_n 0, 1) := by decide +kernel
theorem dJ7_fill_53178_11 : decode cJ7_fill_53178 11 = .ok (.iload_n 2, 1) := by decide +kernel
theorem dJ7_fill_53178_12 : decode cJ7_fill_53178 12 = .ok (.iload_n 1, 1) := by decide +kernel
theorem dJ7_fill_53178_13 : decode cJ7_fill_53178 13 = .ok (.iastore, 1) := by decide +kernel
theorem dJ7_fill_53178_14 : decode cJ7_fill_53178 14 = .ok (.iinc 2 1, 3) := by decide +kernel
theorem dJ7_fill_53178_17 : decode cJ7_fill_53178 17 = .ok (.goto (-12), 3) := by decide +kernel
theorem dJ7_fill_53178_20 : decode cJ7_fill_53178 20 = .ok (.return_, 1) := by decide +kernel
