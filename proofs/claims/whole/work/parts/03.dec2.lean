theorem dX5_init_0 : decode cX5_init 0 = .ok (.aload_n 0, 1) := by decide +kernel
theorem dX5_init_1 : decode cX5_init 1 = .ok (.invokespecial 1, 3) := by decide +kernel
theorem dX5_init_4 : decode cX5_init 4 = .ok (.aload_n 0, 1) := by decide +kernel
theorem dX5_init_5 : decode cX5_init 5 = .ok (.sipush 200, 3) := by decide +kernel
theorem dX5_init_8 : decode cX5_init 8 = .ok (.newarray .int, 2) := by decide +kernel
theorem dX5_init_10 : decode cX5_init 10 = .ok (.putfield 9, 3) := by decide +kernel
theorem dX5_init_13 : decode cX5_init 13 = .ok (.aload_n 0, 1) := by decide +kernel
theorem dX5_init_14 : decode cX5_init 14 = .ok (.sipush 200, 3) := by decide +kernel
theorem dX5_init_17 : decode cX5_init 17 = .ok (.newarray .int, 2) := by decide +kernel
theorem dX5_init_19 : decode cX5_init 19 = .ok (.putfield 13, 3) := by decide +kernel
theorem dX5_init_22 : decode cX5_init 22 = .ok (.aload_n 0, 1) := by decide +kernel
theorem dX5_init_23 : decode cX5_init 23 = .ok (.sipush 200, 3) := by decide +kernel
theorem dX5_init_26 : decode cX5_init 26 = .ok (.newarray .int, 2) := by decide +kernel
theorem dX5_init_28 : decode cX5_init 28 = .ok (.putfield 16, 3) := by decide +kernel
theorem dX5_init_31 : decode cX5_init 31 = .ok (.aload_n 0, 1) := by decide +kernel
theorem dX5_init_32 : decode cX5_init 32 = .ok (.bipush 10, 2) := by decide +kernel
theorem dX5_init_34 : decode cX5_init 34 = .ok (.newarray .int, 2) := by decide +kernel
theorem dX5_init_36 : decode cX5_init 36 = .ok (.putfield 19, 3) := by decide +kernel
theorem dX5_init_39 : decode cX5_init 39 = .ok (.aload_n 0, 1) := by decide +kernel
theorem dX5_init_40 : decode cX5_init 40 = .ok (.iconst 4, 1) := by decide +kernel
theorem dX5_init_41 : decode cX5_init 41 = .ok (.newarray .int, 2) := by decide +kernel
theorem dX5_init_43 : decode cX5_init 43 = .ok (.putfield 22, 3) := by decide +kernel
theorem dX5_init_46 : decode cX5_init 46 = .ok (.aload_n 0, 1) := by decide +kernel
theorem dX5_init_47 : decode cX5_init 47 = .ok (.bipush 8, 2) := by decide +kernel
theorem dX5_init_49 : decode cX5_init 49 = .ok (.newarray .int, 2) := by decide +kernel
theorem dX5_init_51 : decode cX5_init 51 = .ok (.putfield 25, 3) := by decide +kernel
theorem dX5_init_54 : decode cX5_init 54 = .ok (.aload_n 0, 1) := by decide +kernel
theorem dX5_init_55 : decode cX5_init 55 = .ok (.iconst 2, 1) := by decide +kernel
theorem dX5_init_56 : decode cX5_init 56 = .ok (.newarray .int, 2) := by decide +kernel
theorem dX5_init_58 : decode cX5_init 58 = .ok (.putfield 28, 3) := by decide +kernel
theorem dX5_init_61 : decode cX5_init 61 = .ok (.aload_n 0, 1) := by decide +kernel
theorem dX5_init_62 : decode cX5_init 62 = .ok (.bipush 20, 2) := by decide +kernel
theorem dX5_init_64 : decode cX5_init 64 = .ok (.newarray .long, 2) := by decide +kernel
theorem dX5_init_66 : decode cX5_init 66 = .ok (.putfield 31, 3) := by decide +kernel
theorem dX5_init_69 : decode cX5_init 69 = .ok (.aload_n 0, 1) := by decide +kernel
theorem dX5_init_70 : decode cX5_init 70 = .ok (.bipush 20, 2) := by decide +kernel
theorem dX5_init_72 : decode cX5_init 72 = .ok (.newarray .int, 2) := by decide +kernel
theorem dX5_init_74 : decode cX5_init 74 = .ok (.putfield 35, 3) := by decide +kernel
theorem dX5_init_77 : decode cX5_init 77 = .ok (.aload_n 0, 1) := by decide +kernel
theorem dX5_init_78 : decode cX5_init 78 = .ok (.bipush 14, 2) := by decide +kernel
theorem dX5_init_80 : decode cX5_init 80 = .ok (.newarray .int, 2) := by decide +kernel
theorem dX5_init_82 : decode cX5_init 82 = .ok (.putfield 38, 3) := by decide +kernel
theorem dX5_init_85 : decode cX5_init 85 = .ok (.aload_n 0, 1) := by decide +kernel
theorem dX5_init_86 : decode cX5_init 86 = .ok (.bipush 20, 2) := by decide +kernel
theorem dX5_init_88 : decode cX5_init 88 = .ok (.newarray .int, 2) := by decide +kernel
theorem dX5_init_90 : decode cX5_init 90 = .ok (.putfield 41, 3) := by decide +kernel
theorem dX5_init_93 : decode cX5_init 93 = .ok (.aload_n 0, 1) := by decide +kernel
theorem dX5_init_94 : decode cX5_init 94 = .ok (.iconst (-1), 1) := by decide +kernel
theorem dX5_init_95 : decode cX5_init 95 = .ok (.putfield 44, 3) := by decide +kernel
theorem dX5_init_98 : decode cX5_init 98 = .ok (.aload_n 0, 1) := by decide +kernel
theorem dX5_init_99 : decode cX5_init 99 = .ok (.bipush 60, 2) := by decide +kernel
theorem dX5_init_101 : decode cX5_init 101 = .ok (.newarray .int, 2) := by decide +kernel
theorem dX5_init_103 : decode cX5_init 103 = .ok (.putfield 48, 3) := by decide +kernel
theorem dX5_init_106 : decode cX5_init 106 = .ok (.aload_n 0, 1) := by decide +kernel
theorem dX5_init_107 : decode cX5_init 107 = .ok (.bipush 60, 2) := by decide +kernel
theorem dX5_init_109 : decode cX5_init 109 = .ok (.newarray .int, 2) := by decide +kernel
theorem dX5_init_111 : decode cX5_init 111 = .ok (.putfield 51, 3) := by decide +kernel
theorem dX5_init_114 : decode cX5_init 114 = .ok (.aload_n 0, 1) := by decide +kernel
theorem dX5_init_115 : decode cX5_init 115 = .ok (.bipush 60, 2) := by decide +kernel
theorem dX5_init_117 : decode cX5_init 117 = .ok (.newarray .int, 2) := by decide +kernel
theorem dX5_init_119 : decode cX5_init 119 = .ok (.putfield 54, 3) := by decide +kernel
theorem dX5_init_122 : decode cX5_init 122 = .ok (.aload_n 0, 1) := by decide +kernel
theorem dX5_init_123 : decode cX5_init 123 = .ok (.bipush 60, 2) := by decide +kernel
theorem dX5_init_125 : decode cX5_init 125 = .ok (.newarray .int, 2) := by decide +kernel
theorem dX5_init_127 : decode cX5_init 127 = .ok (.putfield 57, 3) := by decide +kernel
theorem dX5_init_130 : decode cX5_init 130 = .ok (.aload_n 0, 1) := by decide +kernel
theorem dX5_init_131 : decode cX5_init 131 = .ok (.bipush 6, 2) := by decide +kernel
theorem dX5_init_133 : decode cX5_init 133 = .ok (.newarray .int, 2) := by decide +kernel
theorem dX5_init_135 : decode cX5_init 135 = .ok (.putfield 60, 3) := by decide +kernel
theorem dX5_init_138 : decode cX5_init 138 = .ok (.aload_n 0, 1) := by decide +kernel
theorem dX5_init_139 : decode cX5_init 139 = .ok (.bipush 6, 2) := by decide +kernel
theorem dX5_init_141 : decode cX5_init 141 = .ok (.newarray .int, 2) := by decide +kernel
theorem dX5_init_143 : decode cX5_init 143 = .ok (.putfield 63, 3) := by decide +kernel
theorem dX5_init_146 : decode cX5_init 146 = .ok (.aload_n 0, 1) := by decide +kernel
theorem dX5_init_147 : decode cX5_init 147 = .ok (.bipush 19, 2) := by decide +kernel
theorem dX5_init_149 : decode cX5_init 149 = .ok (.newarray .int, 2) := by decide +kernel
theorem dX5_init_151 : decode cX5_init 151 = .ok (.putfield 66, 3) := by decide +kernel
theorem dX5_init_154 : decode cX5_init 154 = .ok (.aload_n 0, 1) := by decide +kernel
theorem dX5_init_155 : decode cX5_init 155 = .ok (.sipush 130, 3) := by decide +kernel
theorem dX5_init_158 : decode cX5_init 158 = .ok (.newarray .int, 2) := by decide +kernel
theorem dX5_init_160 : decode cX5_init 160 = .ok (.putfield 69, 3) := by decide +kernel
theorem dX5_init_163 : decode cX5_init 163 = .ok (.aload_n 0, 1) := by decide +kernel
theorem dX5_init_164 : decode cX5_init 164 = .ok (.sipush 600, 3) := by decide +kernel
theorem dX5_init_167 : decode cX5_init 167 = .ok (.newarray .boolean, 2) := by decide +kernel
theorem dX5_init_169 : decode cX5_init 169 = .ok (.putfield 72, 3) := by decide +kernel
theorem dX5_init_172 : decode cX5_init 172 = .ok (.aload_n 0, 1) := by decide +kernel
theorem dX5_init_173 : decode cX5_init 173 = .ok (.sipush 600, 3) := by decide +kernel
theorem dX5_init_176 : decode cX5_init 176 = .ok (.newarray .int, 2) := by decide +kernel
theorem dX5_init_178 : decode cX5_init 178 = .ok (.putfield 76, 3) := by decide +kernel
theorem dX5_init_181 : decode cX5_init 181 = .ok (.aload_n 0, 1) := by decide +kernel
theorem dX5_init_182 : decode cX5_init 182 = .ok (.bipush 7, 2) := by decide +kernel
theorem dX5_init_184 : decode cX5_init 184 = .ok (.newarray .int, 2) := by decide +kernel
theorem dX5_init_186 : decode cX5_init 186 = .ok (.putfield 79, 3) := by decide +kernel
theorem dX5_init_189 : decode cX5_init 189 = .ok (.aload_n 0, 1) := by decide +kernel
theorem dX5_init_190 : decode cX5_init 190 = .ok (.bipush 64, 2) := by decide +kernel
theorem dX5_init_192 : decode cX5_init 192 = .ok (.newarray .int, 2) := by decide +kernel
theorem dX5_init_194 : decode cX5_init 194 = .ok (.putfield 82, 3) := by decide +kernel
theorem dX5_init_197 : decode cX5_init 197 = .ok (.aload_n 0, 1) := by decide +kernel
theorem dX5_init_198 : decode cX5_init 198 = .ok (.bipush 64, 2) := by decide +kernel
theorem dX5_init_200 : decode cX5_init 200 = .ok (.newarray .int, 2) := by decide +kernel
theorem dX5_init_202 : decode cX5_init 202 = .ok (.putfield 85, 3) := by decide +kernel
theorem dX5_init_205 : decode cX5_init 205 = .ok (.aload_n 0, 1) := by decide +kernel
theorem dX5_init_206 : decode cX5_init 206 = .ok (.bipush 84, 2) := by decide +kernel
theorem dX5_init_208 : decode cX5_init 208 = .ok (.newarray .int, 2) := by decide +kernel
theorem dX5_init_210 : decode cX5_init 210 = .ok (.putfield 88, 3) := by decide +kernel
theorem dX5_init_213 : decode cX5_init 213 = .ok (.iconst 0, 1) := by decide +kernel
theorem dX5_init_214 : decode cX5_init 214 = .ok (.istore_n 1, 1) := by decide +kernel
theorem dX5_init_215 : decode cX5_init 215 = .ok (.iload_n 1, 1) := by decide +kernel
theorem dX5_init_216 : decode cX5_init 216 = .ok (.bipush 6, 2) := by decide +kernel
theorem dX5_init_218 : decode cX5_init 218 = .ok (.if_icmp .ge 16, 3) := by decide +kernel
theorem dX5_init_221 : decode cX5_init 221 = .ok (.aload_n 0, 1) := by decide +kernel
theorem dX5_init_222 : decode cX5_init 222 = .ok (.getfield 79, 3) := by decide +kernel
theorem dX5_init_225 : decode cX5_init 225 = .ok (.iload_n 1, 1) := by decide +kernel
theorem dX5_init_226 : decode cX5_init 226 = .ok (.iconst 3, 1) := by decide +kernel
theorem dX5_init_227 : decode cX5_init 227 = .ok (.iastore, 1) := by decide +kernel
theorem dX5_init_228 : decode cX5_init 228 = .ok (.iinc 1 1, 3) := by decide +kernel
theorem dX5_init_231 : decode cX5_init 231 = .ok (.goto (-16), 3) := by decide +kernel
theorem dX5_init_234 : decode cX5_init 234 = .ok (.aload_n 0, 1) := by decide +kernel
theorem dX5_init_235 : decode cX5_init 235 = .ok (.getfield 79, 3) := by decide +kernel
theorem dX5_init_238 : decode cX5_init 238 = .ok (.bipush 6, 2) := by decide +kernel
theorem dX5_init_240 : decode cX5_init 240 = .ok (.iconst 5, 1) := by decide +kernel
theorem dX5_init_241 : decode cX5_init 241 = .ok (.iastore, 1) := by decide +kernel
theorem dX5_init_242 : decode cX5_init 242 = .ok (.return_, 1) := by decide +kernel
theorem dX5_within_0 : decode cX5_within 0 = .ok (.iload_n 0, 1) := by decide +kernel
theorem dX5_within_1 : decode cX5_within 1 = .ok (.iload_n 1, 1) := by decide +kernel
theorem dX5_within_2 : decode cX5_within 2 = .ok (.if_icmp .lt 12, 3) := by decide +kernel
theorem dX5_within_5 : decode cX5_within 5 = .ok (.iload_n 0, 1) := by decide +kernel
theorem dX5_within_6 : decode cX5_within 6 = .ok (.iload_n 2, 1) := by decide +kernel
theorem dX5_within_7 : decode cX5_within 7 = .ok (.if_icmp .gt 7, 3) := by decide +kernel
theorem dX5_within_10 : decode cX5_within 10 = .ok (.iconst 1, 1) := by decide +kernel
theorem dX5_within_11 : decode cX5_within 11 = .ok (.goto 4, 3) := by decide +kernel
theorem dX5_within_14 : decode cX5_within 14 = .ok (.iconst 0, 1) := by decide +kernel
theorem dX5_within_15 : decode cX5_within 15 = .ok (.ireturn, 1) := by decide +kernel
theorem dX5_isProgram_0 : decode cX5_isProgram 0 = .ok (.iload_n 1, 1) := by decide +kernel
theorem dX5_isProgram_1 : decode cX5_isProgram 1 = .ok (.ifCond .lt 15, 3) := by decide +kernel
theorem dX5_isProgram_4 : decode cX5_isProgram 4 = .ok (.iload_n 1, 1) := by decide +kernel
theorem dX5_isProgram_5 : decode cX5_isProgram 5 = .ok (.aload_n 0, 1) := by decide +kernel
theorem dX5_isProgram_6 : decode cX5_isProgram 6 = .ok (.getfield 91, 3) := by decide +kernel
theorem dX5_isProgram_9 : decode cX5_isProgram 9 = .ok (.if_icmp .ge 7, 3) := by decide +kernel
theorem dX5_isProgram_12 : decode cX5_isProgram 12 = .ok (.iconst 1, 1) := by decide +kernel
theorem dX5_isProgram_13 : decode cX5_isProgram 13 = .ok (.goto 4, 3) := by decide +kernel
theorem dX5_isProgram_16 : decode cX5_isProgram 16 = .ok (.iconst 0, 1) := by decide +kernel
theorem dX5_isProgram_17 : decode cX5_isProgram 17 = .ok (.ireturn, 1) := by decide +kernel
theorem dX5_isQuestion_0 : decode cX5_isQuestion 0 = .ok (.iload_n 1, 1) := by decide +kernel
theorem dX5_isQuestion_1 : decode cX5_isQuestion 1 = .ok (.ifCond .lt 15, 3) := by decide +kernel
theorem dX5_isQuestion_4 : decode cX5_isQuestion 4 = .ok (.iload_n 1, 1) := by decide +kernel
theorem dX5_isQuestion_5 : decode cX5_isQuestion 5 = .ok (.aload_n 0, 1) := by decide +kernel
theorem dX5_isQuestion_6 : decode cX5_isQuestion 6 = .ok (.getfield 94, 3) := by decide +kernel
theorem dX5_isQuestion_9 : decode cX5_isQuestion 9 = .ok (.if_icmp .ge 7, 3) := by decide +kernel
theorem dX5_isQuestion_12 : decode cX5_isQuestion 12 = .ok (.iconst 1, 1) := by decide +kernel
theorem dX5_isQuestion_13 : decode cX5_isQuestion 13 = .ok (.goto 4, 3) := by decide +kernel
theorem dX5_isQuestion_16 : decode cX5_isQuestion 16 = .ok (.iconst 0, 1) := by decide +kernel
theorem dX5_isQuestion_17 : decode cX5_isQuestion 17 = .ok (.ireturn, 1) := by decide +kernel
theorem dX5_program_0 : decode cX5_program 0 = .ok (.aload_n 0, 1) := by decide +kernel
theorem dX5_program_1 : decode cX5_program 1 = .ok (.getfield 91, 3) := by decide +kernel
theorem dX5_program_4 : decode cX5_program 4 = .ok (.bipush 10, 2) := by decide +kernel
theorem dX5_program_6 : decode cX5_program 6 = .ok (.if_icmp .ne 6, 3) := by decide +kernel
theorem dX5_program_9 : decode cX5_program 9 = .ok (.bipush (-2), 2) := by decide +kernel
theorem dX5_program_11 : decode cX5_program 11 = .ok (.ireturn, 1) := by decide +kernel
theorem dX5_program_12 : decode cX5_program 12 = .ok (.aload_n 0, 1) := by decide +kernel
theorem dX5_program_13 : decode cX5_program 13 = .ok (.dup, 1) := by decide +kernel
theorem dX5_program_14 : decode cX5_program 14 = .ok (.getfield 91, 3) := by decide +kernel
theorem dX5_program_17 : decode cX5_program 17 = .ok (.iconst 1, 1) := by decide +kernel
theorem dX5_program_18 : decode cX5_program 18 = .ok (.iadd, 1) := by decide +kernel
theorem dX5_program_19 : decode cX5_program 19 = .ok (.putfield 91, 3) := by decide +kernel
theorem dX5_program_22 : decode cX5_program 22 = .ok (.aload_n 0, 1) := by decide +kernel
theorem dX5_program_23 : decode cX5_program 23 = .ok (.getfield 91, 3) := by decide +kernel
theorem dX5_program_26 : decode cX5_program 26 = .ok (.iconst 1, 1) := by decide +kernel
theorem dX5_program_27 : decode cX5_program 27 = .ok (.isub, 1) := by decide +kernel
theorem dX5_program_28 : decode cX5_program 28 = .ok (.ireturn, 1) := by decide +kernel
theorem dX5_mayBe_0 : decode cX5_mayBe 0 = .ok (.iload_n 1, 1) := by decide +kernel
theorem dX5_mayBe_1 : decode cX5_mayBe 1 = .ok (.iconst 0, 1) := by decide +kernel
theorem dX5_mayBe_2 : decode cX5_mayBe 2 = .ok (.iconst 3, 1) := by decide +kernel
theorem dX5_mayBe_3 : decode cX5_mayBe 3 = .ok (.invokestatic 97, 3) := by decide +kernel
theorem dX5_mayBe_6 : decode cX5_mayBe 6 = .ok (.istore_n 3, 1) := by decide +kernel
theorem dX5_mayBe_7 : decode cX5_mayBe 7 = .ok (.iload_n 0, 1) := by decide +kernel
theorem dX5_mayBe_8 : decode cX5_mayBe 8 = .ok (.tableswitch 193 0 9 #[56, 77, 77, 77, 96, 77, 110, 124, 149, 169], 56) := by decide +kernel
theorem dX5_mayBe_64 : decode cX5_mayBe 64 = .ok (.iload_n 3, 1) := by decide +kernel
theorem dX5_mayBe_65 : decode cX5_mayBe 65 = .ok (.ifCond .eq 18, 3) := by decide +kernel
theorem dX5_mayBe_68 : decode cX5_mayBe 68 = .ok (.iload_n 2, 1) := by decide +kernel
theorem dX5_mayBe_69 : decode cX5_mayBe 69 = .ok (.bipush (-99), 2) := by decide +kernel
theorem dX5_mayBe_71 : decode cX5_mayBe 71 = .ok (.bipush 99, 2) := by decide +kernel
theorem dX5_mayBe_73 : decode cX5_mayBe 73 = .ok (.invokestatic 97, 3) := by decide +kernel
theorem dX5_mayBe_76 : decode cX5_mayBe 76 = .ok (.ifCond .eq 7, 3) := by decide +kernel
theorem dX5_mayBe_79 : decode cX5_mayBe 79 = .ok (.iconst 1, 1) := by decide +kernel
theorem dX5_mayBe_80 : decode cX5_mayBe 80 = .ok (.goto 4, 3) := by decide +kernel
theorem dX5_mayBe_83 : decode cX5_mayBe 83 = .ok (.iconst 0, 1) := by decide +kernel
theorem dX5_mayBe_84 : decode cX5_mayBe 84 = .ok (.ireturn, 1) := by decide +kernel
theorem dX5_mayBe_85 : decode cX5_mayBe 85 = .ok (.iload_n 3, 1) := by decide +kernel
theorem dX5_mayBe_86 : decode cX5_mayBe 86 = .ok (.ifCond .eq 16, 3) := by decide +kernel
theorem dX5_mayBe_89 : decode cX5_mayBe 89 = .ok (.iload_n 2, 1) := by decide +kernel
theorem dX5_mayBe_90 : decode cX5_mayBe 90 = .ok (.iconst 0, 1) := by decide +kernel
theorem dX5_mayBe_91 : decode cX5_mayBe 91 = .ok (.iconst 3, 1) := by decide +kernel
theorem dX5_mayBe_92 : decode cX5_mayBe 92 = .ok (.invokestatic 97, 3) := by decide +kernel
theorem dX5_mayBe_95 : decode cX5_mayBe 95 = .ok (.ifCond .eq 7, 3) := by decide +kernel
theorem dX5_mayBe_98 : decode cX5_mayBe 98 = .ok (.iconst 1, 1) := by decide +kernel
theorem dX5_mayBe_99 : decode cX5_mayBe 99 = .ok (.goto 4, 3) := by decide +kernel
theorem dX5_mayBe_102 : decode cX5_mayBe 102 = .ok (.iconst 0, 1) := by decide +kernel
theorem dX5_mayBe_103 : decode cX5_mayBe 103 = .ok (.ireturn, 1) := by decide +kernel
theorem dX5_mayBe_104 : decode cX5_mayBe 104 = .ok (.iload_n 3, 1) := by decide +kernel
theorem dX5_mayBe_105 : decode cX5_mayBe 105 = .ok (.ifCond .eq 11, 3) := by decide +kernel
theorem dX5_mayBe_108 : decode cX5_mayBe 108 = .ok (.iload_n 2, 1) := by decide +kernel
theorem dX5_mayBe_109 : decode cX5_mayBe 109 = .ok (.ifCond .ne 7, 3) := by decide +kernel
theorem dX5_mayBe_112 : decode cX5_mayBe 112 = .ok (.iconst 1, 1) := by decide +kernel
theorem dX5_mayBe_113 : decode cX5_mayBe 113 = .ok (.goto 4, 3) := by decide +kernel
theorem dX5_mayBe_116 : decode cX5_mayBe 116 = .ok (.iconst 0, 1) := by decide +kernel
theorem dX5_mayBe_117 : decode cX5_mayBe 117 = .ok (.ireturn, 1) := by decide +kernel
theorem dX5_mayBe_118 : decode cX5_mayBe 118 = .ok (.iload_n 1, 1) := by decide +kernel
theorem dX5_mayBe_119 : decode cX5_mayBe 119 = .ok (.ifCond .ne 11, 3) := by decide +kernel
theorem dX5_mayBe_122 : decode cX5_mayBe 122 = .ok (.iload_n 2, 1) := by decide +kernel
theorem dX5_mayBe_123 : decode cX5_mayBe 123 = .ok (.ifCond .ne 7, 3) := by decide +kernel
theorem dX5_mayBe_126 : decode cX5_mayBe 126 = .ok (.iconst 1, 1) := by decide +kernel
theorem dX5_mayBe_127 : decode cX5_mayBe 127 = .ok (.goto 4, 3) := by decide +kernel
theorem dX5_mayBe_130 : decode cX5_mayBe 130 = .ok (.iconst 0, 1) := by decide +kernel
theorem dX5_mayBe_131 : decode cX5_mayBe 131 = .ok (.ireturn, 1) := by decide +kernel
theorem dX5_mayBe_132 : decode cX5_mayBe 132 = .ok (.iload_n 1, 1) := by decide +kernel
theorem dX5_mayBe_133 : decode cX5_mayBe 133 = .ok (.iconst 0, 1) := by decide +kernel
theorem dX5_mayBe_134 : decode cX5_mayBe 134 = .ok (.bipush 7, 2) := by decide +kernel
theorem dX5_mayBe_136 : decode cX5_mayBe 136 = .ok (.invokestatic 97, 3) := by decide +kernel
theorem dX5_mayBe_139 : decode cX5_mayBe 139 = .ok (.ifCond .eq 16, 3) := by decide +kernel
theorem dX5_mayBe_142 : decode cX5_mayBe 142 = .ok (.iload_n 2, 1) := by decide +kernel
theorem dX5_mayBe_143 : decode cX5_mayBe 143 = .ok (.iconst 0, 1) := by decide +kernel
theorem dX5_mayBe_144 : decode cX5_mayBe 144 = .ok (.iconst 3, 1) := by decide +kernel
theorem dX5_mayBe_145 : decode cX5_mayBe 145 = .ok (.invokestatic 97, 3) := by decide +kernel
theorem dX5_mayBe_148 : decode cX5_mayBe 148 = .ok (.ifCond .eq 7, 3) := by decide +kernel
theorem dX5_mayBe_151 : decode cX5_mayBe 151 = .ok (.iconst 1, 1) := by decide +kernel
theorem dX5_mayBe_152 : decode cX5_mayBe 152 = .ok (.goto 4, 3) := by decide +kernel
theorem dX5_mayBe_155 : decode cX5_mayBe 155 = .ok (.iconst 0, 1) := by decide +kernel
theorem dX5_mayBe_156 : decode cX5_mayBe 156 = .ok (.ireturn, 1) := by decide +kernel
theorem dX5_mayBe_157 : decode cX5_mayBe 157 = .ok (.iload_n 3, 1) := by decide +kernel
theorem dX5_mayBe_158 : decode cX5_mayBe 158 = .ok (.ifCond .eq 17, 3) := by decide +kernel
theorem dX5_mayBe_161 : decode cX5_mayBe 161 = .ok (.iload_n 2, 1) := by decide +kernel
theorem dX5_mayBe_162 : decode cX5_mayBe 162 = .ok (.iconst 0, 1) := by decide +kernel
theorem dX5_mayBe_163 : decode cX5_mayBe 163 = .ok (.bipush 7, 2) := by decide +kernel
theorem dX5_mayBe_165 : decode cX5_mayBe 165 = .ok (.invokestatic 97, 3) := by decide +kernel
theorem dX5_mayBe_168 : decode cX5_mayBe 168 = .ok (.ifCond .eq 7, 3) := by decide +kernel
theorem dX5_mayBe_171 : decode cX5_mayBe 171 = .ok (.iconst 1, 1) := by decide +kernel
theorem dX5_mayBe_172 : decode cX5_mayBe 172 = .ok (.goto 4, 3) := by decide +kernel
theorem dX5_mayBe_175 : decode cX5_mayBe 175 = .ok (.iconst 0, 1) := by decide +kernel
theorem dX5_mayBe_176 : decode cX5_mayBe 176 = .ok (.ireturn, 1) := by decide +kernel
theorem dX5_mayBe_177 : decode cX5_mayBe 177 = .ok (.iload_n 1, 1) := by decide +kernel
theorem dX5_mayBe_178 : decode cX5_mayBe 178 = .ok (.iconst 0, 1) := by decide +kernel
theorem dX5_mayBe_179 : decode cX5_mayBe 179 = .ok (.iconst 1, 1) := by decide +kernel
theorem dX5_mayBe_180 : decode cX5_mayBe 180 = .ok (.invokestatic 97, 3) := by decide +kernel
theorem dX5_mayBe_183 : decode cX5_mayBe 183 = .ok (.ifCond .eq 16, 3) := by decide +kernel
theorem dX5_mayBe_186 : decode cX5_mayBe 186 = .ok (.iload_n 2, 1) := by decide +kernel
theorem dX5_mayBe_187 : decode cX5_mayBe 187 = .ok (.iconst 0, 1) := by decide +kernel
theorem dX5_mayBe_188 : decode cX5_mayBe 188 = .ok (.iconst 1, 1) := by decide +kernel
theorem dX5_mayBe_189 : decode cX5_mayBe 189 = .ok (.invokestatic 97, 3) := by decide +kernel
theorem dX5_mayBe_192 : decode cX5_mayBe 192 = .ok (.ifCond .eq 7, 3) := by decide +kernel
theorem dX5_mayBe_195 : decode cX5_mayBe 195 = .ok (.iconst 1, 1) := by decide +kernel
theorem dX5_mayBe_196 : decode cX5_mayBe 196 = .ok (.goto 4, 3) := by decide +kernel
theorem dX5_mayBe_199 : decode cX5_mayBe 199 = .ok (.iconst 0, 1) := by decide +kernel
theorem dX5_mayBe_200 : decode cX5_mayBe 200 = .ok (.ireturn, 1) := by decide +kernel
theorem dX5_mayBe_201 : decode cX5_mayBe 201 = .ok (.iconst 0, 1) := by decide +kernel
theorem dX5_mayBe_202 : decode cX5_mayBe 202 = .ok (.ireturn, 1) := by decide +kernel
theorem dX5_openAhead_0 : decode cX5_openAhead 0 = .ok (.iconst 0, 1) := by decide +kernel
theorem dX5_openAhead_1 : decode cX5_openAhead 1 = .ok (.istore_n 3, 1) := by decide +kernel
theorem dX5_openAhead_2 : decode cX5_openAhead 2 = .ok (.iconst 0, 1) := by decide +kernel
theorem dX5_openAhead_3 : decode cX5_openAhead 3 = .ok (.istore 4, 2) := by decide +kernel
theorem dX5_openAhead_5 : decode cX5_openAhead 5 = .ok (.iload 4, 2) := by decide +kernel
theorem dX5_openAhead_7 : decode cX5_openAhead 7 = .ok (.iload_n 2, 1) := by decide +kernel
theorem dX5_openAhead_8 : decode cX5_openAhead 8 = .ok (.if_icmp .ge 54, 3) := by decide +kernel
theorem dX5_openAhead_11 : decode cX5_openAhead 11 = .ok (.aload_n 0, 1) := by decide +kernel
theorem dX5_openAhead_12 : decode cX5_openAhead 12 = .ok (.getfield 9, 3) := by decide +kernel
theorem dX5_openAhead_15 : decode cX5_openAhead 15 = .ok (.bipush 20, 2) := by decide +kernel
theorem dX5_openAhead_17 : decode cX5_openAhead 17 = .ok (.iload_n 1, 1) := by decide +kernel
theorem dX5_openAhead_18 : decode cX5_openAhead 18 = .ok (.imul, 1) := by decide +kernel
theorem dX5_openAhead_19 : decode cX5_openAhead 19 = .ok (.iload 4, 2) := by decide +kernel
theorem dX5_openAhead_21 : decode cX5_openAhead 21 = .ok (.iadd, 1) := by decide +kernel
theorem dX5_openAhead_22 : decode cX5_openAhead 22 = .ok (.iaload, 1) := by decide +kernel
theorem dX5_openAhead_23 : decode cX5_openAhead 23 = .ok (.istore 5, 2) := by decide +kernel
theorem dX5_openAhead_25 : decode cX5_openAhead 25 = .ok (.iload_n 3, 1) := by decide +kernel
theorem dX5_openAhead_26 : decode cX5_openAhead 26 = .ok (.iload 5, 2) := by decide +kernel
theorem dX5_openAhead_28 : decode cX5_openAhead 28 = .ok (.iconst 4, 1) := by decide +kernel
theorem dX5_openAhead_29 : decode cX5_openAhead 29 = .ok (.if_icmp .eq 9, 3) := by decide +kernel
theorem dX5_openAhead_32 : decode cX5_openAhead 32 = .ok (.iload 5, 2) := by decide +kernel
theorem dX5_openAhead_34 : decode cX5_openAhead 34 = .ok (.iconst 5, 1) := by decide +kernel
theorem dX5_openAhead_35 : decode cX5_openAhead 35 = .ok (.if_icmp .ne 7, 3) := by decide +kernel
theorem dX5_openAhead_38 : decode cX5_openAhead 38 = .ok (.iconst 1, 1) := by decide +kernel
theorem dX5_openAhead_39 : decode cX5_openAhead 39 = .ok (.goto 15, 3) := by decide +kernel
theorem dX5_openAhead_42 : decode cX5_openAhead 42 = .ok (.iload 5, 2) := by decide +kernel
theorem dX5_openAhead_44 : decode cX5_openAhead 44 = .ok (.bipush 6, 2) := by decide +kernel
theorem dX5_openAhead_46 : decode cX5_openAhead 46 = .ok (.if_icmp .ne 7, 3) := by decide +kernel
theorem dX5_openAhead_49 : decode cX5_openAhead 49 = .ok (.iconst (-1), 1) := by decide +kernel
theorem dX5_openAhead_50 : decode cX5_openAhead 50 = .ok (.goto 4, 3) := by decide +kernel
theorem dX5_openAhead_53 : decode cX5_openAhead 53 = .ok (.iconst 0, 1) := by decide +kernel
theorem dX5_openAhead_54 : decode cX5_openAhead 54 = .ok (.iadd, 1) := by decide +kernel
theorem dX5_openAhead_55 : decode cX5_openAhead 55 = .ok (.istore_n 3, 1) := by decide +kernel
theorem dX5_openAhead_56 : decode cX5_openAhead 56 = .ok (.iinc 4 1, 3) := by decide +kernel
theorem dX5_openAhead_59 : decode cX5_openAhead 59 = .ok (.goto (-54), 3) := by decide +kernel
theorem dX5_openAhead_62 : decode cX5_openAhead 62 = .ok (.iload_n 3, 1) := by decide +kernel
theorem dX5_openAhead_63 : decode cX5_openAhead 63 = .ok (.ireturn, 1) := by decide +kernel
theorem dX5_line_0 : decode cX5_line 0 = .ok (.aload_n 0, 1) := by decide +kernel
theorem dX5_line_1 : decode cX5_line 1 = .ok (.iload_n 1, 1) := by decide +kernel
theorem dX5_line_2 : decode cX5_line 2 = .ok (.invokevirtual 101, 3) := by decide +kernel
theorem dX5_line_5 : decode cX5_line 5 = .ok (.ifCond .eq 13, 3) := by decide +kernel
theorem dX5_line_8 : decode cX5_line 8 = .ok (.iload_n 2, 1) := by decide +kernel
theorem dX5_line_9 : decode cX5_line 9 = .ok (.iload_n 3, 1) := by decide +kernel
theorem dX5_line_10 : decode cX5_line 10 = .ok (.iload 4, 2) := by decide +kernel
theorem dX5_line_12 : decode cX5_line 12 = .ok (.invokestatic 105, 3) := by decide +kernel
theorem dX5_line_15 : decode cX5_line 15 = .ok (.ifCond .ne 5, 3) := by decide +kernel
theorem dX5_line_18 : decode cX5_line 18 = .ok (.iconst (-1), 1) := by decide +kernel
theorem dX5_line_19 : decode cX5_line 19 = .ok (.ireturn, 1) := by decide +kernel
theorem dX5_line_20 : decode cX5_line 20 = .ok (.iconst 0, 1) := by decide +kernel
theorem dX5_line_21 : decode cX5_line 21 = .ok (.istore 5, 2) := by decide +kernel
theorem dX5_line_23 : decode cX5_line 23 = .ok (.iload 5, 2) := by decide +kernel
theorem dX5_line_25 : decode cX5_line 25 = .ok (.aload_n 0, 1) := by decide +kernel
theorem dX5_line_26 : decode cX5_line 26 = .ok (.getfield 94, 3) := by decide +kernel
theorem dX5_line_29 : decode cX5_line 29 = .ok (.if_icmp .ge 23, 3) := by decide +kernel
theorem dX5_line_32 : decode cX5_line 32 = .ok (.aload_n 0, 1) := by decide +kernel
theorem dX5_line_33 : decode cX5_line 33 = .ok (.getfield 48, 3) := by decide +kernel
theorem dX5_line_36 : decode cX5_line 36 = .ok (.iload 5, 2) := by decide +kernel
theorem dX5_line_38 : decode cX5_line 38 = .ok (.iaload, 1) := by decide +kernel
theorem dX5_line_39 : decode cX5_line 39 = .ok (.iload_n 1, 1) := by decide +kernel
theorem dX5_line_40 : decode cX5_line 40 = .ok (.if_icmp .ne 6, 3) := by decide +kernel
theorem dX5_line_43 : decode cX5_line 43 = .ok (.bipush (-3), 2) := by decide +kernel
theorem dX5_line_45 : decode cX5_line 45 = .ok (.ireturn, 1) := by decide +kernel
theorem dX5_line_46 : decode cX5_line 46 = .ok (.iinc 5 1, 3) := by decide +kernel
theorem dX5_line_49 : decode cX5_line 49 = .ok (.goto (-26), 3) := by decide +kernel
theorem dX5_line_52 : decode cX5_line 52 = .ok (.iload_n 2, 1) := by decide +kernel
theorem dX5_line_53 : decode cX5_line 53 = .ok (.bipush 6, 2) := by decide +kernel
theorem dX5_line_55 : decode cX5_line 55 = .ok (.if_icmp .ne 20, 3) := by decide +kernel
theorem dX5_line_58 : decode cX5_line 58 = .ok (.aload_n 0, 1) := by decide +kernel
theorem dX5_line_59 : decode cX5_line 59 = .ok (.iload_n 1, 1) := by decide +kernel
theorem dX5_line_60 : decode cX5_line 60 = .ok (.aload_n 0, 1) := by decide +kernel
theorem dX5_line_61 : decode cX5_line 61 = .ok (.getfield 19, 3) := by decide +kernel
theorem dX5_line_64 : decode cX5_line 64 = .ok (.iload_n 1, 1) := by decide +kernel
theorem dX5_line_65 : decode cX5_line 65 = .ok (.iaload, 1) := by decide +kernel
theorem dX5_line_66 : decode cX5_line 66 = .ok (.invokevirtual 108, 3) := by decide +kernel
theorem dX5_line_69 : decode cX5_line 69 = .ok (.ifCond .ne 6, 3) := by decide +kernel
theorem dX5_line_72 : decode cX5_line 72 = .ok (.bipush (-3), 2) := by decide +kernel
theorem dX5_line_74 : decode cX5_line 74 = .ok (.ireturn, 1) := by decide +kernel
theorem dX5_line_75 : decode cX5_line 75 = .ok (.aload_n 0, 1) := by decide +kernel
theorem dX5_line_76 : decode cX5_line 76 = .ok (.getfield 19, 3) := by decide +kernel
theorem dX5_line_79 : decode cX5_line 79 = .ok (.iload_n 1, 1) := by decide +kernel
theorem dX5_line_80 : decode cX5_line 80 = .ok (.iaload, 1) := by decide +kernel
theorem dX5_line_81 : decode cX5_line 81 = .ok (.bipush 20, 2) := by decide +kernel
theorem dX5_line_83 : decode cX5_line 83 = .ok (.if_icmp .ne 6, 3) := by decide +kernel
theorem dX5_line_86 : decode cX5_line 86 = .ok (.bipush (-2), 2) := by decide +kernel
theorem dX5_line_88 : decode cX5_line 88 = .ok (.ireturn, 1) := by decide +kernel
theorem dX5_line_89 : decode cX5_line 89 = .ok (.bipush 20, 2) := by decide +kernel
theorem dX5_line_91 : decode cX5_line 91 = .ok (.iload_n 1, 1) := by decide +kernel
theorem dX5_line_92 : decode cX5_line 92 = .ok (.imul, 1) := by decide +kernel
theorem dX5_line_93 : decode cX5_line 93 = .ok (.aload_n 0, 1) := by decide +kernel
theorem dX5_line_94 : decode cX5_line 94 = .ok (.getfield 19, 3) := by decide +kernel
theorem dX5_line_97 : decode cX5_line 97 = .ok (.iload_n 1, 1) := by decide +kernel
theorem dX5_line_98 : decode cX5_line 98 = .ok (.iaload, 1) := by decide +kernel
theorem dX5_line_99 : decode cX5_line 99 = .ok (.iadd, 1) := by decide +kernel
theorem dX5_line_100 : decode cX5_line 100 = .ok (.istore 5, 2) := by decide +kernel
theorem dX5_line_102 : decode cX5_line 102 = .ok (.aload_n 0, 1) := by decide +kernel
theorem dX5_line_103 : decode cX5_line 103 = .ok (.getfield 9, 3) := by decide +kernel
theorem dX5_line_106 : decode cX5_line 106 = .ok (.iload 5, 2) := by decide +kernel
theorem dX5_line_108 : decode cX5_line 108 = .ok (.iload_n 2, 1) := by decide +kernel
theorem dX5_line_109 : decode cX5_line 109 = .ok (.iastore, 1) := by decide +kernel
theorem dX5_line_110 : decode cX5_line 110 = .ok (.aload_n 0, 1) := by decide +kernel
theorem dX5_line_111 : decode cX5_line 111 = .ok (.getfield 13, 3) := by decide +kernel
theorem dX5_line_114 : decode cX5_line 114 = .ok (.iload 5, 2) := by decide +kernel
theorem dX5_line_116 : decode cX5_line 116 = .ok (.iload_n 3, 1) := by decide +kernel
theorem dX5_line_117 : decode cX5_line 117 = .ok (.iastore, 1) := by decide +kernel
theorem dX5_line_118 : decode cX5_line 118 = .ok (.aload_n 0, 1) := by decide +kernel
theorem dX5_line_119 : decode cX5_line 119 = .ok (.getfield 16, 3) := by decide +kernel
theorem dX5_line_122 : decode cX5_line 122 = .ok (.iload 5, 2) := by decide +kernel
theorem dX5_line_124 : decode cX5_line 124 = .ok (.iload 4, 2) := by decide +kernel
theorem dX5_line_126 : decode cX5_line 126 = .ok (.iastore, 1) := by decide +kernel
theorem dX5_line_127 : decode cX5_line 127 = .ok (.aload_n 0, 1) := by decide +kernel
theorem dX5_line_128 : decode cX5_line 128 = .ok (.getfield 19, 3) := by decide +kernel
theorem dX5_line_131 : decode cX5_line 131 = .ok (.iload_n 1, 1) := by decide +kernel
theorem dX5_line_132 : decode cX5_line 132 = .ok (.dup2, 1) := by decide +kernel
theorem dX5_line_133 : decode cX5_line 133 = .ok (.iaload, 1) := by decide +kernel
theorem dX5_line_134 : decode cX5_line 134 = .ok (.iconst 1, 1) := by decide +kernel
theorem dX5_line_135 : decode cX5_line 135 = .ok (.iadd, 1) := by decide +kernel
theorem dX5_line_136 : decode cX5_line 136 = .ok (.iastore, 1) := by decide +kernel
theorem dX5_line_137 : decode cX5_line 137 = .ok (.aload_n 0, 1) := by decide +kernel
theorem dX5_line_138 : decode cX5_line 138 = .ok (.getfield 19, 3) := by decide +kernel
theorem dX5_line_141 : decode cX5_line 141 = .ok (.iload_n 1, 1) := by decide +kernel
theorem dX5_line_142 : decode cX5_line 142 = .ok (.iaload, 1) := by decide +kernel
theorem dX5_line_143 : decode cX5_line 143 = .ok (.iconst 1, 1) := by decide +kernel
theorem dX5_line_144 : decode cX5_line 144 = .ok (.isub, 1) := by decide +kernel
theorem dX5_line_145 : decode cX5_line 145 = .ok (.ireturn, 1) := by decide +kernel
theorem dX5_about_0 : decode cX5_about 0 = .ok (.aload_n 0, 1) := by decide +kernel
theorem dX5_about_1 : decode cX5_about 1 = .ok (.iload_n 1, 1) := by decide +kernel
theorem dX5_about_2 : decode cX5_about 2 = .ok (.invokevirtual 101, 3) := by decide +kernel
theorem dX5_about_5 : decode cX5_about 5 = .ok (.ifCond .eq 26, 3) := by decide +kernel
theorem dX5_about_8 : decode cX5_about 8 = .ok (.iload_n 2, 1) := by decide +kernel
theorem dX5_about_9 : decode cX5_about 9 = .ok (.ifCond .lt 22, 3) := by decide +kernel
theorem dX5_about_12 : decode cX5_about 12 = .ok (.iload_n 2, 1) := by decide +kernel
theorem dX5_about_13 : decode cX5_about 13 = .ok (.aload_n 0, 1) := by decide +kernel
theorem dX5_about_14 : decode cX5_about 14 = .ok (.getfield 19, 3) := by decide +kernel
theorem dX5_about_17 : decode cX5_about 17 = .ok (.iload_n 1, 1) := by decide +kernel
theorem dX5_about_18 : decode cX5_about 18 = .ok (.iaload, 1) := by decide +kernel
theorem dX5_about_19 : decode cX5_about 19 = .ok (.if_icmp .ge 12, 3) := by decide +kernel
theorem dX5_about_22 : decode cX5_about 22 = .ok (.iload_n 3, 1) := by decide +kernel
theorem dX5_about_23 : decode cX5_about 23 = .ok (.iconst 0, 1) := by decide +kernel
theorem dX5_about_24 : decode cX5_about 24 = .ok (.iconst 3, 1) := by decide +kernel
theorem dX5_about_25 : decode cX5_about 25 = .ok (.invokestatic 97, 3) := by decide +kernel
theorem dX5_about_28 : decode cX5_about 28 = .ok (.ifCond .ne 6, 3) := by decide +kernel
theorem dX5_about_31 : decode cX5_about 31 = .ok (.ldc 112, 2) := by decide +kernel
theorem dX5_about_33 : decode cX5_about 33 = .ok (.ireturn, 1) := by decide +kernel
theorem dX5_about_34 : decode cX5_about 34 = .ok (.bipush 20, 2) := by decide +kernel
theorem dX5_about_36 : decode cX5_about 36 = .ok (.iload_n 1, 1) := by decide +kernel
theorem dX5_about_37 : decode cX5_about 37 = .ok (.imul, 1) := by decide +kernel
theorem dX5_about_38 : decode cX5_about 38 = .ok (.iload_n 2, 1) := by decide +kernel
theorem dX5_about_39 : decode cX5_about 39 = .ok (.iadd, 1) := by decide +kernel
theorem dX5_about_40 : decode cX5_about 40 = .ok (.istore 4, 2) := by decide +kernel
theorem dX5_about_42 : decode cX5_about 42 = .ok (.iload_n 3, 1) := by decide +kernel
theorem dX5_about_43 : decode cX5_about 43 = .ok (.ifCond .ne 13, 3) := by decide +kernel
theorem dX5_about_46 : decode cX5_about 46 = .ok (.aload_n 0, 1) := by decide +kernel
theorem dX5_about_47 : decode cX5_about 47 = .ok (.getfield 9, 3) := by decide +kernel
theorem dX5_about_50 : decode cX5_about 50 = .ok (.iload 4, 2) := by decide +kernel
theorem dX5_about_52 : decode cX5_about 52 = .ok (.iaload, 1) := by decide +kernel
theorem dX5_about_53 : decode cX5_about 53 = .ok (.goto 39, 3) := by decide +kernel
theorem dX5_about_56 : decode cX5_about 56 = .ok (.iload_n 3, 1) := by decide +kernel
theorem dX5_about_57 : decode cX5_about 57 = .ok (.iconst 1, 1) := by decide +kernel
theorem dX5_about_58 : decode cX5_about 58 = .ok (.if_icmp .ne 13, 3) := by decide +kernel
theorem dX5_about_61 : decode cX5_about 61 = .ok (.aload_n 0, 1) := by decide +kernel
theorem dX5_about_62 : decode cX5_about 62 = .ok (.getfield 13, 3) := by decide +kernel
theorem dX5_about_65 : decode cX5_about 65 = .ok (.iload 4, 2) := by decide +kernel
theorem dX5_about_67 : decode cX5_about 67 = .ok (.iaload, 1) := by decide +kernel
theorem dX5_about_68 : decode cX5_about 68 = .ok (.goto 24, 3) := by decide +kernel
theorem dX5_about_71 : decode cX5_about 71 = .ok (.iload_n 3, 1) := by decide +kernel
theorem dX5_about_72 : decode cX5_about 72 = .ok (.iconst 2, 1) := by decide +kernel
theorem dX5_about_73 : decode cX5_about 73 = .ok (.if_icmp .ne 13, 3) := by decide +kernel
theorem dX5_about_76 : decode cX5_about 76 = .ok (.aload_n 0, 1) := by decide +kernel
theorem dX5_about_77 : decode cX5_about 77 = .ok (.getfield 16, 3) := by decide +kernel
theorem dX5_about_80 : decode cX5_about 80 = .ok (.iload 4, 2) := by decide +kernel
theorem dX5_about_82 : decode cX5_about 82 = .ok (.iaload, 1) := by decide +kernel
theorem dX5_about_83 : decode cX5_about 83 = .ok (.goto 9, 3) := by decide +kernel
theorem dX5_about_86 : decode cX5_about 86 = .ok (.aload_n 0, 1) := by decide +kernel
theorem dX5_about_87 : decode cX5_about 87 = .ok (.iload_n 1, 1) := by decide +kernel
theorem dX5_about_88 : decode cX5_about 88 = .ok (.iload_n 2, 1) := by decide +kernel
theorem dX5_about_89 : decode cX5_about 89 = .ok (.invokevirtual 108, 3) := by decide +kernel
theorem dX5_about_92 : decode cX5_about 92 = .ok (.ireturn, 1) := by decide +kernel
theorem dX5_isWhole_0 : decode cX5_isWhole 0 = .ok (.aload_n 0, 1) := by decide +kernel
theorem dX5_isWhole_1 : decode cX5_isWhole 1 = .ok (.iload_n 1, 1) := by decide +kernel
theorem dX5_isWhole_2 : decode cX5_isWhole 2 = .ok (.aload_n 0, 1) := by decide +kernel
theorem dX5_isWhole_3 : decode cX5_isWhole 3 = .ok (.getfield 19, 3) := by decide +kernel
theorem dX5_isWhole_6 : decode cX5_isWhole 6 = .ok (.iload_n 1, 1) := by decide +kernel
theorem dX5_isWhole_7 : decode cX5_isWhole 7 = .ok (.iaload, 1) := by decide +kernel
theorem dX5_isWhole_8 : decode cX5_isWhole 8 = .ok (.invokevirtual 108, 3) := by decide +kernel
theorem dX5_isWhole_11 : decode cX5_isWhole 11 = .ok (.ifCond .ne 7, 3) := by decide +kernel
theorem dX5_isWhole_14 : decode cX5_isWhole 14 = .ok (.iconst 1, 1) := by decide +kernel
theorem dX5_isWhole_15 : decode cX5_isWhole 15 = .ok (.goto 4, 3) := by decide +kernel
theorem dX5_isWhole_18 : decode cX5_isWhole 18 = .ok (.iconst 0, 1) := by decide +kernel
theorem dX5_isWhole_19 : decode cX5_isWhole 19 = .ok (.ireturn, 1) := by decide +kernel
theorem dX5_whole_0 : decode cX5_whole 0 = .ok (.aload_n 0, 1) := by decide +kernel
theorem dX5_whole_1 : decode cX5_whole 1 = .ok (.iload_n 1, 1) := by decide +kernel
theorem dX5_whole_2 : decode cX5_whole 2 = .ok (.invokevirtual 101, 3) := by decide +kernel
theorem dX5_whole_5 : decode cX5_whole 5 = .ok (.ifCond .eq 19, 3) := by decide +kernel
theorem dX5_whole_8 : decode cX5_whole 8 = .ok (.aload_n 0, 1) := by decide +kernel
theorem dX5_whole_9 : decode cX5_whole 9 = .ok (.iload_n 1, 1) := by decide +kernel
theorem dX5_whole_10 : decode cX5_whole 10 = .ok (.invokevirtual 113, 3) := by decide +kernel
theorem dX5_whole_13 : decode cX5_whole 13 = .ok (.ifCond .eq 7, 3) := by decide +kernel
theorem dX5_whole_16 : decode cX5_whole 16 = .ok (.iconst 1, 1) := by decide +kernel
theorem dX5_whole_17 : decode cX5_whole 17 = .ok (.goto 8, 3) := by decide +kernel
theorem dX5_whole_20 : decode cX5_whole 20 = .ok (.iconst 0, 1) := by decide +kernel
theorem dX5_whole_21 : decode cX5_whole 21 = .ok (.goto 4, 3) := by decide +kernel
theorem dX5_whole_24 : decode cX5_whole 24 = .ok (.iconst (-1), 1) := by decide +kernel
theorem dX5_whole_25 : decode cX5_whole 25 = .ok (.ireturn, 1) := by decide +kernel
theorem dX5_endOf_0 : decode cX5_endOf 0 = .ok (.iconst 1, 1) := by decide +kernel
theorem dX5_endOf_1 : decode cX5_endOf 1 = .ok (.istore_n 3, 1) := by decide +kernel
theorem dX5_endOf_2 : decode cX5_endOf 2 = .ok (.iload_n 2, 1) := by decide +kernel
theorem dX5_endOf_3 : decode cX5_endOf 3 = .ok (.istore 4, 2) := by decide +kernel
theorem dX5_endOf_5 : decode cX5_endOf 5 = .ok (.iload_n 3, 1) := by decide +kernel
theorem dX5_endOf_6 : decode cX5_endOf 6 = .ok (.ifCond .le 54, 3) := by decide +kernel
theorem dX5_endOf_9 : decode cX5_endOf 9 = .ok (.iinc 4 1, 3) := by decide +kernel
theorem dX5_endOf_12 : decode cX5_endOf 12 = .ok (.aload_n 0, 1) := by decide +kernel
theorem dX5_endOf_13 : decode cX5_endOf 13 = .ok (.getfield 9, 3) := by decide +kernel
theorem dX5_endOf_16 : decode cX5_endOf 16 = .ok (.bipush 20, 2) := by decide +kernel
theorem dX5_endOf_18 : decode cX5_endOf 18 = .ok (.iload_n 1, 1) := by decide +kernel
theorem dX5_endOf_19 : decode cX5_endOf 19 = .ok (.imul, 1) := by decide +kernel
theorem dX5_endOf_20 : decode cX5_endOf 20 = .ok (.iload 4, 2) := by decide +kernel
theorem dX5_endOf_22 : decode cX5_endOf 22 = .ok (.iadd, 1) := by decide +kernel
theorem dX5_endOf_23 : decode cX5_endOf 23 = .ok (.iaload, 1) := by decide +kernel
theorem dX5_endOf_24 : decode cX5_endOf 24 = .ok (.istore 5, 2) := by decide +kernel
theorem dX5_endOf_26 : decode cX5_endOf 26 = .ok (.iload_n 3, 1) := by decide +kernel
theorem dX5_endOf_27 : decode cX5_endOf 27 = .ok (.iload 5, 2) := by decide +kernel
theorem dX5_endOf_29 : decode cX5_endOf 29 = .ok (.iconst 4, 1) := by decide +kernel
theorem dX5_endOf_30 : decode cX5_endOf 30 = .ok (.if_icmp .eq 9, 3) := by decide +kernel
theorem dX5_endOf_33 : decode cX5_endOf 33 = .ok (.iload 5, 2) := by decide +kernel
theorem dX5_endOf_35 : decode cX5_endOf 35 = .ok (.iconst 5, 1) := by decide +kernel
theorem dX5_endOf_36 : decode cX5_endOf 36 = .ok (.if_icmp .ne 7, 3) := by decide +kernel
theorem dX5_endOf_39 : decode cX5_endOf 39 = .ok (.iconst 1, 1) := by decide +kernel
theorem dX5_endOf_40 : decode cX5_endOf 40 = .ok (.goto 15, 3) := by decide +kernel
theorem dX5_endOf_43 : decode cX5_endOf 43 = .ok (.iload 5, 2) := by decide +kernel
theorem dX5_endOf_45 : decode cX5_endOf 45 = .ok (.bipush 6, 2) := by decide +kernel
theorem dX5_endOf_47 : decode cX5_endOf 47 = .ok (.if_icmp .ne 7, 3) := by decide +kernel
theorem dX5_endOf_50 : decode cX5_endOf 50 = .ok (.iconst (-1), 1) := by decide +kernel
theorem dX5_endOf_51 : decode cX5_endOf 51 = .ok (.goto 4, 3) := by decide +kernel
theorem dX5_endOf_54 : decode cX5_endOf 54 = .ok (.iconst 0, 1) := by decide +kernel
theorem dX5_endOf_55 : decode cX5_endOf 55 = .ok (.iadd, 1) := by decide +kernel
theorem dX5_endOf_56 : decode cX5_endOf 56 = .ok (.istore_n 3, 1) := by decide +kernel
theorem dX5_endOf_57 : decode cX5_endOf 57 = .ok (.goto (-52), 3) := by decide +kernel
theorem dX5_endOf_60 : decode cX5_endOf 60 = .ok (.iload 4, 2) := by decide +kernel
theorem dX5_endOf_62 : decode cX5_endOf 62 = .ok (.ireturn, 1) := by decide +kernel
theorem dX5_beginOf_0 : decode cX5_beginOf 0 = .ok (.iconst 1, 1) := by decide +kernel
theorem dX5_beginOf_1 : decode cX5_beginOf 1 = .ok (.istore_n 3, 1) := by decide +kernel
theorem dX5_beginOf_2 : decode cX5_beginOf 2 = .ok (.iload_n 2, 1) := by decide +kernel
theorem dX5_beginOf_3 : decode cX5_beginOf 3 = .ok (.istore 4, 2) := by decide +kernel
theorem dX5_beginOf_5 : decode cX5_beginOf 5 = .ok (.iload_n 3, 1) := by decide +kernel
theorem dX5_beginOf_6 : decode cX5_beginOf 6 = .ok (.ifCond .le 54, 3) := by decide +kernel
theorem dX5_beginOf_9 : decode cX5_beginOf 9 = .ok (.iinc 4 (-1), 3) := by decide +kernel
theorem dX5_beginOf_12 : decode cX5_beginOf 12 = .ok (.aload_n 0, 1) := by decide +kernel
theorem dX5_beginOf_13 : decode cX5_beginOf 13 = .ok (.getfield 9, 3) := by decide +kernel
theorem dX5_beginOf_16 : decode cX5_beginOf 16 = .ok (.bipush 20, 2) := by decide +kernel
theorem dX5_beginOf_18 : decode cX5_beginOf 18 = .ok (.iload_n 1, 1) := by decide +kernel
theorem dX5_beginOf_19 : decode cX5_beginOf 19 = .ok (.imul, 1) := by decide +kernel
theorem dX5_beginOf_20 : decode cX5_beginOf 20 = .ok (.iload 4, 2) := by decide +kernel
theorem dX5_beginOf_22 : decode cX5_beginOf 22 = .ok (.iadd, 1) := by decide +kernel
theorem dX5_beginOf_23 : decode cX5_beginOf 23 = .ok (.iaload, 1) := by decide +kernel
theorem dX5_beginOf_24 : decode cX5_beginOf 24 = .ok (.istore 5, 2) := by decide +kernel
theorem dX5_beginOf_26 : decode cX5_beginOf 26 = .ok (.iload_n 3, 1) := by decide +kernel
theorem dX5_beginOf_27 : decode cX5_beginOf 27 = .ok (.iload 5, 2) := by decide +kernel
theorem dX5_beginOf_29 : decode cX5_beginOf 29 = .ok (.iconst 4, 1) := by decide +kernel
theorem dX5_beginOf_30 : decode cX5_beginOf 30 = .ok (.if_icmp .eq 9, 3) := by decide +kernel
theorem dX5_beginOf_33 : decode cX5_beginOf 33 = .ok (.iload 5, 2) := by decide +kernel
theorem dX5_beginOf_35 : decode cX5_beginOf 35 = .ok (.iconst 5, 1) := by decide +kernel
theorem dX5_beginOf_36 : decode cX5_beginOf 36 = .ok (.if_icmp .ne 7, 3) := by decide +kernel
theorem dX5_beginOf_39 : decode cX5_beginOf 39 = .ok (.iconst (-1), 1) := by decide +kernel
theorem dX5_beginOf_40 : decode cX5_beginOf 40 = .ok (.goto 15, 3) := by decide +kernel
theorem dX5_beginOf_43 : decode cX5_beginOf 43 = .ok (.iload 5, 2) := by decide +kernel
theorem dX5_beginOf_45 : decode cX5_beginOf 45 = .ok (.bipush 6, 2) := by decide +kernel
theorem dX5_beginOf_47 : decode cX5_beginOf 47 = .ok (.if_icmp .ne 7, 3) := by decide +kernel
theorem dX5_beginOf_50 : decode cX5_beginOf 50 = .ok (.iconst 1, 1) := by decide +kernel
theorem dX5_beginOf_51 : decode cX5_beginOf 51 = .ok (.goto 4, 3) := by decide +kernel
theorem dX5_beginOf_54 : decode cX5_beginOf 54 = .ok (.iconst 0, 1) := by decide +kernel
theorem dX5_beginOf_55 : decode cX5_beginOf 55 = .ok (.iadd, 1) := by decide +kernel
theorem dX5_beginOf_56 : decode cX5_beginOf 56 = .ok (.istore_n 3, 1) := by decide +kernel
theorem dX5_beginOf_57 : decode cX5_beginOf 57 = .ok (.goto (-52), 3) := by decide +kernel
theorem dX5_beginOf_60 : decode cX5_beginOf 60 = .ok (.iload 4, 2) := by decide +kernel
theorem dX5_beginOf_62 : decode cX5_beginOf 62 = .ok (.ireturn, 1) := by decide +kernel
theorem dX5_has_0 : decode cX5_has 0 = .ok (.iload_n 0, 1) := by decide +kernel
theorem dX5_has_1 : decode cX5_has 1 = .ok (.iload_n 1, 1) := by decide +kernel
theorem dX5_has_2 : decode cX5_has 2 = .ok (.iand, 1) := by decide +kernel
theorem dX5_has_3 : decode cX5_has 3 = .ok (.ifCond .eq 7, 3) := by decide +kernel
theorem dX5_has_6 : decode cX5_has 6 = .ok (.iconst 1, 1) := by decide +kernel
theorem dX5_has_7 : decode cX5_has 7 = .ok (.goto 4, 3) := by decide +kernel
theorem dX5_has_10 : decode cX5_has 10 = .ok (.iconst 0, 1) := by decide +kernel
theorem dX5_has_11 : decode cX5_has 11 = .ok (.ireturn, 1) := by decide +kernel
theorem dX5_runLines_0 : decode cX5_runLines 0 = .ok (.iconst 0, 1) := by decide +kernel
theorem dX5_runLines_1 : decode cX5_runLines 1 = .ok (.istore 6, 2) := by decide +kernel
theorem dX5_runLines_3 : decode cX5_runLines 3 = .ok (.iload 6, 2) := by decide +kernel
theorem dX5_runLines_5 : decode cX5_runLines 5 = .ok (.iconst 4, 1) := by decide +kernel
theorem dX5_runLines_6 : decode cX5_runLines 6 = .ok (.if_icmp .ge 26, 3) := by decide +kernel
theorem dX5_runLines_9 : decode cX5_runLines 9 = .ok (.aload_n 0, 1) := by decide +kernel
theorem dX5_runLines_10 : decode cX5_runLines 10 = .ok (.getfield 22, 3) := by decide +kernel
theorem dX5_runLines_13 : decode cX5_runLines 13 = .ok (.iload 6, 2) := by decide +kernel
theorem dX5_runLines_15 : decode cX5_runLines 15 = .ok (.iload 6, 2) := by decide +kernel
theorem dX5_runLines_17 : decode cX5_runLines 17 = .ok (.ifCond .ne 7, 3) := by decide +kernel
theorem dX5_runLines_20 : decode cX5_runLines 20 = .ok (.iload_n 2, 1) := by decide +kernel
theorem dX5_runLines_21 : decode cX5_runLines 21 = .ok (.goto 4, 3) := by decide +kernel
theorem dX5_runLines_24 : decode cX5_runLines 24 = .ok (.iconst 0, 1) := by decide +kernel
theorem dX5_runLines_25 : decode cX5_runLines 25 = .ok (.iastore, 1) := by decide +kernel
theorem dX5_runLines_26 : decode cX5_runLines 26 = .ok (.iinc 6 1, 3) := by decide +kernel
theorem dX5_runLines_29 : decode cX5_runLines 29 = .ok (.goto (-26), 3) := by decide +kernel
theorem dX5_runLines_32 : decode cX5_runLines 32 = .ok (.iconst 0, 1) := by decide +kernel
theorem dX5_runLines_33 : decode cX5_runLines 33 = .ok (.istore 6, 2) := by decide +kernel
theorem dX5_runLines_35 : decode cX5_runLines 35 = .ok (.iload 6, 2) := by decide +kernel
theorem dX5_runLines_37 : decode cX5_runLines 37 = .ok (.bipush 8, 2) := by decide +kernel
theorem dX5_runLines_39 : decode cX5_runLines 39 = .ok (.if_icmp .ge 17, 3) := by decide +kernel
theorem dX5_runLines_42 : decode cX5_runLines 42 = .ok (.aload_n 0, 1) := by decide +kernel
theorem dX5_runLines_43 : decode cX5_runLines 43 = .ok (.getfield 25, 3) := by decide +kernel
theorem dX5_runLines_46 : decode cX5_runLines 46 = .ok (.iload 6, 2) := by decide +kernel
theorem dX5_runLines_48 : decode cX5_runLines 48 = .ok (.iconst 0, 1) := by decide +kernel
theorem dX5_runLines_49 : decode cX5_runLines 49 = .ok (.iastore, 1) := by decide +kernel
theorem dX5_runLines_50 : decode cX5_runLines 50 = .ok (.iinc 6 1, 3) := by decide +kernel
theorem dX5_runLines_53 : decode cX5_runLines 53 = .ok (.goto (-18), 3) := by decide +kernel
theorem dX5_runLines_56 : decode cX5_runLines 56 = .ok (.aload_n 0, 1) := by decide +kernel
theorem dX5_runLines_57 : decode cX5_runLines 57 = .ok (.getfield 28, 3) := by decide +kernel
theorem dX5_runLines_60 : decode cX5_runLines 60 = .ok (.iconst 0, 1) := by decide +kernel
theorem dX5_runLines_61 : decode cX5_runLines 61 = .ok (.iconst 0, 1) := by decide +kernel
theorem dX5_runLines_62 : decode cX5_runLines 62 = .ok (.iastore, 1) := by decide +kernel
theorem dX5_runLines_63 : decode cX5_runLines 63 = .ok (.aload_n 0, 1) := by decide +kernel
theorem dX5_runLines_64 : decode cX5_runLines 64 = .ok (.getfield 28, 3) := by decide +kernel
theorem dX5_runLines_67 : decode cX5_runLines 67 = .ok (.iconst 1, 1) := by decide +kernel
theorem dX5_runLines_68 : decode cX5_runLines 68 = .ok (.iconst 1, 1) := by decide +kernel
theorem dX5_runLines_69 : decode cX5_runLines 69 = .ok (.iastore, 1) := by decide +kernel
theorem dX5_runLines_70 : decode cX5_runLines 70 = .ok (.aload_n 0, 1) := by decide +kernel
theorem dX5_runLines_71 : decode cX5_runLines 71 = .ok (.iconst 0, 1) := by decide +kernel
theorem dX5_runLines_72 : decode cX5_runLines 72 = .ok (.putfield 116, 3) := by decide +kernel
theorem dX5_runLines_75 : decode cX5_runLines 75 = .ok (.aload_n 0, 1) := by decide +kernel
theorem dX5_runLines_76 : decode cX5_runLines 76 = .ok (.iconst 0, 1) := by decide +kernel
theorem dX5_runLines_77 : decode cX5_runLines 77 = .ok (.putfield 119, 3) := by decide +kernel
theorem dX5_runLines_80 : decode cX5_runLines 80 = .ok (.iconst 0, 1) := by decide +kernel
theorem dX5_runLines_81 : decode cX5_runLines 81 = .ok (.istore 6, 2) := by decide +kernel
theorem dX5_runLines_83 : decode cX5_runLines 83 = .ok (.iload 6, 2) := by decide +kernel
theorem dX5_runLines_85 : decode cX5_runLines 85 = .ok (.bipush 20, 2) := by decide +kernel
theorem dX5_runLines_87 : decode cX5_runLines 87 = .ok (.if_icmp .ge 17, 3) := by decide +kernel
theorem dX5_runLines_90 : decode cX5_runLines 90 = .ok (.aload_n 0, 1) := by decide +kernel
theorem dX5_runLines_91 : decode cX5_runLines 91 = .ok (.getfield 35, 3) := by decide +kernel
theorem dX5_runLines_94 : decode cX5_runLines 94 = .ok (.iload 6, 2) := by decide +kernel
theorem dX5_runLines_96 : decode cX5_runLines 96 = .ok (.iconst 0, 1) := by decide +kernel
theorem dX5_runLines_97 : decode cX5_runLines 97 = .ok (.iastore, 1) := by decide +kernel
theorem dX5_runLines_98 : decode cX5_runLines 98 = .ok (.iinc 6 1, 3) := by decide +kernel
theorem dX5_runLines_101 : decode cX5_runLines 101 = .ok (.goto (-18), 3) := by decide +kernel
theorem dX5_runLines_104 : decode cX5_runLines 104 = .ok (.iconst 0, 1) := by decide +kernel
theorem dX5_runLines_105 : decode cX5_runLines 105 = .ok (.istore 6, 2) := by decide +kernel
theorem dX5_runLines_107 : decode cX5_runLines 107 = .ok (.iload 6, 2) := by decide +kernel
theorem dX5_runLines_109 : decode cX5_runLines 109 = .ok (.aload_n 0, 1) := by decide +kernel
theorem dX5_runLines_110 : decode cX5_runLines 110 = .ok (.getfield 19, 3) := by decide +kernel
theorem dX5_runLines_113 : decode cX5_runLines 113 = .ok (.iload_n 1, 1) := by decide +kernel
theorem dX5_runLines_114 : decode cX5_runLines 114 = .ok (.iaload, 1) := by decide +kernel
theorem dX5_runLines_115 : decode cX5_runLines 115 = .ok (.if_icmp .ge 86, 3) := by decide +kernel
theorem dX5_runLines_118 : decode cX5_runLines 118 = .ok (.aload_n 0, 1) := by decide +kernel
theorem dX5_runLines_119 : decode cX5_runLines 119 = .ok (.getfield 119, 3) := by decide +kernel
theorem dX5_runLines_122 : decode cX5_runLines 122 = .ok (.ifCond .ne 79, 3) := by decide +kernel
theorem dX5_runLines_125 : decode cX5_runLines 125 = .ok (.aload_n 0, 1) := by decide +kernel
theorem dX5_runLines_126 : decode cX5_runLines 126 = .ok (.getfield 116, 3) := by decide +kernel
theorem dX5_runLines_129 : decode cX5_runLines 129 = .ok (.sipush 300, 3) := by decide +kernel
theorem dX5_runLines_132 : decode cX5_runLines 132 = .ok (.if_icmp .ne 11, 3) := by decide +kernel
theorem dX5_runLines_135 : decode cX5_runLines 135 = .ok (.aload_n 0, 1) := by decide +kernel
theorem dX5_runLines_136 : decode cX5_runLines 136 = .ok (.iconst 1, 1) := by decide +kernel
theorem dX5_runLines_137 : decode cX5_runLines 137 = .ok (.putfield 119, 3) := by decide +kernel
theorem dX5_runLines_140 : decode cX5_runLines 140 = .ok (.goto (-33), 3) := by decide +kernel
theorem dX5_runLines_143 : decode cX5_runLines 143 = .ok (.aload_n 0, 1) := by decide +kernel
theorem dX5_runLines_144 : decode cX5_runLines 144 = .ok (.dup, 1) := by decide +kernel
theorem dX5_runLines_145 : decode cX5_runLines 145 = .ok (.getfield 116, 3) := by decide +kernel
theorem dX5_runLines_148 : decode cX5_runLines 148 = .ok (.iconst 1, 1) := by decide +kernel
theorem dX5_runLines_149 : decode cX5_runLines 149 = .ok (.iadd, 1) := by decide +kernel
theorem dX5_runLines_150 : decode cX5_runLines 150 = .ok (.putfield 116, 3) := by decide +kernel
theorem dX5_runLines_153 : decode cX5_runLines 153 = .ok (.aload_n 0, 1) := by decide +kernel
theorem dX5_runLines_154 : decode cX5_runLines 154 = .ok (.getfield 35, 3) := by decide +kernel
theorem dX5_runLines_157 : decode cX5_runLines 157 = .ok (.iload 6, 2) := by decide +kernel
theorem dX5_runLines_159 : decode cX5_runLines 159 = .ok (.dup2, 1) := by decide +kernel
theorem dX5_runLines_160 : decode cX5_runLines 160 = .ok (.iaload, 1) := by decide +kernel
theorem dX5_runLines_161 : decode cX5_runLines 161 = .ok (.iconst 1, 1) := by decide +kernel
theorem dX5_runLines_162 : decode cX5_runLines 162 = .ok (.iadd, 1) := by decide +kernel
theorem dX5_runLines_163 : decode cX5_runLines 163 = .ok (.iastore, 1) := by decide +kernel
theorem dX5_runLines_164 : decode cX5_runLines 164 = .ok (.aload_n 0, 1) := by decide +kernel
theorem dX5_runLines_165 : decode cX5_runLines 165 = .ok (.iload_n 1, 1) := by decide +kernel
theorem dX5_runLines_166 : decode cX5_runLines 166 = .ok (.iload 6, 2) := by decide +kernel
theorem dX5_runLines_168 : decode cX5_runLines 168 = .ok (.iload_n 3, 1) := by decide +kernel
theorem dX5_runLines_169 : decode cX5_runLines 169 = .ok (.iload 6, 2) := by decide +kernel
theorem dX5_runLines_171 : decode cX5_runLines 171 = .ok (.iload 4, 2) := by decide +kernel
theorem dX5_runLines_173 : decode cX5_runLines 173 = .ok (.if_icmp .ne 8, 3) := by decide +kernel
theorem dX5_runLines_176 : decode cX5_runLines 176 = .ok (.iload 5, 2) := by decide +kernel
theorem dX5_runLines_178 : decode cX5_runLines 178 = .ok (.goto 15, 3) := by decide +kernel
theorem dX5_runLines_181 : decode cX5_runLines 181 = .ok (.aload_n 0, 1) := by decide +kernel
theorem dX5_runLines_182 : decode cX5_runLines 182 = .ok (.getfield 16, 3) := by decide +kernel
theorem dX5_runLines_185 : decode cX5_runLines 185 = .ok (.bipush 20, 2) := by decide +kernel
theorem dX5_runLines_187 : decode cX5_runLines 187 = .ok (.iload_n 1, 1) := by decide +kernel
theorem dX5_runLines_188 : decode cX5_runLines 188 = .ok (.imul, 1) := by decide +kernel
theorem dX5_runLines_189 : decode cX5_runLines 189 = .ok (.iload 6, 2) := by decide +kernel
theorem dX5_runLines_191 : decode cX5_runLines 191 = .ok (.iadd, 1) := by decide +kernel
theorem dX5_runLines_192 : decode cX5_runLines 192 = .ok (.iaload, 1) := by decide +kernel
theorem dX5_runLines_193 : decode cX5_runLines 193 = .ok (.invokevirtual 123, 3) := by decide +kernel
theorem dX5_runLines_196 : decode cX5_runLines 196 = .ok (.istore 6, 2) := by decide +kernel
theorem dX5_runLines_198 : decode cX5_runLines 198 = .ok (.goto (-91), 3) := by decide +kernel
theorem dX5_runLines_201 : decode cX5_runLines 201 = .ok (.return_, 1) := by decide +kernel
theorem dX5_doLine_0 : decode cX5_doLine 0 = .ok (.aload_n 0, 1) := by decide +kernel
theorem dX5_doLine_1 : decode cX5_doLine 1 = .ok (.getfield 9, 3) := by decide +kernel
theorem dX5_doLine_4 : decode cX5_doLine 4 = .ok (.bipush 20, 2) := by decide +kernel
theorem dX5_doLine_6 : decode cX5_doLine 6 = .ok (.iload_n 1, 1) := by decide +kernel
theorem dX5_doLine_7 : decode cX5_doLine 7 = .ok (.imul, 1) := by decide +kernel
theorem dX5_doLine_8 : decode cX5_doLine 8 = .ok (.iload_n 2, 1) := by decide +kernel
theorem dX5_doLine_9 : decode cX5_doLine 9 = .ok (.iadd, 1) := by decide +kernel
theorem dX5_doLine_10 : decode cX5_doLine 10 = .ok (.iaload, 1) := by decide +kernel
theorem dX5_doLine_11 : decode cX5_doLine 11 = .ok (.istore 5, 2) := by decide +kernel
theorem dX5_doLine_13 : decode cX5_doLine 13 = .ok (.aload_n 0, 1) := by decide +kernel
theorem dX5_doLine_14 : decode cX5_doLine 14 = .ok (.getfield 13, 3) := by decide +kernel
theorem dX5_doLine_17 : decode cX5_doLine 17 = .ok (.bipush 20, 2) := by decide +kernel
theorem dX5_doLine_19 : decode cX5_doLine 19 = .ok (.iload_n 1, 1) := by decide +kernel
theorem dX5_doLine_20 : decode cX5_doLine 20 = .ok (.imul, 1) := by decide +kernel
theorem dX5_doLine_21 : decode cX5_doLine 21 = .ok (.iload_n 2, 1) := by decide +kernel
theorem dX5_doLine_22 : decode cX5_doLine 22 = .ok (.iadd, 1) := by decide +kernel
theorem dX5_doLine_23 : decode cX5_doLine 23 = .ok (.iaload, 1) := by decide +kernel
theorem dX5_doLine_24 : decode cX5_doLine 24 = .ok (.istore 6, 2) := by decide +kernel
theorem dX5_doLine_26 : decode cX5_doLine 26 = .ok (.iload 5, 2) := by decide +kernel
theorem dX5_doLine_28 : decode cX5_doLine 28 = .ok (.tableswitch 329 0 6 #[44, 57, 100, 126, 179, 252, 322], 44) := by decide +kernel
theorem dX5_doLine_72 : decode cX5_doLine 72 = .ok (.aload_n 0, 1) := by decide +kernel
theorem dX5_doLine_73 : decode cX5_doLine 73 = .ok (.getfield 22, 3) := by decide +kernel
theorem dX5_doLine_76 : decode cX5_doLine 76 = .ok (.iload 6, 2) := by decide +kernel
theorem dX5_doLine_78 : decode cX5_doLine 78 = .ok (.iload 4, 2) := by decide +kernel
theorem dX5_doLine_80 : decode cX5_doLine 80 = .ok (.iastore, 1) := by decide +kernel
theorem dX5_doLine_81 : decode cX5_doLine 81 = .ok (.iload_n 2, 1) := by decide +kernel
theorem dX5_doLine_82 : decode cX5_doLine 82 = .ok (.iconst 1, 1) := by decide +kernel
theorem dX5_doLine_83 : decode cX5_doLine 83 = .ok (.iadd, 1) := by decide +kernel
theorem dX5_doLine_84 : decode cX5_doLine 84 = .ok (.ireturn, 1) := by decide +kernel
theorem dX5_doLine_85 : decode cX5_doLine 85 = .ok (.iload_n 3, 1) := by decide +kernel
theorem dX5_doLine_86 : decode cX5_doLine 86 = .ok (.iconst 4, 1) := by decide +kernel
theorem dX5_doLine_87 : decode cX5_doLine 87 = .ok (.invokestatic 127, 3) := by decide +kernel
theorem dX5_doLine_90 : decode cX5_doLine 90 = .ok (.ifCond .eq 20, 3) := by decide +kernel
theorem dX5_doLine_93 : decode cX5_doLine 93 = .ok (.aload_n 0, 1) := by decide +kernel
theorem dX5_doLine_94 : decode cX5_doLine 94 = .ok (.getfield 22, 3) := by decide +kernel
theorem dX5_doLine_97 : decode cX5_doLine 97 = .ok (.iload 4, 2) := by decide +kernel
theorem dX5_doLine_99 : decode cX5_doLine 99 = .ok (.aload_n 0, 1) := by decide +kernel
theorem dX5_doLine_100 : decode cX5_doLine 100 = .ok (.getfield 22, 3) := by decide +kernel
theorem dX5_doLine_103 : decode cX5_doLine 103 = .ok (.iload 6, 2) := by decide +kernel
theorem dX5_doLine_105 : decode cX5_doLine 105 = .ok (.iaload, 1) := by decide +kernel
theorem dX5_doLine_106 : decode cX5_doLine 106 = .ok (.iastore, 1) := by decide +kernel
theorem dX5_doLine_107 : decode cX5_doLine 107 = .ok (.goto 17, 3) := by decide +kernel
theorem dX5_doLine_110 : decode cX5_doLine 110 = .ok (.aload_n 0, 1) := by decide +kernel
theorem dX5_doLine_111 : decode cX5_doLine 111 = .ok (.getfield 22, 3) := by decide +kernel
theorem dX5_doLine_114 : decode cX5_doLine 114 = .ok (.iload 6, 2) := by decide +kernel
theorem dX5_doLine_116 : decode cX5_doLine 116 = .ok (.aload_n 0, 1) := by decide +kernel
theorem dX5_doLine_117 : decode cX5_doLine 117 = .ok (.getfield 22, 3) := by decide +kernel
theorem dX5_doLine_120 : decode cX5_doLine 120 = .ok (.iload 4, 2) := by decide +kernel
theorem dX5_doLine_122 : decode cX5_doLine 122 = .ok (.iaload, 1) := by decide +kernel
theorem dX5_doLine_123 : decode cX5_doLine 123 = .ok (.iastore, 1) := by decide +kernel
theorem dX5_doLine_124 : decode cX5_doLine 124 = .ok (.iload_n 2, 1) := by decide +kernel
theorem dX5_doLine_125 : decode cX5_doLine 125 = .ok (.iconst 1, 1) := by decide +kernel
theorem dX5_doLine_126 : decode cX5_doLine 126 = .ok (.iadd, 1) := by decide +kernel
theorem dX5_doLine_127 : decode cX5_doLine 127 = .ok (.ireturn, 1) := by decide +kernel
theorem dX5_doLine_128 : decode cX5_doLine 128 = .ok (.aload_n 0, 1) := by decide +kernel
theorem dX5_doLine_129 : decode cX5_doLine 129 = .ok (.getfield 22, 3) := by decide +kernel
theorem dX5_doLine_132 : decode cX5_doLine 132 = .ok (.iload 6, 2) := by decide +kernel
theorem dX5_doLine_134 : decode cX5_doLine 134 = .ok (.aload_n 0, 1) := by decide +kernel
theorem dX5_doLine_135 : decode cX5_doLine 135 = .ok (.getfield 22, 3) := by decide +kernel
theorem dX5_doLine_138 : decode cX5_doLine 138 = .ok (.iload 6, 2) := by decide +kernel
theorem dX5_doLine_140 : decode cX5_doLine 140 = .ok (.iaload, 1) := by decide +kernel
theorem dX5_doLine_141 : decode cX5_doLine 141 = .ok (.aload_n 0, 1) := by decide +kernel
theorem dX5_doLine_142 : decode cX5_doLine 142 = .ok (.getfield 22, 3) := by decide +kernel
theorem dX5_doLine_145 : decode cX5_doLine 145 = .ok (.iload 4, 2) := by decide +kernel
theorem dX5_doLine_147 : decode cX5_doLine 147 = .ok (.iaload, 1) := by decide +kernel
theorem dX5_doLine_148 : decode cX5_doLine 148 = .ok (.iadd, 1) := by decide +kernel
theorem dX5_doLine_149 : decode cX5_doLine 149 = .ok (.iastore, 1) := by decide +kernel
theorem dX5_doLine_150 : decode cX5_doLine 150 = .ok (.iload_n 2, 1) := by decide +kernel
theorem dX5_doLine_151 : decode cX5_doLine 151 = .ok (.iconst 1, 1) := by decide +kernel
theorem dX5_doLine_152 : decode cX5_doLine 152 = .ok (.iadd, 1) := by decide +kernel
theorem dX5_doLine_153 : decode cX5_doLine 153 = .ok (.ireturn, 1) := by decide +kernel
theorem dX5_doLine_154 : decode cX5_doLine 154 = .ok (.aload_n 0, 1) := by decide +kernel
theorem dX5_doLine_155 : decode cX5_doLine 155 = .ok (.getfield 22, 3) := by decide +kernel
theorem dX5_doLine_158 : decode cX5_doLine 158 = .ok (.iload 6, 2) := by decide +kernel
theorem dX5_doLine_160 : decode cX5_doLine 160 = .ok (.iload_n 3, 1) := by decide +kernel
theorem dX5_doLine_161 : decode cX5_doLine 161 = .ok (.bipush 16, 2) := by decide +kernel
theorem dX5_doLine_163 : decode cX5_doLine 163 = .ok (.invokestatic 127, 3) := by decide +kernel
theorem dX5_doLine_166 : decode cX5_doLine 166 = .ok (.ifCond .eq 21, 3) := by decide +kernel
theorem dX5_doLine_169 : decode cX5_doLine 169 = .ok (.aload_n 0, 1) := by decide +kernel
theorem dX5_doLine_170 : decode cX5_doLine 170 = .ok (.getfield 22, 3) := by decide +kernel
theorem dX5_doLine_173 : decode cX5_doLine 173 = .ok (.iload 4, 2) := by decide +kernel
theorem dX5_doLine_175 : decode cX5_doLine 175 = .ok (.iaload, 1) := by decide +kernel
theorem dX5_doLine_176 : decode cX5_doLine 176 = .ok (.aload_n 0, 1) := by decide +kernel
theorem dX5_doLine_177 : decode cX5_doLine 177 = .ok (.getfield 22, 3) := by decide +kernel
theorem dX5_doLine_180 : decode cX5_doLine 180 = .ok (.iload 6, 2) := by decide +kernel
theorem dX5_doLine_182 : decode cX5_doLine 182 = .ok (.iaload, 1) := by decide +kernel
theorem dX5_doLine_183 : decode cX5_doLine 183 = .ok (.isub, 1) := by decide +kernel
theorem dX5_doLine_184 : decode cX5_doLine 184 = .ok (.goto 18, 3) := by decide +kernel
theorem dX5_doLine_187 : decode cX5_doLine 187 = .ok (.aload_n 0, 1) := by decide +kernel
theorem dX5_doLine_188 : decode cX5_doLine 188 = .ok (.getfield 22, 3) := by decide +kernel
theorem dX5_doLine_191 : decode cX5_doLine 191 = .ok (.iload 6, 2) := by decide +kernel
theorem dX5_doLine_193 : decode cX5_doLine 193 = .ok (.iaload, 1) := by decide +kernel
theorem dX5_doLine_194 : decode cX5_doLine 194 = .ok (.aload_n 0, 1) := by decide +kernel
theorem dX5_doLine_195 : decode cX5_doLine 195 = .ok (.getfield 22, 3) := by decide +kernel
theorem dX5_doLine_198 : decode cX5_doLine 198 = .ok (.iload 4, 2) := by decide +kernel
theorem dX5_doLine_200 : decode cX5_doLine 200 = .ok (.iaload, 1) := by decide +kernel
theorem dX5_doLine_201 : decode cX5_doLine 201 = .ok (.isub, 1) := by decide +kernel
theorem dX5_doLine_202 : decode cX5_doLine 202 = .ok (.iastore, 1) := by decide +kernel
theorem dX5_doLine_203 : decode cX5_doLine 203 = .ok (.iload_n 2, 1) := by decide +kernel
theorem dX5_doLine_204 : decode cX5_doLine 204 = .ok (.iconst 1, 1) := by decide +kernel
theorem dX5_doLine_205 : decode cX5_doLine 205 = .ok (.iadd, 1) := by decide +kernel
theorem dX5_doLine_206 : decode cX5_doLine 206 = .ok (.ireturn, 1) := by decide +kernel
theorem dX5_doLine_207 : decode cX5_doLine 207 = .ok (.aload_n 0, 1) := by decide +kernel
theorem dX5_doLine_208 : decode cX5_doLine 208 = .ok (.getfield 31, 3) := by decide +kernel
theorem dX5_doLine_211 : decode cX5_doLine 211 = .ok (.iload_n 2, 1) := by decide +kernel
theorem dX5_doLine_212 : decode cX5_doLine 212 = .ok (.aload_n 0, 1) := by decide +kernel
theorem dX5_doLine_213 : decode cX5_doLine 213 = .ok (.getfield 22, 3) := by decide +kernel
theorem dX5_doLine_216 : decode cX5_doLine 216 = .ok (.iload 6, 2) := by decide +kernel
theorem dX5_doLine_218 : decode cX5_doLine 218 = .ok (.iaload, 1) := by decide +kernel
theorem dX5_doLine_219 : decode cX5_doLine 219 = .ok (.i2l, 1) := by decide +kernel
theorem dX5_doLine_220 : decode cX5_doLine 220 = .ok (.lastore, 1) := by decide +kernel
theorem dX5_doLine_221 : decode cX5_doLine 221 = .ok (.aload_n 0, 1) := by decide +kernel
theorem dX5_doLine_222 : decode cX5_doLine 222 = .ok (.getfield 31, 3) := by decide +kernel
theorem dX5_doLine_225 : decode cX5_doLine 225 = .ok (.iload_n 2, 1) := by decide +kernel
theorem dX5_doLine_226 : decode cX5_doLine 226 = .ok (.dup2, 1) := by decide +kernel
theorem dX5_doLine_227 : decode cX5_doLine 227 = .ok (.laload, 1) := by decide +kernel
theorem dX5_doLine_228 : decode cX5_doLine 228 = .ok (.aload_n 0, 1) := by decide +kernel
theorem dX5_doLine_229 : decode cX5_doLine 229 = .ok (.getfield 31, 3) := by decide +kernel
theorem dX5_doLine_232 : decode cX5_doLine 232 = .ok (.iload_n 2, 1) := by decide +kernel
theorem dX5_doLine_233 : decode cX5_doLine 233 = .ok (.laload, 1) := by decide +kernel
theorem dX5_doLine_234 : decode cX5_doLine 234 = .ok (.lconst 0, 1) := by decide +kernel
theorem dX5_doLine_235 : decode cX5_doLine 235 = .ok (.lcmp, 1) := by decide +kernel
theorem dX5_doLine_236 : decode cX5_doLine 236 = .ok (.ifCond .le 15, 3) := by decide +kernel
theorem dX5_doLine_239 : decode cX5_doLine 239 = .ok (.iload_n 3, 1) := by decide +kernel
theorem dX5_doLine_240 : decode cX5_doLine 240 = .ok (.iconst 2, 1) := by decide +kernel
theorem dX5_doLine_241 : decode cX5_doLine 241 = .ok (.invokestatic 127, 3) := by decide +kernel
theorem dX5_doLine_244 : decode cX5_doLine 244 = .ok (.ifCond .eq 7, 3) := by decide +kernel
theorem dX5_doLine_247 : decode cX5_doLine 247 = .ok (.lconst 1, 1) := by decide +kernel
theorem dX5_doLine_248 : decode cX5_doLine 248 = .ok (.goto 4, 3) := by decide +kernel
theorem dX5_doLine_251 : decode cX5_doLine 251 = .ok (.lconst 0, 1) := by decide +kernel
theorem dX5_doLine_252 : decode cX5_doLine 252 = .ok (.ladd, 1) := by decide +kernel
theorem dX5_doLine_253 : decode cX5_doLine 253 = .ok (.lastore, 1) := by decide +kernel
theorem dX5_doLine_254 : decode cX5_doLine 254 = .ok (.aload_n 0, 1) := by decide +kernel
theorem dX5_doLine_255 : decode cX5_doLine 255 = .ok (.getfield 31, 3) := by decide +kernel
theorem dX5_doLine_258 : decode cX5_doLine 258 = .ok (.iload_n 2, 1) := by decide +kernel
theorem dX5_doLine_259 : decode cX5_doLine 259 = .ok (.laload, 1) := by decide +kernel
theorem dX5_doLine_260 : decode cX5_doLine 260 = .ok (.lconst 0, 1) := by decide +kernel
theorem dX5_doLine_261 : decode cX5_doLine 261 = .ok (.lcmp, 1) := by decide +kernel
theorem dX5_doLine_262 : decode cX5_doLine 262 = .ok (.ifCond .le 9, 3) := by decide +kernel
theorem dX5_doLine_265 : decode cX5_doLine 265 = .ok (.iload_n 2, 1) := by decide +kernel
theorem dX5_doLine_266 : decode cX5_doLine 266 = .ok (.iconst 1, 1) := by decide +kernel
theorem dX5_doLine_267 : decode cX5_doLine 267 = .ok (.iadd, 1) := by decide +kernel
theorem dX5_doLine_268 : decode cX5_doLine 268 = .ok (.goto 11, 3) := by decide +kernel
theorem dX5_doLine_271 : decode cX5_doLine 271 = .ok (.aload_n 0, 1) := by decide +kernel
theorem dX5_doLine_272 : decode cX5_doLine 272 = .ok (.iload_n 1, 1) := by decide +kernel
theorem dX5_doLine_273 : decode cX5_doLine 273 = .ok (.iload_n 2, 1) := by decide +kernel
theorem dX5_doLine_274 : decode cX5_doLine 274 = .ok (.invokevirtual 131, 3) := by decide +kernel
theorem dX5_doLine_277 : decode cX5_doLine 277 = .ok (.iconst 1, 1) := by decide +kernel
theorem dX5_doLine_278 : decode cX5_doLine 278 = .ok (.iadd, 1) := by decide +kernel
theorem dX5_doLine_279 : decode cX5_doLine 279 = .ok (.ireturn, 1) := by decide +kernel
theorem dX5_doLine_280 : decode cX5_doLine 280 = .ok (.aload_n 0, 1) := by decide +kernel
theorem dX5_doLine_281 : decode cX5_doLine 281 = .ok (.getfield 22, 3) := by decide +kernel
theorem dX5_doLine_284 : decode cX5_doLine 284 = .ok (.iload 6, 2) := by decide +kernel
theorem dX5_doLine_286 : decode cX5_doLine 286 = .ok (.iaload, 1) := by decide +kernel
theorem dX5_doLine_287 : decode cX5_doLine 287 = .ok (.aload_n 0, 1) := by decide +kernel
theorem dX5_doLine_288 : decode cX5_doLine 288 = .ok (.getfield 22, 3) := by decide +kernel
theorem dX5_doLine_291 : decode cX5_doLine 291 = .ok (.iload 4, 2) := by decide +kernel
theorem dX5_doLine_293 : decode cX5_doLine 293 = .ok (.iaload, 1) := by decide +kernel
theorem dX5_doLine_294 : decode cX5_doLine 294 = .ok (.if_icmp .lt 29, 3) := by decide +kernel
theorem dX5_doLine_297 : decode cX5_doLine 297 = .ok (.iload_n 3, 1) := by decide +kernel
theorem dX5_doLine_298 : decode cX5_doLine 298 = .ok (.bipush 8, 2) := by decide +kernel
theorem dX5_doLine_300 : decode cX5_doLine 300 = .ok (.invokestatic 127, 3) := by decide +kernel
theorem dX5_doLine_303 : decode cX5_doLine 303 = .ok (.ifCond .eq 24, 3) := by decide +kernel
theorem dX5_doLine_306 : decode cX5_doLine 306 = .ok (.aload_n 0, 1) := by decide +kernel
theorem dX5_doLine_307 : decode cX5_doLine 307 = .ok (.getfield 22, 3) := by decide +kernel
theorem dX5_doLine_310 : decode cX5_doLine 310 = .ok (.iload 6, 2) := by decide +kernel
theorem dX5_doLine_312 : decode cX5_doLine 312 = .ok (.iaload, 1) := by decide +kernel
theorem dX5_doLine_313 : decode cX5_doLine 313 = .ok (.aload_n 0, 1) := by decide +kernel
theorem dX5_doLine_314 : decode cX5_doLine 314 = .ok (.getfield 22, 3) := by decide +kernel
theorem dX5_doLine_317 : decode cX5_doLine 317 = .ok (.iload 4, 2) := by decide +kernel
theorem dX5_doLine_319 : decode cX5_doLine 319 = .ok (.iaload, 1) := by decide +kernel
theorem dX5_doLine_320 : decode cX5_doLine 320 = .ok (.if_icmp .ne 7, 3) := by decide +kernel
theorem dX5_doLine_323 : decode cX5_doLine 323 = .ok (.iconst 1, 1) := by decide +kernel
theorem dX5_doLine_324 : decode cX5_doLine 324 = .ok (.goto 4, 3) := by decide +kernel
theorem dX5_doLine_327 : decode cX5_doLine 327 = .ok (.iconst 0, 1) := by decide +kernel
theorem dX5_doLine_328 : decode cX5_doLine 328 = .ok (.istore 7, 2) := by decide +kernel
theorem dX5_doLine_330 : decode cX5_doLine 330 = .ok (.iload 7, 2) := by decide +kernel
theorem dX5_doLine_332 : decode cX5_doLine 332 = .ok (.ifCond .eq 9, 3) := by decide +kernel
theorem dX5_doLine_335 : decode cX5_doLine 335 = .ok (.iload_n 2, 1) := by decide +kernel
theorem dX5_doLine_336 : decode cX5_doLine 336 = .ok (.iconst 1, 1) := by decide +kernel
theorem dX5_doLine_337 : decode cX5_doLine 337 = .ok (.iadd, 1) := by decide +kernel
theorem dX5_doLine_338 : decode cX5_doLine 338 = .ok (.goto 11, 3) := by decide +kernel
theorem dX5_doLine_341 : decode cX5_doLine 341 = .ok (.aload_n 0, 1) := by decide +kernel
theorem dX5_doLine_342 : decode cX5_doLine 342 = .ok (.iload_n 1, 1) := by decide +kernel
theorem dX5_doLine_343 : decode cX5_doLine 343 = .ok (.iload_n 2, 1) := by decide +kernel
theorem dX5_doLine_344 : decode cX5_doLine 344 = .ok (.invokevirtual 131, 3) := by decide +kernel
theorem dX5_doLine_347 : decode cX5_doLine 347 = .ok (.iconst 1, 1) := by decide +kernel
theorem dX5_doLine_348 : decode cX5_doLine 348 = .ok (.iadd, 1) := by decide +kernel
theorem dX5_doLine_349 : decode cX5_doLine 349 = .ok (.ireturn, 1) := by decide +kernel
theorem dX5_doLine_350 : decode cX5_doLine 350 = .ok (.aload_n 0, 1) := by decide +kernel
theorem dX5_doLine_351 : decode cX5_doLine 351 = .ok (.iload_n 1, 1) := by decide +kernel
theorem dX5_doLine_352 : decode cX5_doLine 352 = .ok (.iload_n 2, 1) := by decide +kernel
theorem dX5_doLine_353 : decode cX5_doLine 353 = .ok (.invokevirtual 134, 3) := by decide +kernel
theorem dX5_doLine_356 : decode cX5_doLine 356 = .ok (.ireturn, 1) := by decide +kernel
theorem dX5_doLine_357 : decode cX5_doLine 357 = .ok (.aload_n 0, 1) := by decide +kernel
theorem dX5_doLine_358 : decode cX5_doLine 358 = .ok (.iload 5, 2) := by decide +kernel
theorem dX5_doLine_360 : decode cX5_doLine 360 = .ok (.iload 6, 2) := by decide +kernel
theorem dX5_doLine_362 : decode cX5_doLine 362 = .ok (.iload 4, 2) := by decide +kernel
theorem dX5_doLine_364 : decode cX5_doLine 364 = .ok (.iload_n 3, 1) := by decide +kernel
theorem dX5_doLine_365 : decode cX5_doLine 365 = .ok (.invokevirtual 137, 3) := by decide +kernel
theorem dX5_doLine_368 : decode cX5_doLine 368 = .ok (.iload_n 2, 1) := by decide +kernel
theorem dX5_doLine_369 : decode cX5_doLine 369 = .ok (.iconst 1, 1) := by decide +kernel
theorem dX5_doLine_370 : decode cX5_doLine 370 = .ok (.iadd, 1) := by decide +kernel
theorem dX5_doLine_371 : decode cX5_doLine 371 = .ok (.ireturn, 1) := by decide +kernel
theorem dX5_ended_0 : decode cX5_ended 0 = .ok (.aload_n 0, 1) := by decide +kernel
theorem dX5_ended_1 : decode cX5_ended 1 = .ok (.iload_n 1, 1) := by decide +kernel
theorem dX5_ended_2 : decode cX5_ended 2 = .ok (.iload_n 2, 1) := by decide +kernel
theorem dX5_ended_3 : decode cX5_ended 3 = .ok (.invokevirtual 141, 3) := by decide +kernel
theorem dX5_ended_6 : decode cX5_ended 6 = .ok (.istore_n 3, 1) := by decide +kernel
theorem dX5_ended_7 : decode cX5_ended 7 = .ok (.aload_n 0, 1) := by decide +kernel
theorem dX5_ended_8 : decode cX5_ended 8 = .ok (.getfield 9, 3) := by decide +kernel
theorem dX5_ended_11 : decode cX5_ended 11 = .ok (.bipush 20, 2) := by decide +kernel
theorem dX5_ended_13 : decode cX5_ended 13 = .ok (.iload_n 1, 1) := by decide +kernel
theorem dX5_ended_14 : decode cX5_ended 14 = .ok (.imul, 1) := by decide +kernel
theorem dX5_ended_15 : decode cX5_ended 15 = .ok (.iload_n 3, 1) := by decide +kernel
theorem dX5_ended_16 : decode cX5_ended 16 = .ok (.iadd, 1) := by decide +kernel
theorem dX5_ended_17 : decode cX5_ended 17 = .ok (.iaload, 1) := by decide +kernel
theorem dX5_ended_18 : decode cX5_ended 18 = .ok (.iconst 5, 1) := by decide +kernel
theorem dX5_ended_19 : decode cX5_ended 19 = .ok (.if_icmp .ne 7, 3) := by decide +kernel
theorem dX5_ended_22 : decode cX5_ended 22 = .ok (.iload_n 2, 1) := by decide +kernel
theorem dX5_ended_23 : decode cX5_ended 23 = .ok (.iconst 1, 1) := by decide +kernel
theorem dX5_ended_24 : decode cX5_ended 24 = .ok (.iadd, 1) := by decide +kernel
theorem dX5_ended_25 : decode cX5_ended 25 = .ok (.ireturn, 1) := by decide +kernel
theorem dX5_ended_26 : decode cX5_ended 26 = .ok (.aload_n 0, 1) := by decide +kernel
theorem dX5_ended_27 : decode cX5_ended 27 = .ok (.getfield 31, 3) := by decide +kernel
theorem dX5_ended_30 : decode cX5_ended 30 = .ok (.iload_n 3, 1) := by decide +kernel
theorem dX5_ended_31 : decode cX5_ended 31 = .ok (.dup2, 1) := by decide +kernel
theorem dX5_ended_32 : decode cX5_ended 32 = .ok (.laload, 1) := by decide +kernel
theorem dX5_ended_33 : decode cX5_ended 33 = .ok (.lconst 1, 1) := by decide +kernel
theorem dX5_ended_34 : decode cX5_ended 34 = .ok (.lsub, 1) := by decide +kernel
theorem dX5_ended_35 : decode cX5_ended 35 = .ok (.lastore, 1) := by decide +kernel
theorem dX5_ended_36 : decode cX5_ended 36 = .ok (.aload_n 0, 1) := by decide +kernel
theorem dX5_ended_37 : decode cX5_ended 37 = .ok (.getfield 31, 3) := by decide +kernel
theorem dX5_ended_40 : decode cX5_ended 40 = .ok (.iload_n 3, 1) := by decide +kernel
theorem dX5_ended_41 : decode cX5_ended 41 = .ok (.laload, 1) := by decide +kernel
theorem dX5_ended_42 : decode cX5_ended 42 = .ok (.lconst 0, 1) := by decide +kernel
theorem dX5_ended_43 : decode cX5_ended 43 = .ok (.lcmp, 1) := by decide +kernel
theorem dX5_ended_44 : decode cX5_ended 44 = .ok (.ifCond .le 9, 3) := by decide +kernel
theorem dX5_ended_47 : decode cX5_ended 47 = .ok (.iload_n 3, 1) := by decide +kernel
theorem dX5_ended_48 : decode cX5_ended 48 = .ok (.iconst 1, 1) := by decide +kernel
theorem dX5_ended_49 : decode cX5_ended 49 = .ok (.iadd, 1) := by decide +kernel
theorem dX5_ended_50 : decode cX5_ended 50 = .ok (.goto 6, 3) := by decide +kernel
theorem dX5_ended_53 : decode cX5_ended 53 = .ok (.iload_n 2, 1) := by decide +kernel
theorem dX5_ended_54 : decode cX5_ended 54 = .ok (.iconst 1, 1) := by decide +kernel
theorem dX5_ended_55 : decode cX5_ended 55 = .ok (.iadd, 1) := by decide +kernel
theorem dX5_ended_56 : decode cX5_ended 56 = .ok (.ireturn, 1) := by decide +kernel
theorem dX5_rows_0 : decode cX5_rows 0 = .ok (.iload_n 1, 1) := by decide +kernel
theorem dX5_rows_1 : decode cX5_rows 1 = .ok (.bipush 7, 2) := by decide +kernel
theorem dX5_rows_3 : decode cX5_rows 3 = .ok (.if_icmp .ne 38, 3) := by decide +kernel
theorem dX5_rows_6 : decode cX5_rows 6 = .ok (.aload_n 0, 1) := by decide +kernel
theorem dX5_rows_7 : decode cX5_rows 7 = .ok (.getfield 25, 3) := by decide +kernel
theorem dX5_rows_10 : decode cX5_rows 10 = .ok (.iconst 4, 1) := by decide +kernel
theorem dX5_rows_11 : decode cX5_rows 11 = .ok (.aload_n 0, 1) := by decide +kernel
theorem dX5_rows_12 : decode cX5_rows 12 = .ok (.getfield 28, 3) := by decide +kernel
theorem dX5_rows_15 : decode cX5_rows 15 = .ok (.iload_n 2, 1) := by decide +kernel
theorem dX5_rows_16 : decode cX5_rows 16 = .ok (.iconst 4, 1) := by decide +kernel
theorem dX5_rows_17 : decode cX5_rows 17 = .ok (.idiv, 1) := by decide +kernel
theorem dX5_rows_18 : decode cX5_rows 18 = .ok (.iaload, 1) := by decide +kernel
theorem dX5_rows_19 : decode cX5_rows 19 = .ok (.imul, 1) := by decide +kernel
theorem dX5_rows_20 : decode cX5_rows 20 = .ok (.aload_n 0, 1) := by decide +kernel
theorem dX5_rows_21 : decode cX5_rows 21 = .ok (.getfield 22, 3) := by decide +kernel
theorem dX5_rows_24 : decode cX5_rows 24 = .ok (.iload_n 2, 1) := by decide +kernel
theorem dX5_rows_25 : decode cX5_rows 25 = .ok (.iconst 4, 1) := by decide +kernel
theorem dX5_rows_26 : decode cX5_rows 26 = .ok (.irem, 1) := by decide +kernel
theorem dX5_rows_27 : decode cX5_rows 27 = .ok (.iaload, 1) := by decide +kernel
theorem dX5_rows_28 : decode cX5_rows 28 = .ok (.iconst 3, 1) := by decide +kernel
theorem dX5_rows_29 : decode cX5_rows 29 = .ok (.iand, 1) := by decide +kernel
theorem dX5_rows_30 : decode cX5_rows 30 = .ok (.iadd, 1) := by decide +kernel
theorem dX5_rows_31 : decode cX5_rows 31 = .ok (.aload_n 0, 1) := by decide +kernel
theorem dX5_rows_32 : decode cX5_rows 32 = .ok (.getfield 22, 3) := by decide +kernel
theorem dX5_rows_35 : decode cX5_rows 35 = .ok (.iload_n 3, 1) := by decide +kernel
theorem dX5_rows_36 : decode cX5_rows 36 = .ok (.iaload, 1) := by decide +kernel
theorem dX5_rows_37 : decode cX5_rows 37 = .ok (.iastore, 1) := by decide +kernel
theorem dX5_rows_38 : decode cX5_rows 38 = .ok (.goto 173, 3) := by decide +kernel
theorem dX5_rows_41 : decode cX5_rows 41 = .ok (.iload_n 1, 1) := by decide +kernel
theorem dX5_rows_42 : decode cX5_rows 42 = .ok (.bipush 8, 2) := by decide +kernel
theorem dX5_rows_44 : decode cX5_rows 44 = .ok (.if_icmp .ne 58, 3) := by decide +kernel
theorem dX5_rows_47 : decode cX5_rows 47 = .ok (.aload_n 0, 1) := by decide +kernel
theorem dX5_rows_48 : decode cX5_rows 48 = .ok (.getfield 22, 3) := by decide +kernel
theorem dX5_rows_51 : decode cX5_rows 51 = .ok (.iload_n 3, 1) := by decide +kernel
theorem dX5_rows_52 : decode cX5_rows 52 = .ok (.iconst 4, 1) := by decide +kernel
theorem dX5_rows_53 : decode cX5_rows 53 = .ok (.irem, 1) := by decide +kernel
theorem dX5_rows_54 : decode cX5_rows 54 = .ok (.iaload, 1) := by decide +kernel
theorem dX5_rows_55 : decode cX5_rows 55 = .ok (.iload 4, 2) := by decide +kernel
theorem dX5_rows_57 : decode cX5_rows 57 = .ok (.bipush 32, 2) := by decide +kernel
theorem dX5_rows_59 : decode cX5_rows 59 = .ok (.invokestatic 127, 3) := by decide +kernel
theorem dX5_rows_62 : decode cX5_rows 62 = .ok (.ifCond .eq 7, 3) := by decide +kernel
theorem dX5_rows_65 : decode cX5_rows 65 = .ok (.iconst 1, 1) := by decide +kernel
theorem dX5_rows_66 : decode cX5_rows 66 = .ok (.goto 4, 3) := by decide +kernel
theorem dX5_rows_69 : decode cX5_rows 69 = .ok (.iconst 0, 1) := by decide +kernel
theorem dX5_rows_70 : decode cX5_rows 70 = .ok (.iadd, 1) := by decide +kernel
theorem dX5_rows_71 : decode cX5_rows 71 = .ok (.iconst 3, 1) := by decide +kernel
theorem dX5_rows_72 : decode cX5_rows 72 = .ok (.iand, 1) := by decide +kernel
theorem dX5_rows_73 : decode cX5_rows 73 = .ok (.istore 5, 2) := by decide +kernel
theorem dX5_rows_75 : decode cX5_rows 75 = .ok (.aload_n 0, 1) := by decide +kernel
theorem dX5_rows_76 : decode cX5_rows 76 = .ok (.getfield 22, 3) := by decide +kernel
theorem dX5_rows_79 : decode cX5_rows 79 = .ok (.iload_n 2, 1) := by decide +kernel
theorem dX5_rows_80 : decode cX5_rows 80 = .ok (.aload_n 0, 1) := by decide +kernel
theorem dX5_rows_81 : decode cX5_rows 81 = .ok (.getfield 25, 3) := by decide +kernel
theorem dX5_rows_84 : decode cX5_rows 84 = .ok (.iconst 4, 1) := by decide +kernel
theorem dX5_rows_85 : decode cX5_rows 85 = .ok (.aload_n 0, 1) := by decide +kernel
theorem dX5_rows_86 : decode cX5_rows 86 = .ok (.getfield 28, 3) := by decide +kernel
theorem dX5_rows_89 : decode cX5_rows 89 = .ok (.iload_n 3, 1) := by decide +kernel
theorem dX5_rows_90 : decode cX5_rows 90 = .ok (.iconst 4, 1) := by decide +kernel
theorem dX5_rows_91 : decode cX5_rows 91 = .ok (.idiv, 1) := by decide +kernel
theorem dX5_rows_92 : decode cX5_rows 92 = .ok (.iaload, 1) := by decide +kernel
theorem dX5_rows_93 : decode cX5_rows 93 = .ok (.imul, 1) := by decide +kernel
theorem dX5_rows_94 : decode cX5_rows 94 = .ok (.iload 5, 2) := by decide +kernel
theorem dX5_rows_96 : decode cX5_rows 96 = .ok (.iadd, 1) := by decide +kernel
theorem dX5_rows_97 : decode cX5_rows 97 = .ok (.iaload, 1) := by decide +kernel
theorem dX5_rows_98 : decode cX5_rows 98 = .ok (.iastore, 1) := by decide +kernel
theorem dX5_rows_99 : decode cX5_rows 99 = .ok (.goto 112, 3) := by decide +kernel
theorem dX5_rows_102 : decode cX5_rows 102 = .ok (.iload 4, 2) := by decide +kernel
theorem dX5_rows_104 : decode cX5_rows 104 = .ok (.iconst 1, 1) := by decide +kernel
theorem dX5_rows_105 : decode cX5_rows 105 = .ok (.invokestatic 127, 3) := by decide +kernel
theorem dX5_rows_108 : decode cX5_rows 108 = .ok (.ifCond .eq 91, 3) := by decide +kernel
theorem dX5_rows_111 : decode cX5_rows 111 = .ok (.aload_n 0, 1) := by decide +kernel
theorem dX5_rows_112 : decode cX5_rows 112 = .ok (.getfield 28, 3) := by decide +kernel
theorem dX5_rows_115 : decode cX5_rows 115 = .ok (.iload_n 3, 1) := by decide +kernel
theorem dX5_rows_116 : decode cX5_rows 116 = .ok (.iaload, 1) := by decide +kernel
theorem dX5_rows_117 : decode cX5_rows 117 = .ok (.istore 5, 2) := by decide +kernel
theorem dX5_rows_119 : decode cX5_rows 119 = .ok (.aload_n 0, 1) := by decide +kernel
theorem dX5_rows_120 : decode cX5_rows 120 = .ok (.getfield 28, 3) := by decide +kernel
theorem dX5_rows_123 : decode cX5_rows 123 = .ok (.iconst 0, 1) := by decide +kernel
theorem dX5_rows_124 : decode cX5_rows 124 = .ok (.iaload, 1) := by decide +kernel
theorem dX5_rows_125 : decode cX5_rows 125 = .ok (.aload_n 0, 1) := by decide +kernel
theorem dX5_rows_126 : decode cX5_rows 126 = .ok (.getfield 28, 3) := by decide +kernel
theorem dX5_rows_129 : decode cX5_rows 129 = .ok (.iconst 1, 1) := by decide +kernel
theorem dX5_rows_130 : decode cX5_rows 130 = .ok (.iaload, 1) := by decide +kernel
theorem dX5_rows_131 : decode cX5_rows 131 = .ok (.if_icmp .ne 10, 3) := by decide +kernel
theorem dX5_rows_134 : decode cX5_rows 134 = .ok (.iconst 1, 1) := by decide +kernel
theorem dX5_rows_135 : decode cX5_rows 135 = .ok (.iload 5, 2) := by decide +kernel
theorem dX5_rows_137 : decode cX5_rows 137 = .ok (.isub, 1) := by decide +kernel
theorem dX5_rows_138 : decode cX5_rows 138 = .ok (.goto 9, 3) := by decide +kernel
theorem dX5_rows_141 : decode cX5_rows 141 = .ok (.aload_n 0, 1) := by decide +kernel
theorem dX5_rows_142 : decode cX5_rows 142 = .ok (.getfield 28, 3) := by decide +kernel
theorem dX5_rows_145 : decode cX5_rows 145 = .ok (.iload_n 2, 1) := by decide +kernel
theorem dX5_rows_146 : decode cX5_rows 146 = .ok (.iaload, 1) := by decide +kernel
theorem dX5_rows_147 : decode cX5_rows 147 = .ok (.istore 6, 2) := by decide +kernel
theorem dX5_rows_149 : decode cX5_rows 149 = .ok (.iconst 0, 1) := by decide +kernel
theorem dX5_rows_150 : decode cX5_rows 150 = .ok (.istore 7, 2) := by decide +kernel
theorem dX5_rows_152 : decode cX5_rows 152 = .ok (.iload 7, 2) := by decide +kernel
theorem dX5_rows_154 : decode cX5_rows 154 = .ok (.iconst 4, 1) := by decide +kernel
theorem dX5_rows_155 : decode cX5_rows 155 = .ok (.if_icmp .ge 33, 3) := by decide +kernel
theorem dX5_rows_158 : decode cX5_rows 158 = .ok (.aload_n 0, 1) := by decide +kernel
theorem dX5_rows_159 : decode cX5_rows 159 = .ok (.getfield 25, 3) := by decide +kernel
theorem dX5_rows_162 : decode cX5_rows 162 = .ok (.iconst 4, 1) := by decide +kernel
theorem dX5_rows_163 : decode cX5_rows 163 = .ok (.iload 6, 2) := by decide +kernel
theorem dX5_rows_165 : decode cX5_rows 165 = .ok (.imul, 1) := by decide +kernel
theorem dX5_rows_166 : decode cX5_rows 166 = .ok (.iload 7, 2) := by decide +kernel
theorem dX5_rows_168 : decode cX5_rows 168 = .ok (.iadd, 1) := by decide +kernel
theorem dX5_rows_169 : decode cX5_rows 169 = .ok (.aload_n 0, 1) := by decide +kernel
theorem dX5_rows_170 : decode cX5_rows 170 = .ok (.getfield 25, 3) := by decide +kernel
theorem dX5_rows_173 : decode cX5_rows 173 = .ok (.iconst 4, 1) := by decide +kernel
theorem dX5_rows_174 : decode cX5_rows 174 = .ok (.iload 5, 2) := by decide +kernel
theorem dX5_rows_176 : decode cX5_rows 176 = .ok (.imul, 1) := by decide +kernel
theorem dX5_rows_177 : decode cX5_rows 177 = .ok (.iload 7, 2) := by decide +kernel
theorem dX5_rows_179 : decode cX5_rows 179 = .ok (.iadd, 1) := by decide +kernel
theorem dX5_rows_180 : decode cX5_rows 180 = .ok (.iaload, 1) := by decide +kernel
theorem dX5_rows_181 : decode cX5_rows 181 = .ok (.iastore, 1) := by decide +kernel
theorem dX5_rows_182 : decode cX5_rows 182 = .ok (.iinc 7 1, 3) := by decide +kernel
theorem dX5_rows_185 : decode cX5_rows 185 = .ok (.goto (-33), 3) := by decide +kernel
theorem dX5_rows_188 : decode cX5_rows 188 = .ok (.aload_n 0, 1) := by decide +kernel
theorem dX5_rows_189 : decode cX5_rows 189 = .ok (.getfield 28, 3) := by decide +kernel
theorem dX5_rows_192 : decode cX5_rows 192 = .ok (.iload_n 2, 1) := by decide +kernel
theorem dX5_rows_193 : decode cX5_rows 193 = .ok (.iload 6, 2) := by decide +kernel
theorem dX5_rows_195 : decode cX5_rows 195 = .ok (.iastore, 1) := by decide +kernel
theorem dX5_rows_196 : decode cX5_rows 196 = .ok (.goto 15, 3) := by decide +kernel
theorem dX5_rows_199 : decode cX5_rows 199 = .ok (.aload_n 0, 1) := by decide +kernel
theorem dX5_rows_200 : decode cX5_rows 200 = .ok (.getfield 28, 3) := by decide +kernel
theorem dX5_rows_203 : decode cX5_rows 203 = .ok (.iload_n 2, 1) := by decide +kernel
theorem dX5_rows_204 : decode cX5_rows 204 = .ok (.aload_n 0, 1) := by decide +kernel
theorem dX5_rows_205 : decode cX5_rows 205 = .ok (.getfield 28, 3) := by decide +kernel
theorem dX5_rows_208 : decode cX5_rows 208 = .ok (.iload_n 3, 1) := by decide +kernel
theorem dX5_rows_209 : decode cX5_rows 209 = .ok (.iaload, 1) := by decide +kernel
theorem dX5_rows_210 : decode cX5_rows 210 = .ok (.iastore, 1) := by decide +kernel
theorem dX5_rows_211 : decode cX5_rows 211 = .ok (.return_, 1) := by decide +kernel
theorem dX5_end_0 : decode cX5_end 0 = .ok (.iload_n 1, 1) := by decide +kernel
theorem dX5_end_1 : decode cX5_end 1 = .ok (.iconst 4, 1) := by decide +kernel
theorem dX5_end_2 : decode cX5_end 2 = .ok (.if_icmp .ge 12, 3) := by decide +kernel
theorem dX5_end_5 : decode cX5_end 5 = .ok (.aload_n 0, 1) := by decide +kernel
theorem dX5_end_6 : decode cX5_end 6 = .ok (.getfield 22, 3) := by decide +kernel
theorem dX5_end_9 : decode cX5_end 9 = .ok (.iload_n 1, 1) := by decide +kernel
theorem dX5_end_10 : decode cX5_end 10 = .ok (.iaload, 1) := by decide +kernel
theorem dX5_end_11 : decode cX5_end 11 = .ok (.goto 74, 3) := by decide +kernel
theorem dX5_end_14 : decode cX5_end 14 = .ok (.iload_n 1, 1) := by decide +kernel
theorem dX5_end_15 : decode cX5_end 15 = .ok (.bipush 12, 2) := by decide +kernel
theorem dX5_end_17 : decode cX5_end 17 = .ok (.if_icmp .ge 27, 3) := by decide +kernel
theorem dX5_end_20 : decode cX5_end 20 = .ok (.aload_n 0, 1) := by decide +kernel
theorem dX5_end_21 : decode cX5_end 21 = .ok (.getfield 25, 3) := by decide +kernel
theorem dX5_end_24 : decode cX5_end 24 = .ok (.iconst 4, 1) := by decide +kernel
theorem dX5_end_25 : decode cX5_end 25 = .ok (.aload_n 0, 1) := by decide +kernel
theorem dX5_end_26 : decode cX5_end 26 = .ok (.getfield 28, 3) := by decide +kernel
theorem dX5_end_29 : decode cX5_end 29 = .ok (.iload_n 1, 1) := by decide +kernel
theorem dX5_end_30 : decode cX5_end 30 = .ok (.iconst 4, 1) := by decide +kernel
theorem dX5_end_31 : decode cX5_end 31 = .ok (.idiv, 1) := by decide +kernel
theorem dX5_end_32 : decode cX5_end 32 = .ok (.iconst 1, 1) := by decide +kernel
theorem dX5_end_33 : decode cX5_end 33 = .ok (.isub, 1) := by decide +kernel
theorem dX5_end_34 : decode cX5_end 34 = .ok (.iaload, 1) := by decide +kernel
theorem dX5_end_35 : decode cX5_end 35 = .ok (.imul, 1) := by decide +kernel
theorem dX5_end_36 : decode cX5_end 36 = .ok (.iload_n 1, 1) := by decide +kernel
theorem dX5_end_37 : decode cX5_end 37 = .ok (.iconst 4, 1) := by decide +kernel
theorem dX5_end_38 : decode cX5_end 38 = .ok (.irem, 1) := by decide +kernel
theorem dX5_end_39 : decode cX5_end 39 = .ok (.iadd, 1) := by decide +kernel
theorem dX5_end_40 : decode cX5_end 40 = .ok (.iaload, 1) := by decide +kernel
theorem dX5_end_41 : decode cX5_end 41 = .ok (.goto 44, 3) := by decide +kernel
theorem dX5_end_44 : decode cX5_end 44 = .ok (.iload_n 1, 1) := by decide +kernel
theorem dX5_end_45 : decode cX5_end 45 = .ok (.bipush 12, 2) := by decide +kernel
theorem dX5_end_47 : decode cX5_end 47 = .ok (.if_icmp .ne 18, 3) := by decide +kernel
theorem dX5_end_50 : decode cX5_end 50 = .ok (.aload_n 0, 1) := by decide +kernel
theorem dX5_end_51 : decode cX5_end 51 = .ok (.getfield 119, 3) := by decide +kernel
theorem dX5_end_54 : decode cX5_end 54 = .ok (.ifCond .eq 7, 3) := by decide +kernel
theorem dX5_end_57 : decode cX5_end 57 = .ok (.iconst 1, 1) := by decide +kernel
theorem dX5_end_58 : decode cX5_end 58 = .ok (.goto 27, 3) := by decide +kernel
theorem dX5_end_61 : decode cX5_end 61 = .ok (.iconst 0, 1) := by decide +kernel
theorem dX5_end_62 : decode cX5_end 62 = .ok (.goto 23, 3) := by decide +kernel
theorem dX5_end_65 : decode cX5_end 65 = .ok (.aload_n 0, 1) := by decide +kernel
theorem dX5_end_66 : decode cX5_end 66 = .ok (.getfield 28, 3) := by decide +kernel
theorem dX5_end_69 : decode cX5_end 69 = .ok (.iconst 0, 1) := by decide +kernel
theorem dX5_end_70 : decode cX5_end 70 = .ok (.iaload, 1) := by decide +kernel
theorem dX5_end_71 : decode cX5_end 71 = .ok (.aload_n 0, 1) := by decide +kernel
theorem dX5_end_72 : decode cX5_end 72 = .ok (.getfield 28, 3) := by decide +kernel
theorem dX5_end_75 : decode cX5_end 75 = .ok (.iconst 1, 1) := by decide +kernel
theorem dX5_end_76 : decode cX5_end 76 = .ok (.iaload, 1) := by decide +kernel
theorem dX5_end_77 : decode cX5_end 77 = .ok (.if_icmp .ne 7, 3) := by decide +kernel
theorem dX5_end_80 : decode cX5_end 80 = .ok (.iconst 1, 1) := by decide +kernel
theorem dX5_end_81 : decode cX5_end 81 = .ok (.goto 4, 3) := by decide +kernel
theorem dX5_end_84 : decode cX5_end 84 = .ok (.iconst 0, 1) := by decide +kernel
theorem dX5_end_85 : decode cX5_end 85 = .ok (.ireturn, 1) := by decide +kernel
theorem dX5_run_0 : decode cX5_run 0 = .ok (.aload_n 0, 1) := by decide +kernel
theorem dX5_run_1 : decode cX5_run 1 = .ok (.iload_n 1, 1) := by decide +kernel
theorem dX5_run_2 : decode cX5_run 2 = .ok (.invokevirtual 101, 3) := by decide +kernel
theorem dX5_run_5 : decode cX5_run 5 = .ok (.ifCond .eq 23, 3) := by decide +kernel
theorem dX5_run_8 : decode cX5_run 8 = .ok (.iload_n 2, 1) := by decide +kernel
theorem dX5_run_9 : decode cX5_run 9 = .ok (.iconst 0, 1) := by decide +kernel
theorem dX5_run_10 : decode cX5_run 10 = .ok (.bipush 9, 2) := by decide +kernel
theorem dX5_run_12 : decode cX5_run 12 = .ok (.invokestatic 97, 3) := by decide +kernel
theorem dX5_run_15 : decode cX5_run 15 = .ok (.ifCond .eq 13, 3) := by decide +kernel
theorem dX5_run_18 : decode cX5_run 18 = .ok (.iload_n 3, 1) := by decide +kernel
theorem dX5_run_19 : decode cX5_run 19 = .ok (.iconst 0, 1) := by decide +kernel
theorem dX5_run_20 : decode cX5_run 20 = .ok (.bipush 63, 2) := by decide +kernel
theorem dX5_run_22 : decode cX5_run 22 = .ok (.invokestatic 97, 3) := by decide +kernel
theorem dX5_run_25 : decode cX5_run 25 = .ok (.ifCond .ne 5, 3) := by decide +kernel
theorem dX5_run_28 : decode cX5_run 28 = .ok (.iconst (-1), 1) := by decide +kernel
theorem dX5_run_29 : decode cX5_run 29 = .ok (.ireturn, 1) := by decide +kernel
theorem dX5_run_30 : decode cX5_run 30 = .ok (.aload_n 0, 1) := by decide +kernel
theorem dX5_run_31 : decode cX5_run 31 = .ok (.iload_n 1, 1) := by decide +kernel
theorem dX5_run_32 : decode cX5_run 32 = .ok (.invokevirtual 113, 3) := by decide +kernel
theorem dX5_run_35 : decode cX5_run 35 = .ok (.ifCond .ne 6, 3) := by decide +kernel
theorem dX5_run_38 : decode cX5_run 38 = .ok (.bipush (-3), 2) := by decide +kernel
theorem dX5_run_40 : decode cX5_run 40 = .ok (.ireturn, 1) := by decide +kernel
theorem dX5_run_41 : decode cX5_run 41 = .ok (.aload_n 0, 1) := by decide +kernel
theorem dX5_run_42 : decode cX5_run 42 = .ok (.iload_n 1, 1) := by decide +kernel
theorem dX5_run_43 : decode cX5_run 43 = .ok (.iload_n 2, 1) := by decide +kernel
theorem dX5_run_44 : decode cX5_run 44 = .ok (.iload_n 3, 1) := by decide +kernel
theorem dX5_run_45 : decode cX5_run 45 = .ok (.iconst (-1), 1) := by decide +kernel
theorem dX5_run_46 : decode cX5_run 46 = .ok (.iconst 0, 1) := by decide +kernel
theorem dX5_run_47 : decode cX5_run 47 = .ok (.invokevirtual 144, 3) := by decide +kernel
theorem dX5_run_50 : decode cX5_run 50 = .ok (.iconst 0, 1) := by decide +kernel
theorem dX5_run_51 : decode cX5_run 51 = .ok (.istore 4, 2) := by decide +kernel
theorem dX5_run_53 : decode cX5_run 53 = .ok (.iload 4, 2) := by decide +kernel
theorem dX5_run_55 : decode cX5_run 55 = .ok (.bipush 14, 2) := by decide +kernel
theorem dX5_run_57 : decode cX5_run 57 = .ok (.if_icmp .ge 22, 3) := by decide +kernel
theorem dX5_run_60 : decode cX5_run 60 = .ok (.aload_n 0, 1) := by decide +kernel
theorem dX5_run_61 : decode cX5_run 61 = .ok (.getfield 38, 3) := by decide +kernel
theorem dX5_run_64 : decode cX5_run 64 = .ok (.iload 4, 2) := by decide +kernel
theorem dX5_run_66 : decode cX5_run 66 = .ok (.aload_n 0, 1) := by decide +kernel
theorem dX5_run_67 : decode cX5_run 67 = .ok (.iload 4, 2) := by decide +kernel
theorem dX5_run_69 : decode cX5_run 69 = .ok (.invokevirtual 148, 3) := by decide +kernel
theorem dX5_run_72 : decode cX5_run 72 = .ok (.iastore, 1) := by decide +kernel
theorem dX5_run_73 : decode cX5_run 73 = .ok (.iinc 4 1, 3) := by decide +kernel
theorem dX5_run_76 : decode cX5_run 76 = .ok (.goto (-23), 3) := by decide +kernel
theorem dX5_run_79 : decode cX5_run 79 = .ok (.aload_n 0, 1) := by decide +kernel
theorem dX5_run_80 : decode cX5_run 80 = .ok (.aload_n 0, 1) := by decide +kernel
theorem dX5_run_81 : decode cX5_run 81 = .ok (.getfield 19, 3) := by decide +kernel
theorem dX5_run_84 : decode cX5_run 84 = .ok (.iload_n 1, 1) := by decide +kernel
theorem dX5_run_85 : decode cX5_run 85 = .ok (.iaload, 1) := by decide +kernel
theorem dX5_run_86 : decode cX5_run 86 = .ok (.putfield 44, 3) := by decide +kernel
theorem dX5_run_89 : decode cX5_run 89 = .ok (.iconst 0, 1) := by decide +kernel
theorem dX5_run_90 : decode cX5_run 90 = .ok (.istore 4, 2) := by decide +kernel
theorem dX5_run_92 : decode cX5_run 92 = .ok (.iload 4, 2) := by decide +kernel
theorem dX5_run_94 : decode cX5_run 94 = .ok (.bipush 20, 2) := by decide +kernel
theorem dX5_run_96 : decode cX5_run 96 = .ok (.if_icmp .ge 23, 3) := by decide +kernel
theorem dX5_run_99 : decode cX5_run 99 = .ok (.aload_n 0, 1) := by decide +kernel
theorem dX5_run_100 : decode cX5_run 100 = .ok (.getfield 41, 3) := by decide +kernel
theorem dX5_run_103 : decode cX5_run 103 = .ok (.iload 4, 2) := by decide +kernel
theorem dX5_run_105 : decode cX5_run 105 = .ok (.aload_n 0, 1) := by decide +kernel
theorem dX5_run_106 : decode cX5_run 106 = .ok (.getfield 35, 3) := by decide +kernel
theorem dX5_run_109 : decode cX5_run 109 = .ok (.iload 4, 2) := by decide +kernel
theorem dX5_run_111 : decode cX5_run 111 = .ok (.iaload, 1) := by decide +kernel
theorem dX5_run_112 : decode cX5_run 112 = .ok (.iastore, 1) := by decide +kernel
theorem dX5_run_113 : decode cX5_run 113 = .ok (.iinc 4 1, 3) := by decide +kernel
theorem dX5_run_116 : decode cX5_run 116 = .ok (.goto (-24), 3) := by decide +kernel
theorem dX5_run_119 : decode cX5_run 119 = .ok (.aload_n 0, 1) := by decide +kernel
theorem dX5_run_120 : decode cX5_run 120 = .ok (.getfield 116, 3) := by decide +kernel
theorem dX5_run_123 : decode cX5_run 123 = .ok (.ireturn, 1) := by decide +kernel
theorem dX5_told_0 : decode cX5_told 0 = .ok (.aload_n 0, 1) := by decide +kernel
theorem dX5_told_1 : decode cX5_told 1 = .ok (.getfield 44, 3) := by decide +kernel
theorem dX5_told_4 : decode cX5_told 4 = .ok (.ifCond .lt 22, 3) := by decide +kernel
theorem dX5_told_7 : decode cX5_told 7 = .ok (.iload_n 1, 1) := by decide +kernel
theorem dX5_told_8 : decode cX5_told 8 = .ok (.iconst 0, 1) := by decide +kernel
theorem dX5_told_9 : decode cX5_told 9 = .ok (.bipush 13, 2) := by decide +kernel
theorem dX5_told_11 : decode cX5_told 11 = .ok (.invokestatic 97, 3) := by decide +kernel
theorem dX5_told_14 : decode cX5_told 14 = .ok (.ifCond .eq 12, 3) := by decide +kernel
theorem dX5_told_17 : decode cX5_told 17 = .ok (.aload_n 0, 1) := by decide +kernel
theorem dX5_told_18 : decode cX5_told 18 = .ok (.getfield 38, 3) := by decide +kernel
theorem dX5_told_21 : decode cX5_told 21 = .ok (.iload_n 1, 1) := by decide +kernel
theorem dX5_told_22 : decode cX5_told 22 = .ok (.iaload, 1) := by decide +kernel
theorem dX5_told_23 : decode cX5_told 23 = .ok (.goto 5, 3) := by decide +kernel
theorem dX5_told_26 : decode cX5_told 26 = .ok (.ldc 112, 2) := by decide +kernel
theorem dX5_told_28 : decode cX5_told 28 = .ok (.ireturn, 1) := by decide +kernel
theorem dX5_done_0 : decode cX5_done 0 = .ok (.iload_n 1, 1) := by decide +kernel
theorem dX5_done_1 : decode cX5_done 1 = .ok (.ifCond .lt 20, 3) := by decide +kernel
theorem dX5_done_4 : decode cX5_done 4 = .ok (.iload_n 1, 1) := by decide +kernel
theorem dX5_done_5 : decode cX5_done 5 = .ok (.aload_n 0, 1) := by decide +kernel
theorem dX5_done_6 : decode cX5_done 6 = .ok (.getfield 44, 3) := by decide +kernel
theorem dX5_done_9 : decode cX5_done 9 = .ok (.if_icmp .ge 12, 3) := by decide +kernel
theorem dX5_done_12 : decode cX5_done 12 = .ok (.aload_n 0, 1) := by decide +kernel
theorem dX5_done_13 : decode cX5_done 13 = .ok (.getfield 41, 3) := by decide +kernel
theorem dX5_done_16 : decode cX5_done 16 = .ok (.iload_n 1, 1) := by decide +kernel
theorem dX5_done_17 : decode cX5_done 17 = .ok (.iaload, 1) := by decide +kernel
theorem dX5_done_18 : decode cX5_done 18 = .ok (.goto 4, 3) := by decide +kernel
theorem dX5_done_21 : decode cX5_done 21 = .ok (.iconst (-1), 1) := by decide +kernel
theorem dX5_done_22 : decode cX5_done 22 = .ok (.ireturn, 1) := by decide +kernel
theorem dX5_question_0 : decode cX5_question 0 = .ok (.aload_n 0, 1) := by decide +kernel
theorem dX5_question_1 : decode cX5_question 1 = .ok (.iload_n 1, 1) := by decide +kernel
theorem dX5_question_2 : decode cX5_question 2 = .ok (.invokevirtual 101, 3) := by decide +kernel
theorem dX5_question_5 : decode cX5_question 5 = .ok (.ifCond .eq 57, 3) := by decide +kernel
theorem dX5_question_8 : decode cX5_question 8 = .ok (.iload_n 2, 1) := by decide +kernel
theorem dX5_question_9 : decode cX5_question 9 = .ok (.iconst 0, 1) := by decide +kernel
theorem dX5_question_10 : decode cX5_question 10 = .ok (.bipush 9, 2) := by decide +kernel
theorem dX5_question_12 : decode cX5_question 12 = .ok (.invokestatic 97, 3) := by decide +kernel
theorem dX5_question_15 : decode cX5_question 15 = .ok (.ifCond .eq 47, 3) := by decide +kernel
theorem dX5_question_18 : decode cX5_question 18 = .ok (.iload_n 3, 1) := by decide +kernel
theorem dX5_question_19 : decode cX5_question 19 = .ok (.iconst 0, 1) := by decide +kernel
theorem dX5_question_20 : decode cX5_question 20 = .ok (.iconst 2, 1) := by decide +kernel
theorem dX5_question_21 : decode cX5_question 21 = .ok (.invokestatic 97, 3) := by decide +kernel
theorem dX5_question_24 : decode cX5_question 24 = .ok (.ifCond .eq 38, 3) := by decide +kernel
theorem dX5_question_27 : decode cX5_question 27 = .ok (.iload 4, 2) := by decide +kernel
theorem dX5_question_29 : decode cX5_question 29 = .ok (.iconst 0, 1) := by decide +kernel
theorem dX5_question_30 : decode cX5_question 30 = .ok (.iload_n 3, 1) := by decide +kernel
theorem dX5_question_31 : decode cX5_question 31 = .ok (.ifCond .ne 7, 3) := by decide +kernel
theorem dX5_question_34 : decode cX5_question 34 = .ok (.iconst 3, 1) := by decide +kernel
theorem dX5_question_35 : decode cX5_question 35 = .ok (.goto 21, 3) := by decide +kernel
theorem dX5_question_38 : decode cX5_question 38 = .ok (.iload_n 3, 1) := by decide +kernel
theorem dX5_question_39 : decode cX5_question 39 = .ok (.iconst 1, 1) := by decide +kernel
theorem dX5_question_40 : decode cX5_question 40 = .ok (.if_icmp .ne 14, 3) := by decide +kernel
theorem dX5_question_43 : decode cX5_question 43 = .ok (.aload_n 0, 1) := by decide +kernel
theorem dX5_question_44 : decode cX5_question 44 = .ok (.getfield 19, 3) := by decide +kernel
theorem dX5_question_47 : decode cX5_question 47 = .ok (.iload_n 1, 1) := by decide +kernel
theorem dX5_question_48 : decode cX5_question 48 = .ok (.iaload, 1) := by decide +kernel
theorem dX5_question_49 : decode cX5_question 49 = .ok (.iconst 1, 1) := by decide +kernel
theorem dX5_question_50 : decode cX5_question 50 = .ok (.isub, 1) := by decide +kernel
theorem dX5_question_51 : decode cX5_question 51 = .ok (.goto 5, 3) := by decide +kernel
theorem dX5_question_54 : decode cX5_question 54 = .ok (.bipush 7, 2) := by decide +kernel
theorem dX5_question_56 : decode cX5_question 56 = .ok (.invokestatic 97, 3) := by decide +kernel
theorem dX5_question_59 : decode cX5_question 59 = .ok (.ifCond .ne 5, 3) := by decide +kernel
theorem dX5_question_62 : decode cX5_question 62 = .ok (.iconst (-1), 1) := by decide +kernel
theorem dX5_question_63 : decode cX5_question 63 = .ok (.ireturn, 1) := by decide +kernel
theorem dX5_question_64 : decode cX5_question 64 = .ok (.aload_n 0, 1) := by decide +kernel
theorem dX5_question_65 : decode cX5_question 65 = .ok (.iload_n 1, 1) := by decide +kernel
theorem dX5_question_66 : decode cX5_question 66 = .ok (.invokevirtual 113, 3) := by decide +kernel
theorem dX5_question_69 : decode cX5_question 69 = .ok (.ifCond .ne 6, 3) := by decide +kernel
theorem dX5_question_72 : decode cX5_question 72 = .ok (.bipush (-3), 2) := by decide +kernel
theorem dX5_question_74 : decode cX5_question 74 = .ok (.ireturn, 1) := by decide +kernel
theorem dX5_question_75 : decode cX5_question 75 = .ok (.aload_n 0, 1) := by decide +kernel
theorem dX5_question_76 : decode cX5_question 76 = .ok (.iload_n 1, 1) := by decide +kernel
theorem dX5_question_77 : decode cX5_question 77 = .ok (.iload_n 2, 1) := by decide +kernel
theorem dX5_question_78 : decode cX5_question 78 = .ok (.iconst 0, 1) := by decide +kernel
theorem dX5_question_79 : decode cX5_question 79 = .ok (.iconst (-1), 1) := by decide +kernel
theorem dX5_question_80 : decode cX5_question 80 = .ok (.iconst 0, 1) := by decide +kernel
theorem dX5_question_81 : decode cX5_question 81 = .ok (.invokevirtual 144, 3) := by decide +kernel
theorem dX5_question_84 : decode cX5_question 84 = .ok (.aload_n 0, 1) := by decide +kernel
theorem dX5_question_85 : decode cX5_question 85 = .ok (.getfield 119, 3) := by decide +kernel
theorem dX5_question_88 : decode cX5_question 88 = .ok (.ifCond .eq 6, 3) := by decide +kernel
theorem dX5_question_91 : decode cX5_question 91 = .ok (.bipush (-3), 2) := by decide +kernel
theorem dX5_question_93 : decode cX5_question 93 = .ok (.ireturn, 1) := by decide +kernel
theorem dX5_question_94 : decode cX5_question 94 = .ok (.aload_n 0, 1) := by decide +kernel
theorem dX5_question_95 : decode cX5_question 95 = .ok (.getfield 94, 3) := by decide +kernel
theorem dX5_question_98 : decode cX5_question 98 = .ok (.bipush 60, 2) := by decide +kernel
theorem dX5_question_100 : decode cX5_question 100 = .ok (.if_icmp .ne 6, 3) := by decide +kernel
theorem dX5_question_103 : decode cX5_question 103 = .ok (.bipush (-2), 2) := by decide +kernel
theorem dX5_question_105 : decode cX5_question 105 = .ok (.ireturn, 1) := by decide +kernel
theorem dX5_question_106 : decode cX5_question 106 = .ok (.aload_n 0, 1) := by decide +kernel
theorem dX5_question_107 : decode cX5_question 107 = .ok (.getfield 48, 3) := by decide +kernel
theorem dX5_question_110 : decode cX5_question 110 = .ok (.aload_n 0, 1) := by decide +kernel
theorem dX5_question_111 : decode cX5_question 111 = .ok (.getfield 94, 3) := by decide +kernel
theorem dX5_question_114 : decode cX5_question 114 = .ok (.iload_n 1, 1) := by decide +kernel
theorem dX5_question_115 : decode cX5_question 115 = .ok (.iastore, 1) := by decide +kernel
theorem dX5_question_116 : decode cX5_question 116 = .ok (.aload_n 0, 1) := by decide +kernel
theorem dX5_question_117 : decode cX5_question 117 = .ok (.getfield 51, 3) := by decide +kernel
theorem dX5_question_120 : decode cX5_question 120 = .ok (.aload_n 0, 1) := by decide +kernel
theorem dX5_question_121 : decode cX5_question 121 = .ok (.getfield 94, 3) := by decide +kernel
theorem dX5_question_124 : decode cX5_question 124 = .ok (.iload_n 2, 1) := by decide +kernel
theorem dX5_question_125 : decode cX5_question 125 = .ok (.iastore, 1) := by decide +kernel
theorem dX5_question_126 : decode cX5_question 126 = .ok (.aload_n 0, 1) := by decide +kernel
theorem dX5_question_127 : decode cX5_question 127 = .ok (.getfield 54, 3) := by decide +kernel
theorem dX5_question_130 : decode cX5_question 130 = .ok (.aload_n 0, 1) := by decide +kernel
theorem dX5_question_131 : decode cX5_question 131 = .ok (.getfield 94, 3) := by decide +kernel
theorem dX5_question_134 : decode cX5_question 134 = .ok (.iload_n 3, 1) := by decide +kernel
theorem dX5_question_135 : decode cX5_question 135 = .ok (.iastore, 1) := by decide +kernel
theorem dX5_question_136 : decode cX5_question 136 = .ok (.aload_n 0, 1) := by decide +kernel
theorem dX5_question_137 : decode cX5_question 137 = .ok (.getfield 57, 3) := by decide +kernel
theorem dX5_question_140 : decode cX5_question 140 = .ok (.aload_n 0, 1) := by decide +kernel
theorem dX5_question_141 : decode cX5_question 141 = .ok (.getfield 94, 3) := by decide +kernel
theorem dX5_question_144 : decode cX5_question 144 = .ok (.iload 4, 2) := by decide +kernel
theorem dX5_question_146 : decode cX5_question 146 = .ok (.iastore, 1) := by decide +kernel
theorem dX5_question_147 : decode cX5_question 147 = .ok (.aload_n 0, 1) := by decide +kernel
theorem dX5_question_148 : decode cX5_question 148 = .ok (.dup, 1) := by decide +kernel
theorem dX5_question_149 : decode cX5_question 149 = .ok (.getfield 94, 3) := by decide +kernel
theorem dX5_question_152 : decode cX5_question 152 = .ok (.iconst 1, 1) := by decide +kernel
theorem dX5_question_153 : decode cX5_question 153 = .ok (.iadd, 1) := by decide +kernel
theorem dX5_question_154 : decode cX5_question 154 = .ok (.putfield 94, 3) := by decide +kernel
theorem dX5_question_157 : decode cX5_question 157 = .ok (.aload_n 0, 1) := by decide +kernel
theorem dX5_question_158 : decode cX5_question 158 = .ok (.getfield 94, 3) := by decide +kernel
theorem dX5_question_161 : decode cX5_question 161 = .ok (.iconst 1, 1) := by decide +kernel
theorem dX5_question_162 : decode cX5_question 162 = .ok (.isub, 1) := by decide +kernel
theorem dX5_question_163 : decode cX5_question 163 = .ok (.ireturn, 1) := by decide +kernel
theorem dX5_answerOf_0 : decode cX5_answerOf 0 = .ok (.aload_n 0, 1) := by decide +kernel
theorem dX5_answerOf_1 : decode cX5_answerOf 1 = .ok (.aload_n 0, 1) := by decide +kernel
theorem dX5_answerOf_2 : decode cX5_answerOf 2 = .ok (.getfield 48, 3) := by decide +kernel
theorem dX5_answerOf_5 : decode cX5_answerOf 5 = .ok (.iload_n 1, 1) := by decide +kernel
theorem dX5_answerOf_6 : decode cX5_answerOf 6 = .ok (.iaload, 1) := by decide +kernel
theorem dX5_answerOf_7 : decode cX5_answerOf 7 = .ok (.aload_n 0, 1) := by decide +kernel
theorem dX5_answerOf_8 : decode cX5_answerOf 8 = .ok (.getfield 51, 3) := by decide +kernel
theorem dX5_answerOf_11 : decode cX5_answerOf 11 = .ok (.iload_n 1, 1) := by decide +kernel
theorem dX5_answerOf_12 : decode cX5_answerOf 12 = .ok (.iaload, 1) := by decide +kernel
theorem dX5_answerOf_13 : decode cX5_answerOf 13 = .ok (.iload_n 2, 1) := by decide +kernel
theorem dX5_answerOf_14 : decode cX5_answerOf 14 = .ok (.iconst (-1), 1) := by decide +kernel
theorem dX5_answerOf_15 : decode cX5_answerOf 15 = .ok (.iconst 0, 1) := by decide +kernel
theorem dX5_answerOf_16 : decode cX5_answerOf 16 = .ok (.invokevirtual 144, 3) := by decide +kernel
theorem dX5_answerOf_19 : decode cX5_answerOf 19 = .ok (.aload_n 0, 1) := by decide +kernel
theorem dX5_answerOf_20 : decode cX5_answerOf 20 = .ok (.getfield 54, 3) := by decide +kernel
theorem dX5_answerOf_23 : decode cX5_answerOf 23 = .ok (.iload_n 1, 1) := by decide +kernel
theorem dX5_answerOf_24 : decode cX5_answerOf 24 = .ok (.iaload, 1) := by decide +kernel
theorem dX5_answerOf_25 : decode cX5_answerOf 25 = .ok (.ifCond .ne 17, 3) := by decide +kernel
theorem dX5_answerOf_28 : decode cX5_answerOf 28 = .ok (.aload_n 0, 1) := by decide +kernel
theorem dX5_answerOf_29 : decode cX5_answerOf 29 = .ok (.getfield 22, 3) := by decide +kernel
theorem dX5_answerOf_32 : decode cX5_answerOf 32 = .ok (.aload_n 0, 1) := by decide +kernel
theorem dX5_answerOf_33 : decode cX5_answerOf 33 = .ok (.getfield 57, 3) := by decide +kernel
theorem dX5_answerOf_36 : decode cX5_answerOf 36 = .ok (.iload_n 1, 1) := by decide +kernel
theorem dX5_answerOf_37 : decode cX5_answerOf 37 = .ok (.iaload, 1) := by decide +kernel
theorem dX5_answerOf_38 : decode cX5_answerOf 38 = .ok (.iaload, 1) := by decide +kernel
theorem dX5_answerOf_39 : decode cX5_answerOf 39 = .ok (.goto 39, 3) := by decide +kernel
theorem dX5_answerOf_42 : decode cX5_answerOf 42 = .ok (.aload_n 0, 1) := by decide +kernel
theorem dX5_answerOf_43 : decode cX5_answerOf 43 = .ok (.getfield 54, 3) := by decide +kernel
theorem dX5_answerOf_46 : decode cX5_answerOf 46 = .ok (.iload_n 1, 1) := by decide +kernel
theorem dX5_answerOf_47 : decode cX5_answerOf 47 = .ok (.iaload, 1) := by decide +kernel
theorem dX5_answerOf_48 : decode cX5_answerOf 48 = .ok (.iconst 1, 1) := by decide +kernel
theorem dX5_answerOf_49 : decode cX5_answerOf 49 = .ok (.if_icmp .ne 17, 3) := by decide +kernel
theorem dX5_answerOf_52 : decode cX5_answerOf 52 = .ok (.aload_n 0, 1) := by decide +kernel
theorem dX5_answerOf_53 : decode cX5_answerOf 53 = .ok (.getfield 35, 3) := by decide +kernel
theorem dX5_answerOf_56 : decode cX5_answerOf 56 = .ok (.aload_n 0, 1) := by decide +kernel
theorem dX5_answerOf_57 : decode cX5_answerOf 57 = .ok (.getfield 57, 3) := by decide +kernel
theorem dX5_answerOf_60 : decode cX5_answerOf 60 = .ok (.iload_n 1, 1) := by decide +kernel
theorem dX5_answerOf_61 : decode cX5_answerOf 61 = .ok (.iaload, 1) := by decide +kernel
theorem dX5_answerOf_62 : decode cX5_answerOf 62 = .ok (.iaload, 1) := by decide +kernel
theorem dX5_answerOf_63 : decode cX5_answerOf 63 = .ok (.goto 15, 3) := by decide +kernel
theorem dX5_answerOf_66 : decode cX5_answerOf 66 = .ok (.aload_n 0, 1) := by decide +kernel
theorem dX5_answerOf_67 : decode cX5_answerOf 67 = .ok (.iconst 4, 1) := by decide +kernel
theorem dX5_answerOf_68 : decode cX5_answerOf 68 = .ok (.aload_n 0, 1) := by decide +kernel
theorem dX5_answerOf_69 : decode cX5_answerOf 69 = .ok (.getfield 57, 3) := by decide +kernel
theorem dX5_answerOf_72 : decode cX5_answerOf 72 = .ok (.iload_n 1, 1) := by decide +kernel
theorem dX5_answerOf_73 : decode cX5_answerOf 73 = .ok (.iaload, 1) := by decide +kernel
theorem dX5_answerOf_74 : decode cX5_answerOf 74 = .ok (.iadd, 1) := by decide +kernel
theorem dX5_answerOf_75 : decode cX5_answerOf 75 = .ok (.invokevirtual 148, 3) := by decide +kernel
theorem dX5_answerOf_78 : decode cX5_answerOf 78 = .ok (.ireturn, 1) := by decide +kernel
theorem dX5_answer_0 : decode cX5_answer 0 = .ok (.aload_n 0, 1) := by decide +kernel
theorem dX5_answer_1 : decode cX5_answer 1 = .ok (.iload_n 1, 1) := by decide +kernel
theorem dX5_answer_2 : decode cX5_answer 2 = .ok (.invokevirtual 152, 3) := by decide +kernel
theorem dX5_answer_5 : decode cX5_answer 5 = .ok (.ifCond .eq 22, 3) := by decide +kernel
theorem dX5_answer_8 : decode cX5_answer 8 = .ok (.iload_n 2, 1) := by decide +kernel
theorem dX5_answer_9 : decode cX5_answer 9 = .ok (.iconst 0, 1) := by decide +kernel
theorem dX5_answer_10 : decode cX5_answer 10 = .ok (.bipush 63, 2) := by decide +kernel
theorem dX5_answer_12 : decode cX5_answer 12 = .ok (.invokestatic 97, 3) := by decide +kernel
theorem dX5_answer_15 : decode cX5_answer 15 = .ok (.ifCond .eq 12, 3) := by decide +kernel
theorem dX5_answer_18 : decode cX5_answer 18 = .ok (.aload_n 0, 1) := by decide +kernel
theorem dX5_answer_19 : decode cX5_answer 19 = .ok (.iload_n 1, 1) := by decide +kernel
theorem dX5_answer_20 : decode cX5_answer 20 = .ok (.iload_n 2, 1) := by decide +kernel
theorem dX5_answer_21 : decode cX5_answer 21 = .ok (.invokevirtual 155, 3) := by decide +kernel
theorem dX5_answer_24 : decode cX5_answer 24 = .ok (.goto 5, 3) := by decide +kernel
theorem dX5_answer_27 : decode cX5_answer 27 = .ok (.ldc 112, 2) := by decide +kernel
theorem dX5_answer_29 : decode cX5_answer 29 = .ok (.ireturn, 1) := by decide +kernel
theorem dX5_choices_0 : decode cX5_choices 0 = .ok (.aload_n 0, 1) := by decide +kernel
theorem dX5_choices_1 : decode cX5_choices 1 = .ok (.iload_n 1, 1) := by decide +kernel
theorem dX5_choices_2 : decode cX5_choices 2 = .ok (.invokevirtual 152, 3) := by decide +kernel
theorem dX5_choices_5 : decode cX5_choices 5 = .ok (.ifCond .eq 13, 3) := by decide +kernel
theorem dX5_choices_8 : decode cX5_choices 8 = .ok (.iload_n 2, 1) := by decide +kernel
theorem dX5_choices_9 : decode cX5_choices 9 = .ok (.iconst 2, 1) := by decide +kernel
theorem dX5_choices_10 : decode cX5_choices 10 = .ok (.bipush 6, 2) := by decide +kernel
theorem dX5_choices_12 : decode cX5_choices 12 = .ok (.invokestatic 97, 3) := by decide +kernel
theorem dX5_choices_15 : decode cX5_choices 15 = .ok (.ifCond .ne 5, 3) := by decide +kernel
theorem dX5_choices_18 : decode cX5_choices 18 = .ok (.iconst (-1), 1) := by decide +kernel
theorem dX5_choices_19 : decode cX5_choices 19 = .ok (.ireturn, 1) := by decide +kernel
theorem dX5_choices_20 : decode cX5_choices 20 = .ok (.iconst 0, 1) := by decide +kernel
theorem dX5_choices_21 : decode cX5_choices 21 = .ok (.istore_n 3, 1) := by decide +kernel
theorem dX5_choices_22 : decode cX5_choices 22 = .ok (.iconst (-1), 1) := by decide +kernel
theorem dX5_choices_23 : decode cX5_choices 23 = .ok (.istore 4, 2) := by decide +kernel
theorem dX5_choices_25 : decode cX5_choices 25 = .ok (.iload 4, 2) := by decide +kernel
theorem dX5_choices_27 : decode cX5_choices 27 = .ok (.bipush 6, 2) := by decide +kernel
theorem dX5_choices_29 : decode cX5_choices 29 = .ok (.if_icmp .ge 115, 3) := by decide +kernel
theorem dX5_choices_32 : decode cX5_choices 32 = .ok (.aload_n 0, 1) := by decide +kernel
theorem dX5_choices_33 : decode cX5_choices 33 = .ok (.iload_n 1, 1) := by decide +kernel
theorem dX5_choices_34 : decode cX5_choices 34 = .ok (.iload 4, 2) := by decide +kernel
theorem dX5_choices_36 : decode cX5_choices 36 = .ok (.ifCond .ge 7, 3) := by decide +kernel
theorem dX5_choices_39 : decode cX5_choices 39 = .ok (.iconst 0, 1) := by decide +kernel
theorem dX5_choices_40 : decode cX5_choices 40 = .ok (.goto 7, 3) := by decide +kernel
theorem dX5_choices_43 : decode cX5_choices 43 = .ok (.iconst 1, 1) := by decide +kernel
theorem dX5_choices_44 : decode cX5_choices 44 = .ok (.iload 4, 2) := by decide +kernel
theorem dX5_choices_46 : decode cX5_choices 46 = .ok (.ishl, 1) := by decide +kernel
theorem dX5_choices_47 : decode cX5_choices 47 = .ok (.invokevirtual 155, 3) := by decide +kernel
theorem dX5_choices_50 : decode cX5_choices 50 = .ok (.istore 5, 2) := by decide +kernel
theorem dX5_choices_52 : decode cX5_choices 52 = .ok (.iload_n 3, 1) := by decide +kernel
theorem dX5_choices_53 : decode cX5_choices 53 = .ok (.iload_n 2, 1) := by decide +kernel
theorem dX5_choices_54 : decode cX5_choices 54 = .ok (.if_icmp .ge 7, 3) := by decide +kernel
theorem dX5_choices_57 : decode cX5_choices 57 = .ok (.iconst 1, 1) := by decide +kernel
theorem dX5_choices_58 : decode cX5_choices 58 = .ok (.goto 4, 3) := by decide +kernel
theorem dX5_choices_61 : decode cX5_choices 61 = .ok (.iconst 0, 1) := by decide +kernel
theorem dX5_choices_62 : decode cX5_choices 62 = .ok (.istore 6, 2) := by decide +kernel
theorem dX5_choices_64 : decode cX5_choices 64 = .ok (.iconst 0, 1) := by decide +kernel
theorem dX5_choices_65 : decode cX5_choices 65 = .ok (.istore 7, 2) := by decide +kernel
theorem dX5_choices_67 : decode cX5_choices 67 = .ok (.iload 7, 2) := by decide +kernel
theorem dX5_choices_69 : decode cX5_choices 69 = .ok (.iload_n 3, 1) := by decide +kernel
theorem dX5_choices_70 : decode cX5_choices 70 = .ok (.if_icmp .ge 33, 3) := by decide +kernel
theorem dX5_choices_73 : decode cX5_choices 73 = .ok (.iload 6, 2) := by decide +kernel
theorem dX5_choices_75 : decode cX5_choices 75 = .ok (.ifCond .eq 19, 3) := by decide +kernel
theorem dX5_choices_78 : decode cX5_choices 78 = .ok (.aload_n 0, 1) := by decide +kernel
theorem dX5_choices_79 : decode cX5_choices 79 = .ok (.getfield 85, 3) := by decide +kernel
theorem dX5_choices_82 : decode cX5_choices 82 = .ok (.iload 7, 2) := by decide +kernel
theorem dX5_choices_84 : decode cX5_choices 84 = .ok (.iaload, 1) := by decide +kernel
theorem dX5_choices_85 : decode cX5_choices 85 = .ok (.iload 5, 2) := by decide +kernel
theorem dX5_choices_87 : decode cX5_choices 87 = .ok (.if_icmp .eq 7, 3) := by decide +kernel
theorem dX5_choices_90 : decode cX5_choices 90 = .ok (.iconst 1, 1) := by decide +kernel
theorem dX5_choices_91 : decode cX5_choices 91 = .ok (.goto 4, 3) := by decide +kernel
theorem dX5_choices_94 : decode cX5_choices 94 = .ok (.iconst 0, 1) := by decide +kernel
theorem dX5_choices_95 : decode cX5_choices 95 = .ok (.istore 6, 2) := by decide +kernel
theorem dX5_choices_97 : decode cX5_choices 97 = .ok (.iinc 7 1, 3) := by decide +kernel
theorem dX5_choices_100 : decode cX5_choices 100 = .ok (.goto (-33), 3) := by decide +kernel
theorem dX5_choices_103 : decode cX5_choices 103 = .ok (.iload 6, 2) := by decide +kernel
theorem dX5_choices_105 : decode cX5_choices 105 = .ok (.ifCond .eq 33, 3) := by decide +kernel
theorem dX5_choices_108 : decode cX5_choices 108 = .ok (.aload_n 0, 1) := by decide +kernel
theorem dX5_choices_109 : decode cX5_choices 109 = .ok (.getfield 85, 3) := by decide +kernel
theorem dX5_choices_112 : decode cX5_choices 112 = .ok (.iload_n 3, 1) := by decide +kernel
theorem dX5_choices_113 : decode cX5_choices 113 = .ok (.iload 5, 2) := by decide +kernel
theorem dX5_choices_115 : decode cX5_choices 115 = .ok (.iastore, 1) := by decide +kernel
theorem dX5_choices_116 : decode cX5_choices 116 = .ok (.aload_n 0, 1) := by decide +kernel
theorem dX5_choices_117 : decode cX5_choices 117 = .ok (.getfield 82, 3) := by decide +kernel
theorem dX5_choices_120 : decode cX5_choices 120 = .ok (.iload_n 3, 1) := by decide +kernel
theorem dX5_choices_121 : decode cX5_choices 121 = .ok (.iload 4, 2) := by decide +kernel
theorem dX5_choices_123 : decode cX5_choices 123 = .ok (.ifCond .ge 7, 3) := by decide +kernel
theorem dX5_choices_126 : decode cX5_choices 126 = .ok (.iconst 0, 1) := by decide +kernel
theorem dX5_choices_127 : decode cX5_choices 127 = .ok (.goto 7, 3) := by decide +kernel
theorem dX5_choices_130 : decode cX5_choices 130 = .ok (.iconst 1, 1) := by decide +kernel
theorem dX5_choices_131 : decode cX5_choices 131 = .ok (.iload 4, 2) := by decide +kernel
theorem dX5_choices_133 : decode cX5_choices 133 = .ok (.ishl, 1) := by decide +kernel
theorem dX5_choices_134 : decode cX5_choices 134 = .ok (.iastore, 1) := by decide +kernel
theorem dX5_choices_135 : decode cX5_choices 135 = .ok (.iinc 3 1, 3) := by decide +kernel
theorem dX5_choices_138 : decode cX5_choices 138 = .ok (.iinc 4 1, 3) := by decide +kernel
theorem dX5_choices_141 : decode cX5_choices 141 = .ok (.goto (-116), 3) := by decide +kernel
theorem dX5_choices_144 : decode cX5_choices 144 = .ok (.iload_n 3, 1) := by decide +kernel
theorem dX5_choices_145 : decode cX5_choices 145 = .ok (.iload_n 2, 1) := by decide +kernel
theorem dX5_choices_146 : decode cX5_choices 146 = .ok (.if_icmp .ge 6, 3) := by decide +kernel
theorem dX5_choices_149 : decode cX5_choices 149 = .ok (.bipush (-3), 2) := by decide +kernel
theorem dX5_choices_151 : decode cX5_choices 151 = .ok (.ireturn, 1) := by decide +kernel
theorem dX5_choices_152 : decode cX5_choices 152 = .ok (.aload_n 0, 1) := by decide +kernel
theorem dX5_choices_153 : decode cX5_choices 153 = .ok (.iload_n 2, 1) := by decide +kernel
theorem dX5_choices_154 : decode cX5_choices 154 = .ok (.putfield 158, 3) := by decide +kernel
theorem dX5_choices_157 : decode cX5_choices 157 = .ok (.iconst 0, 1) := by decide +kernel
theorem dX5_choices_158 : decode cX5_choices 158 = .ok (.istore 4, 2) := by decide +kernel
theorem dX5_choices_160 : decode cX5_choices 160 = .ok (.iload 4, 2) := by decide +kernel
theorem dX5_choices_162 : decode cX5_choices 162 = .ok (.iload_n 2, 1) := by decide +kernel
theorem dX5_choices_163 : decode cX5_choices 163 = .ok (.if_icmp .ge 37, 3) := by decide +kernel
theorem dX5_choices_166 : decode cX5_choices 166 = .ok (.aload_n 0, 1) := by decide +kernel
theorem dX5_choices_167 : decode cX5_choices 167 = .ok (.getfield 60, 3) := by decide +kernel
theorem dX5_choices_170 : decode cX5_choices 170 = .ok (.iload 4, 2) := by decide +kernel
theorem dX5_choices_172 : decode cX5_choices 172 = .ok (.aload_n 0, 1) := by decide +kernel
theorem dX5_choices_173 : decode cX5_choices 173 = .ok (.getfield 85, 3) := by decide +kernel
theorem dX5_choices_176 : decode cX5_choices 176 = .ok (.iload 4, 2) := by decide +kernel
theorem dX5_choices_178 : decode cX5_choices 178 = .ok (.iaload, 1) := by decide +kernel
theorem dX5_choices_179 : decode cX5_choices 179 = .ok (.iastore, 1) := by decide +kernel
theorem dX5_choices_180 : decode cX5_choices 180 = .ok (.aload_n 0, 1) := by decide +kernel
theorem dX5_choices_181 : decode cX5_choices 181 = .ok (.getfield 63, 3) := by decide +kernel
theorem dX5_choices_184 : decode cX5_choices 184 = .ok (.iload 4, 2) := by decide +kernel
theorem dX5_choices_186 : decode cX5_choices 186 = .ok (.aload_n 0, 1) := by decide +kernel
theorem dX5_choices_187 : decode cX5_choices 187 = .ok (.getfield 82, 3) := by decide +kernel
theorem dX5_choices_190 : decode cX5_choices 190 = .ok (.iload 4, 2) := by decide +kernel
theorem dX5_choices_192 : decode cX5_choices 192 = .ok (.iaload, 1) := by decide +kernel
theorem dX5_choices_193 : decode cX5_choices 193 = .ok (.iastore, 1) := by decide +kernel
theorem dX5_choices_194 : decode cX5_choices 194 = .ok (.iinc 4 1, 3) := by decide +kernel
theorem dX5_choices_197 : decode cX5_choices 197 = .ok (.goto (-37), 3) := by decide +kernel
theorem dX5_choices_200 : decode cX5_choices 200 = .ok (.iload_n 2, 1) := by decide +kernel
theorem dX5_choices_201 : decode cX5_choices 201 = .ok (.ireturn, 1) := by decide +kernel
theorem dX5_choice_0 : decode cX5_choice 0 = .ok (.iload_n 1, 1) := by decide +kernel
theorem dX5_choice_1 : decode cX5_choice 1 = .ok (.ifCond .lt 42, 3) := by decide +kernel
theorem dX5_choice_4 : decode cX5_choice 4 = .ok (.iload_n 1, 1) := by decide +kernel
theorem dX5_choice_5 : decode cX5_choice 5 = .ok (.aload_n 0, 1) := by decide +kernel
theorem dX5_choice_6 : decode cX5_choice 6 = .ok (.getfield 158, 3) := by decide +kernel
theorem dX5_choice_9 : decode cX5_choice 9 = .ok (.if_icmp .ge 34, 3) := by decide +kernel
theorem dX5_choice_12 : decode cX5_choice 12 = .ok (.iload_n 2, 1) := by decide +kernel
theorem dX5_choice_13 : decode cX5_choice 13 = .ok (.iconst 0, 1) := by decide +kernel
theorem dX5_choice_14 : decode cX5_choice 14 = .ok (.iconst 1, 1) := by decide +kernel
theorem dX5_choice_15 : decode cX5_choice 15 = .ok (.invokestatic 97, 3) := by decide +kernel
theorem dX5_choice_18 : decode cX5_choice 18 = .ok (.ifCond .eq 25, 3) := by decide +kernel
theorem dX5_choice_21 : decode cX5_choice 21 = .ok (.iload_n 2, 1) := by decide +kernel
theorem dX5_choice_22 : decode cX5_choice 22 = .ok (.ifCond .ne 12, 3) := by decide +kernel
theorem dX5_choice_25 : decode cX5_choice 25 = .ok (.aload_n 0, 1) := by decide +kernel
theorem dX5_choice_26 : decode cX5_choice 26 = .ok (.getfield 60, 3) := by decide +kernel
theorem dX5_choice_29 : decode cX5_choice 29 = .ok (.iload_n 1, 1) := by decide +kernel
theorem dX5_choice_30 : decode cX5_choice 30 = .ok (.iaload, 1) := by decide +kernel
theorem dX5_choice_31 : decode cX5_choice 31 = .ok (.goto 14, 3) := by decide +kernel
theorem dX5_choice_34 : decode cX5_choice 34 = .ok (.aload_n 0, 1) := by decide +kernel
theorem dX5_choice_35 : decode cX5_choice 35 = .ok (.getfield 63, 3) := by decide +kernel
theorem dX5_choice_38 : decode cX5_choice 38 = .ok (.iload_n 1, 1) := by decide +kernel
theorem dX5_choice_39 : decode cX5_choice 39 = .ok (.iaload, 1) := by decide +kernel
theorem dX5_choice_40 : decode cX5_choice 40 = .ok (.goto 5, 3) := by decide +kernel
theorem dX5_choice_43 : decode cX5_choice 43 = .ok (.ldc 112, 2) := by decide +kernel
theorem dX5_choice_45 : decode cX5_choice 45 = .ok (.ireturn, 1) := by decide +kernel
theorem dX5_gap_0 : decode cX5_gap 0 = .ok (.aload_n 0, 1) := by decide +kernel
theorem dX5_gap_1 : decode cX5_gap 1 = .ok (.iload_n 1, 1) := by decide +kernel
theorem dX5_gap_2 : decode cX5_gap 2 = .ok (.invokevirtual 101, 3) := by decide +kernel
theorem dX5_gap_5 : decode cX5_gap 5 = .ok (.ifCond .eq 17, 3) := by decide +kernel
theorem dX5_gap_8 : decode cX5_gap 8 = .ok (.iload_n 2, 1) := by decide +kernel
theorem dX5_gap_9 : decode cX5_gap 9 = .ok (.ifCond .lt 13, 3) := by decide +kernel
theorem dX5_gap_12 : decode cX5_gap 12 = .ok (.iload_n 2, 1) := by decide +kernel
theorem dX5_gap_13 : decode cX5_gap 13 = .ok (.aload_n 0, 1) := by decide +kernel
theorem dX5_gap_14 : decode cX5_gap 14 = .ok (.getfield 19, 3) := by decide +kernel
theorem dX5_gap_17 : decode cX5_gap 17 = .ok (.iload_n 1, 1) := by decide +kernel
theorem dX5_gap_18 : decode cX5_gap 18 = .ok (.iaload, 1) := by decide +kernel
theorem dX5_gap_19 : decode cX5_gap 19 = .ok (.if_icmp .lt 5, 3) := by decide +kernel
theorem dX5_gap_22 : decode cX5_gap 22 = .ok (.iconst (-1), 1) := by decide +kernel
theorem dX5_gap_23 : decode cX5_gap 23 = .ok (.ireturn, 1) := by decide +kernel
theorem dX5_gap_24 : decode cX5_gap 24 = .ok (.aload_n 0, 1) := by decide +kernel
theorem dX5_gap_25 : decode cX5_gap 25 = .ok (.iload_n 1, 1) := by decide +kernel
theorem dX5_gap_26 : decode cX5_gap 26 = .ok (.invokevirtual 113, 3) := by decide +kernel
theorem dX5_gap_29 : decode cX5_gap 29 = .ok (.ifCond .eq 17, 3) := by decide +kernel
theorem dX5_gap_32 : decode cX5_gap 32 = .ok (.aload_n 0, 1) := by decide +kernel
theorem dX5_gap_33 : decode cX5_gap 33 = .ok (.getfield 9, 3) := by decide +kernel
theorem dX5_gap_36 : decode cX5_gap 36 = .ok (.bipush 20, 2) := by decide +kernel
theorem dX5_gap_38 : decode cX5_gap 38 = .ok (.iload_n 1, 1) := by decide +kernel
theorem dX5_gap_39 : decode cX5_gap 39 = .ok (.imul, 1) := by decide +kernel
theorem dX5_gap_40 : decode cX5_gap 40 = .ok (.iload_n 2, 1) := by decide +kernel
theorem dX5_gap_41 : decode cX5_gap 41 = .ok (.iadd, 1) := by decide +kernel
theorem dX5_gap_42 : decode cX5_gap 42 = .ok (.iaload, 1) := by decide +kernel
theorem dX5_gap_43 : decode cX5_gap 43 = .ok (.ifCond .eq 6, 3) := by decide +kernel
theorem dX5_gap_46 : decode cX5_gap 46 = .ok (.bipush (-3), 2) := by decide +kernel
theorem dX5_gap_48 : decode cX5_gap 48 = .ok (.ireturn, 1) := by decide +kernel
theorem dX5_gap_49 : decode cX5_gap 49 = .ok (.iconst 0, 1) := by decide +kernel
theorem dX5_gap_50 : decode cX5_gap 50 = .ok (.istore_n 3, 1) := by decide +kernel
theorem dX5_gap_51 : decode cX5_gap 51 = .ok (.iload_n 3, 1) := by decide +kernel
theorem dX5_gap_52 : decode cX5_gap 52 = .ok (.bipush 10, 2) := by decide +kernel
theorem dX5_gap_54 : decode cX5_gap 54 = .ok (.if_icmp .ge 52, 3) := by decide +kernel
theorem dX5_gap_57 : decode cX5_gap 57 = .ok (.aload_n 0, 1) := by decide +kernel
theorem dX5_gap_58 : decode cX5_gap 58 = .ok (.iload_n 1, 1) := by decide +kernel
theorem dX5_gap_59 : decode cX5_gap 59 = .ok (.iload_n 3, 1) := by decide +kernel
theorem dX5_gap_60 : decode cX5_gap 60 = .ok (.iconst 0, 1) := by decide +kernel
theorem dX5_gap_61 : decode cX5_gap 61 = .ok (.iconst (-1), 1) := by decide +kernel
theorem dX5_gap_62 : decode cX5_gap 62 = .ok (.iconst 0, 1) := by decide +kernel
theorem dX5_gap_63 : decode cX5_gap 63 = .ok (.invokevirtual 144, 3) := by decide +kernel
theorem dX5_gap_66 : decode cX5_gap 66 = .ok (.iconst 0, 1) := by decide +kernel
theorem dX5_gap_67 : decode cX5_gap 67 = .ok (.istore 4, 2) := by decide +kernel
theorem dX5_gap_69 : decode cX5_gap 69 = .ok (.iload 4, 2) := by decide +kernel
theorem dX5_gap_71 : decode cX5_gap 71 = .ok (.bipush 13, 2) := by decide +kernel
theorem dX5_gap_73 : decode cX5_gap 73 = .ok (.if_icmp .ge 27, 3) := by decide +kernel
theorem dX5_gap_76 : decode cX5_gap 76 = .ok (.aload_n 0, 1) := by decide +kernel
theorem dX5_gap_77 : decode cX5_gap 77 = .ok (.getfield 69, 3) := by decide +kernel
theorem dX5_gap_80 : decode cX5_gap 80 = .ok (.bipush 13, 2) := by decide +kernel
theorem dX5_gap_82 : decode cX5_gap 82 = .ok (.iload_n 3, 1) := by decide +kernel
theorem dX5_gap_83 : decode cX5_gap 83 = .ok (.imul, 1) := by decide +kernel
theorem dX5_gap_84 : decode cX5_gap 84 = .ok (.iload 4, 2) := by decide +kernel
theorem dX5_gap_86 : decode cX5_gap 86 = .ok (.iadd, 1) := by decide +kernel
theorem dX5_gap_87 : decode cX5_gap 87 = .ok (.aload_n 0, 1) := by decide +kernel
theorem dX5_gap_88 : decode cX5_gap 88 = .ok (.iload 4, 2) := by decide +kernel
theorem dX5_gap_90 : decode cX5_gap 90 = .ok (.invokevirtual 148, 3) := by decide +kernel
theorem dX5_gap_93 : decode cX5_gap 93 = .ok (.iastore, 1) := by decide +kernel
theorem dX5_gap_94 : decode cX5_gap 94 = .ok (.iinc 4 1, 3) := by decide +kernel
theorem dX5_gap_97 : decode cX5_gap 97 = .ok (.goto (-28), 3) := by decide +kernel
theorem dX5_gap_100 : decode cX5_gap 100 = .ok (.iinc 3 1, 3) := by decide +kernel
theorem dX5_gap_103 : decode cX5_gap 103 = .ok (.goto (-52), 3) := by decide +kernel
theorem dX5_gap_106 : decode cX5_gap 106 = .ok (.aload_n 0, 1) := by decide +kernel
theorem dX5_gap_107 : decode cX5_gap 107 = .ok (.iconst 0, 1) := by decide +kernel
theorem dX5_gap_108 : decode cX5_gap 108 = .ok (.putfield 161, 3) := by decide +kernel
theorem dX5_gap_111 : decode cX5_gap 111 = .ok (.bipush (-9), 2) := by decide +kernel
theorem dX5_gap_113 : decode cX5_gap 113 = .ok (.istore_n 3, 1) := by decide +kernel
theorem dX5_gap_114 : decode cX5_gap 114 = .ok (.iload_n 3, 1) := by decide +kernel
theorem dX5_gap_115 : decode cX5_gap 115 = .ok (.bipush 9, 2) := by decide +kernel
theorem dX5_gap_117 : decode cX5_gap 117 = .ok (.if_icmp .gt 149, 3) := by decide +kernel
theorem dX5_gap_120 : decode cX5_gap 120 = .ok (.iconst 1, 1) := by decide +kernel
theorem dX5_gap_121 : decode cX5_gap 121 = .ok (.istore 4, 2) := by decide +kernel
theorem dX5_gap_123 : decode cX5_gap 123 = .ok (.iconst 0, 1) := by decide +kernel
theorem dX5_gap_124 : decode cX5_gap 124 = .ok (.istore 5, 2) := by decide +kernel
theorem dX5_gap_126 : decode cX5_gap 126 = .ok (.iload 5, 2) := by decide +kernel
theorem dX5_gap_128 : decode cX5_gap 128 = .ok (.bipush 10, 2) := by decide +kernel
theorem dX5_gap_130 : decode cX5_gap 130 = .ok (.if_icmp .ge 105, 3) := by decide +kernel
theorem dX5_gap_133 : decode cX5_gap 133 = .ok (.aload_n 0, 1) := by decide +kernel
theorem dX5_gap_134 : decode cX5_gap 134 = .ok (.iload_n 1, 1) := by decide +kernel
theorem dX5_gap_135 : decode cX5_gap 135 = .ok (.iload 5, 2) := by decide +kernel
theorem dX5_gap_137 : decode cX5_gap 137 = .ok (.iconst 0, 1) := by decide +kernel
theorem dX5_gap_138 : decode cX5_gap 138 = .ok (.iload_n 2, 1) := by decide +kernel
theorem dX5_gap_139 : decode cX5_gap 139 = .ok (.iload_n 3, 1) := by decide +kernel
theorem dX5_gap_140 : decode cX5_gap 140 = .ok (.invokevirtual 144, 3) := by decide +kernel
theorem dX5_gap_143 : decode cX5_gap 143 = .ok (.aload_n 0, 1) := by decide +kernel
theorem dX5_gap_144 : decode cX5_gap 144 = .ok (.getfield 119, 3) := by decide +kernel
theorem dX5_gap_147 : decode cX5_gap 147 = .ok (.ifCond .eq 24, 3) := by decide +kernel
theorem dX5_gap_150 : decode cX5_gap 150 = .ok (.aload_n 0, 1) := by decide +kernel
theorem dX5_gap_151 : decode cX5_gap 151 = .ok (.getfield 69, 3) := by decide +kernel
theorem dX5_gap_154 : decode cX5_gap 154 = .ok (.bipush 13, 2) := by decide +kernel
theorem dX5_gap_156 : decode cX5_gap 156 = .ok (.iload 5, 2) := by decide +kernel
theorem dX5_gap_158 : decode cX5_gap 158 = .ok (.imul, 1) := by decide +kernel
theorem dX5_gap_159 : decode cX5_gap 159 = .ok (.bipush 12, 2) := by decide +kernel
theorem dX5_gap_161 : decode cX5_gap 161 = .ok (.iadd, 1) := by decide +kernel
theorem dX5_gap_162 : decode cX5_gap 162 = .ok (.iaload, 1) := by decide +kernel
theorem dX5_gap_163 : decode cX5_gap 163 = .ok (.iconst 1, 1) := by decide +kernel
theorem dX5_gap_164 : decode cX5_gap 164 = .ok (.if_icmp .ne 7, 3) := by decide +kernel
theorem dX5_gap_167 : decode cX5_gap 167 = .ok (.iconst 1, 1) := by decide +kernel
theorem dX5_gap_168 : decode cX5_gap 168 = .ok (.goto 4, 3) := by decide +kernel
theorem dX5_gap_171 : decode cX5_gap 171 = .ok (.iconst 0, 1) := by decide +kernel
theorem dX5_gap_172 : decode cX5_gap 172 = .ok (.istore 6, 2) := by decide +kernel
theorem dX5_gap_174 : decode cX5_gap 174 = .ok (.iconst 0, 1) := by decide +kernel
theorem dX5_gap_175 : decode cX5_gap 175 = .ok (.istore 7, 2) := by decide +kernel
theorem dX5_gap_177 : decode cX5_gap 177 = .ok (.iload 7, 2) := by decide +kernel
theorem dX5_gap_179 : decode cX5_gap 179 = .ok (.bipush 13, 2) := by decide +kernel
theorem dX5_gap_181 : decode cX5_gap 181 = .ok (.if_icmp .ge 48, 3) := by decide +kernel
theorem dX5_gap_184 : decode cX5_gap 184 = .ok (.iload 4, 2) := by decide +kernel
theorem dX5_gap_186 : decode cX5_gap 186 = .ok (.ifCond .eq 34, 3) := by decide +kernel
theorem dX5_gap_189 : decode cX5_gap 189 = .ok (.iload 6, 2) := by decide +kernel
theorem dX5_gap_191 : decode cX5_gap 191 = .ok (.ifCond .ne 25, 3) := by decide +kernel
theorem dX5_gap_194 : decode cX5_gap 194 = .ok (.aload_n 0, 1) := by decide +kernel
theorem dX5_gap_195 : decode cX5_gap 195 = .ok (.iload 7, 2) := by decide +kernel
theorem dX5_gap_197 : decode cX5_gap 197 = .ok (.invokevirtual 148, 3) := by decide +kernel
theorem dX5_gap_200 : decode cX5_gap 200 = .ok (.aload_n 0, 1) := by decide +kernel
theorem dX5_gap_201 : decode cX5_gap 201 = .ok (.getfield 69, 3) := by decide +kernel
theorem dX5_gap_204 : decode cX5_gap 204 = .ok (.bipush 13, 2) := by decide +kernel
theorem dX5_gap_206 : decode cX5_gap 206 = .ok (.iload 5, 2) := by decide +kernel
theorem dX5_gap_208 : decode cX5_gap 208 = .ok (.imul, 1) := by decide +kernel
theorem dX5_gap_209 : decode cX5_gap 209 = .ok (.iload 7, 2) := by decide +kernel
theorem dX5_gap_211 : decode cX5_gap 211 = .ok (.iadd, 1) := by decide +kernel
theorem dX5_gap_212 : decode cX5_gap 212 = .ok (.iaload, 1) := by decide +kernel
theorem dX5_gap_213 : decode cX5_gap 213 = .ok (.if_icmp .ne 7, 3) := by decide +kernel
theorem dX5_gap_216 : decode cX5_gap 216 = .ok (.iconst 1, 1) := by decide +kernel
theorem dX5_gap_217 : decode cX5_gap 217 = .ok (.goto 4, 3) := by decide +kernel
theorem dX5_gap_220 : decode cX5_gap 220 = .ok (.iconst 0, 1) := by decide +kernel
theorem dX5_gap_221 : decode cX5_gap 221 = .ok (.istore 4, 2) := by decide +kernel
theorem dX5_gap_223 : decode cX5_gap 223 = .ok (.iinc 7 1, 3) := by decide +kernel
theorem dX5_gap_226 : decode cX5_gap 226 = .ok (.goto (-49), 3) := by decide +kernel
theorem dX5_gap_229 : decode cX5_gap 229 = .ok (.iinc 5 1, 3) := by decide +kernel
theorem dX5_gap_232 : decode cX5_gap 232 = .ok (.goto (-106), 3) := by decide +kernel
theorem dX5_gap_235 : decode cX5_gap 235 = .ok (.iload 4, 2) := by decide +kernel
theorem dX5_gap_237 : decode cX5_gap 237 = .ok (.ifCond .eq 23, 3) := by decide +kernel
theorem dX5_gap_240 : decode cX5_gap 240 = .ok (.aload_n 0, 1) := by decide +kernel
theorem dX5_gap_241 : decode cX5_gap 241 = .ok (.getfield 66, 3) := by decide +kernel
theorem dX5_gap_244 : decode cX5_gap 244 = .ok (.aload_n 0, 1) := by decide +kernel
theorem dX5_gap_245 : decode cX5_gap 245 = .ok (.getfield 161, 3) := by decide +kernel
theorem dX5_gap_248 : decode cX5_gap 248 = .ok (.iload_n 3, 1) := by decide +kernel
theorem dX5_gap_249 : decode cX5_gap 249 = .ok (.iastore, 1) := by decide +kernel
theorem dX5_gap_250 : decode cX5_gap 250 = .ok (.aload_n 0, 1) := by decide +kernel
theorem dX5_gap_251 : decode cX5_gap 251 = .ok (.dup, 1) := by decide +kernel
theorem dX5_gap_252 : decode cX5_gap 252 = .ok (.getfield 161, 3) := by decide +kernel
theorem dX5_gap_255 : decode cX5_gap 255 = .ok (.iconst 1, 1) := by decide +kernel
theorem dX5_gap_256 : decode cX5_gap 256 = .ok (.iadd, 1) := by decide +kernel
theorem dX5_gap_257 : decode cX5_gap 257 = .ok (.putfield 161, 3) := by decide +kernel
theorem dX5_gap_260 : decode cX5_gap 260 = .ok (.iinc 3 1, 3) := by decide +kernel
theorem dX5_gap_263 : decode cX5_gap 263 = .ok (.goto (-149), 3) := by decide +kernel
theorem dX5_gap_266 : decode cX5_gap 266 = .ok (.aload_n 0, 1) := by decide +kernel
theorem dX5_gap_267 : decode cX5_gap 267 = .ok (.getfield 161, 3) := by decide +kernel
theorem dX5_gap_270 : decode cX5_gap 270 = .ok (.ireturn, 1) := by decide +kernel
theorem dX5_filling_0 : decode cX5_filling 0 = .ok (.iload_n 1, 1) := by decide +kernel
theorem dX5_filling_1 : decode cX5_filling 1 = .ok (.ifCond .lt 20, 3) := by decide +kernel
theorem dX5_filling_4 : decode cX5_filling 4 = .ok (.iload_n 1, 1) := by decide +kernel
theorem dX5_filling_5 : decode cX5_filling 5 = .ok (.aload_n 0, 1) := by decide +kernel
theorem dX5_filling_6 : decode cX5_filling 6 = .ok (.getfield 161, 3) := by decide +kernel
theorem dX5_filling_9 : decode cX5_filling 9 = .ok (.if_icmp .ge 12, 3) := by decide +kernel
theorem dX5_filling_12 : decode cX5_filling 12 = .ok (.aload_n 0, 1) := by decide +kernel
theorem dX5_filling_13 : decode cX5_filling 13 = .ok (.getfield 66, 3) := by decide +kernel
theorem dX5_filling_16 : decode cX5_filling 16 = .ok (.iload_n 1, 1) := by decide +kernel
theorem dX5_filling_17 : decode cX5_filling 17 = .ok (.iaload, 1) := by decide +kernel
theorem dX5_filling_18 : decode cX5_filling 18 = .ok (.goto 5, 3) := by decide +kernel
theorem dX5_filling_21 : decode cX5_filling 21 = .ok (.ldc 112, 2) := by decide +kernel
theorem dX5_filling_23 : decode cX5_filling 23 = .ok (.ireturn, 1) := by decide +kernel
theorem dX5_why_0 : decode cX5_why 0 = .ok (.aload_n 0, 1) := by decide +kernel
theorem dX5_why_1 : decode cX5_why 1 = .ok (.iload_n 1, 1) := by decide +kernel
theorem dX5_why_2 : decode cX5_why 2 = .ok (.invokevirtual 152, 3) := by decide +kernel
theorem dX5_why_5 : decode cX5_why 5 = .ok (.ifCond .eq 12, 3) := by decide +kernel
theorem dX5_why_8 : decode cX5_why 8 = .ok (.aload_n 0, 1) := by decide +kernel
theorem dX5_why_9 : decode cX5_why 9 = .ok (.getfield 54, 3) := by decide +kernel
theorem dX5_why_12 : decode cX5_why 12 = .ok (.iload_n 1, 1) := by decide +kernel
theorem dX5_why_13 : decode cX5_why 13 = .ok (.iaload, 1) := by decide +kernel
theorem dX5_why_14 : decode cX5_why 14 = .ok (.ifCond .eq 5, 3) := by decide +kernel
theorem dX5_why_17 : decode cX5_why 17 = .ok (.iconst (-1), 1) := by decide +kernel
theorem dX5_why_18 : decode cX5_why 18 = .ok (.ireturn, 1) := by decide +kernel
theorem dX5_why_19 : decode cX5_why 19 = .ok (.iconst 0, 1) := by decide +kernel
theorem dX5_why_20 : decode cX5_why 20 = .ok (.istore_n 3, 1) := by decide +kernel
theorem dX5_why_21 : decode cX5_why 21 = .ok (.iconst 0, 1) := by decide +kernel
theorem dX5_why_22 : decode cX5_why 22 = .ok (.istore 4, 2) := by decide +kernel
theorem dX5_why_24 : decode cX5_why 24 = .ok (.iload 4, 2) := by decide +kernel
theorem dX5_why_26 : decode cX5_why 26 = .ok (.bipush 10, 2) := by decide +kernel
theorem dX5_why_28 : decode cX5_why 28 = .ok (.if_icmp .ge 57, 3) := by decide +kernel
theorem dX5_why_31 : decode cX5_why 31 = .ok (.aload_n 0, 1) := by decide +kernel
theorem dX5_why_32 : decode cX5_why 32 = .ok (.aload_n 0, 1) := by decide +kernel
theorem dX5_why_33 : decode cX5_why 33 = .ok (.getfield 48, 3) := by decide +kernel
theorem dX5_why_36 : decode cX5_why 36 = .ok (.iload_n 1, 1) := by decide +kernel
theorem dX5_why_37 : decode cX5_why 37 = .ok (.iaload, 1) := by decide +kernel
theorem dX5_why_38 : decode cX5_why 38 = .ok (.iload 4, 2) := by decide +kernel
theorem dX5_why_40 : decode cX5_why 40 = .ok (.iconst 0, 1) := by decide +kernel
theorem dX5_why_41 : decode cX5_why 41 = .ok (.iconst (-1), 1) := by decide +kernel
theorem dX5_why_42 : decode cX5_why 42 = .ok (.iconst 0, 1) := by decide +kernel
theorem dX5_why_43 : decode cX5_why 43 = .ok (.invokevirtual 144, 3) := by decide +kernel
theorem dX5_why_46 : decode cX5_why 46 = .ok (.iload_n 3, 1) := by decide +kernel
theorem dX5_why_47 : decode cX5_why 47 = .ok (.aload_n 0, 1) := by decide +kernel
theorem dX5_why_48 : decode cX5_why 48 = .ok (.getfield 119, 3) := by decide +kernel
theorem dX5_why_51 : decode cX5_why 51 = .ok (.ifCond .ne 25, 3) := by decide +kernel
theorem dX5_why_54 : decode cX5_why 54 = .ok (.aload_n 0, 1) := by decide +kernel
theorem dX5_why_55 : decode cX5_why 55 = .ok (.getfield 22, 3) := by decide +kernel
theorem dX5_why_58 : decode cX5_why 58 = .ok (.aload_n 0, 1) := by decide +kernel
theorem dX5_why_59 : decode cX5_why 59 = .ok (.getfield 57, 3) := by decide +kernel
theorem dX5_why_62 : decode cX5_why 62 = .ok (.iload_n 1, 1) := by decide +kernel
theorem dX5_why_63 : decode cX5_why 63 = .ok (.iaload, 1) := by decide +kernel
theorem dX5_why_64 : decode cX5_why 64 = .ok (.iaload, 1) := by decide +kernel
theorem dX5_why_65 : decode cX5_why 65 = .ok (.iload_n 2, 1) := by decide +kernel
theorem dX5_why_66 : decode cX5_why 66 = .ok (.if_icmp .ne 10, 3) := by decide +kernel
theorem dX5_why_69 : decode cX5_why 69 = .ok (.iconst 1, 1) := by decide +kernel
theorem dX5_why_70 : decode cX5_why 70 = .ok (.iload 4, 2) := by decide +kernel
theorem dX5_why_72 : decode cX5_why 72 = .ok (.ishl, 1) := by decide +kernel
theorem dX5_why_73 : decode cX5_why 73 = .ok (.goto 4, 3) := by decide +kernel
theorem dX5_why_76 : decode cX5_why 76 = .ok (.iconst 0, 1) := by decide +kernel
theorem dX5_why_77 : decode cX5_why 77 = .ok (.ior, 1) := by decide +kernel
theorem dX5_why_78 : decode cX5_why 78 = .ok (.istore_n 3, 1) := by decide +kernel
theorem dX5_why_79 : decode cX5_why 79 = .ok (.iinc 4 1, 3) := by decide +kernel
theorem dX5_why_82 : decode cX5_why 82 = .ok (.goto (-58), 3) := by decide +kernel
theorem dX5_why_85 : decode cX5_why 85 = .ok (.iload_n 3, 1) := by decide +kernel
theorem dX5_why_86 : decode cX5_why 86 = .ok (.ireturn, 1) := by decide +kernel
theorem dX5_same_0 : decode cX5_same 0 = .ok (.aload_n 0, 1) := by decide +kernel
theorem dX5_same_1 : decode cX5_same 1 = .ok (.iload_n 1, 1) := by decide +kernel
theorem dX5_same_2 : decode cX5_same 2 = .ok (.invokevirtual 101, 3) := by decide +kernel
theorem dX5_same_5 : decode cX5_same 5 = .ok (.ifCond .eq 11, 3) := by decide +kernel
theorem dX5_same_8 : decode cX5_same 8 = .ok (.aload_n 0, 1) := by decide +kernel
theorem dX5_same_9 : decode cX5_same 9 = .ok (.iload_n 2, 1) := by decide +kernel
theorem dX5_same_10 : decode cX5_same 10 = .ok (.invokevirtual 101, 3) := by decide +kernel
theorem dX5_same_13 : decode cX5_same 13 = .ok (.ifCond .ne 5, 3) := by decide +kernel
theorem dX5_same_16 : decode cX5_same 16 = .ok (.iconst (-1), 1) := by decide +kernel
theorem dX5_same_17 : decode cX5_same 17 = .ok (.ireturn, 1) := by decide +kernel
theorem dX5_same_18 : decode cX5_same 18 = .ok (.aload_n 0, 1) := by decide +kernel
theorem dX5_same_19 : decode cX5_same 19 = .ok (.iload_n 1, 1) := by decide +kernel
theorem dX5_same_20 : decode cX5_same 20 = .ok (.invokevirtual 113, 3) := by decide +kernel
theorem dX5_same_23 : decode cX5_same 23 = .ok (.ifCond .eq 11, 3) := by decide +kernel
theorem dX5_same_26 : decode cX5_same 26 = .ok (.aload_n 0, 1) := by decide +kernel
theorem dX5_same_27 : decode cX5_same 27 = .ok (.iload_n 2, 1) := by decide +kernel
theorem dX5_same_28 : decode cX5_same 28 = .ok (.invokevirtual 113, 3) := by decide +kernel
theorem dX5_same_31 : decode cX5_same 31 = .ok (.ifCond .ne 6, 3) := by decide +kernel
theorem dX5_same_34 : decode cX5_same 34 = .ok (.bipush (-3), 2) := by decide +kernel
theorem dX5_same_36 : decode cX5_same 36 = .ok (.ireturn, 1) := by decide +kernel
theorem dX5_same_37 : decode cX5_same 37 = .ok (.iconst 0, 1) := by decide +kernel
theorem dX5_same_38 : decode cX5_same 38 = .ok (.istore_n 3, 1) := by decide +kernel
theorem dX5_same_39 : decode cX5_same 39 = .ok (.iload_n 3, 1) := by decide +kernel
theorem dX5_same_40 : decode cX5_same 40 = .ok (.bipush 10, 2) := by decide +kernel
theorem dX5_same_42 : decode cX5_same 42 = .ok (.if_icmp .ge 144, 3) := by decide +kernel
theorem dX5_same_45 : decode cX5_same 45 = .ok (.aload_n 0, 1) := by decide +kernel
theorem dX5_same_46 : decode cX5_same 46 = .ok (.iload_n 1, 1) := by decide +kernel
theorem dX5_same_47 : decode cX5_same 47 = .ok (.iload_n 3, 1) := by decide +kernel
theorem dX5_same_48 : decode cX5_same 48 = .ok (.iconst 0, 1) := by decide +kernel
theorem dX5_same_49 : decode cX5_same 49 = .ok (.iconst (-1), 1) := by decide +kernel
theorem dX5_same_50 : decode cX5_same 50 = .ok (.iconst 0, 1) := by decide +kernel
theorem dX5_same_51 : decode cX5_same 51 = .ok (.invokevirtual 144, 3) := by decide +kernel
theorem dX5_same_54 : decode cX5_same 54 = .ok (.iconst 0, 1) := by decide +kernel
theorem dX5_same_55 : decode cX5_same 55 = .ok (.istore 4, 2) := by decide +kernel
theorem dX5_same_57 : decode cX5_same 57 = .ok (.iload 4, 2) := by decide +kernel
theorem dX5_same_59 : decode cX5_same 59 = .ok (.bipush 13, 2) := by decide +kernel
theorem dX5_same_61 : decode cX5_same 61 = .ok (.if_icmp .ge 22, 3) := by decide +kernel
theorem dX5_same_64 : decode cX5_same 64 = .ok (.aload_n 0, 1) := by decide +kernel
theorem dX5_same_65 : decode cX5_same 65 = .ok (.getfield 69, 3) := by decide +kernel
theorem dX5_same_68 : decode cX5_same 68 = .ok (.iload 4, 2) := by decide +kernel
theorem dX5_same_70 : decode cX5_same 70 = .ok (.aload_n 0, 1) := by decide +kernel
theorem dX5_same_71 : decode cX5_same 71 = .ok (.iload 4, 2) := by decide +kernel
theorem dX5_same_73 : decode cX5_same 73 = .ok (.invokevirtual 148, 3) := by decide +kernel
theorem dX5_same_76 : decode cX5_same 76 = .ok (.iastore, 1) := by decide +kernel
theorem dX5_same_77 : decode cX5_same 77 = .ok (.iinc 4 1, 3) := by decide +kernel
theorem dX5_same_80 : decode cX5_same 80 = .ok (.goto (-23), 3) := by decide +kernel
theorem dX5_same_83 : decode cX5_same 83 = .ok (.aload_n 0, 1) := by decide +kernel
theorem dX5_same_84 : decode cX5_same 84 = .ok (.iload_n 2, 1) := by decide +kernel
theorem dX5_same_85 : decode cX5_same 85 = .ok (.iload_n 3, 1) := by decide +kernel
theorem dX5_same_86 : decode cX5_same 86 = .ok (.iconst 0, 1) := by decide +kernel
theorem dX5_same_87 : decode cX5_same 87 = .ok (.iconst (-1), 1) := by decide +kernel
theorem dX5_same_88 : decode cX5_same 88 = .ok (.iconst 0, 1) := by decide +kernel
theorem dX5_same_89 : decode cX5_same 89 = .ok (.invokevirtual 144, 3) := by decide +kernel
theorem dX5_same_92 : decode cX5_same 92 = .ok (.aload_n 0, 1) := by decide +kernel
theorem dX5_same_93 : decode cX5_same 93 = .ok (.getfield 119, 3) := by decide +kernel
theorem dX5_same_96 : decode cX5_same 96 = .ok (.aload_n 0, 1) := by decide +kernel
theorem dX5_same_97 : decode cX5_same 97 = .ok (.getfield 69, 3) := by decide +kernel
theorem dX5_same_100 : decode cX5_same 100 = .ok (.bipush 12, 2) := by decide +kernel
theorem dX5_same_102 : decode cX5_same 102 = .ok (.iaload, 1) := by decide +kernel
theorem dX5_same_103 : decode cX5_same 103 = .ok (.iconst 1, 1) := by decide +kernel
theorem dX5_same_104 : decode cX5_same 104 = .ok (.if_icmp .ne 7, 3) := by decide +kernel
theorem dX5_same_107 : decode cX5_same 107 = .ok (.iconst 1, 1) := by decide +kernel
theorem dX5_same_108 : decode cX5_same 108 = .ok (.goto 4, 3) := by decide +kernel
theorem dX5_same_111 : decode cX5_same 111 = .ok (.iconst 0, 1) := by decide +kernel
theorem dX5_same_112 : decode cX5_same 112 = .ok (.if_icmp .ne 7, 3) := by decide +kernel
theorem dX5_same_115 : decode cX5_same 115 = .ok (.iconst 1, 1) := by decide +kernel
theorem dX5_same_116 : decode cX5_same 116 = .ok (.goto 4, 3) := by decide +kernel
theorem dX5_same_119 : decode cX5_same 119 = .ok (.iconst 0, 1) := by decide +kernel
theorem dX5_same_120 : decode cX5_same 120 = .ok (.istore 4, 2) := by decide +kernel
theorem dX5_same_122 : decode cX5_same 122 = .ok (.iconst 0, 1) := by decide +kernel
theorem dX5_same_123 : decode cX5_same 123 = .ok (.istore 5, 2) := by decide +kernel
theorem dX5_same_125 : decode cX5_same 125 = .ok (.iload 5, 2) := by decide +kernel
theorem dX5_same_127 : decode cX5_same 127 = .ok (.iconst 4, 1) := by decide +kernel
theorem dX5_same_128 : decode cX5_same 128 = .ok (.if_icmp .ge 45, 3) := by decide +kernel
theorem dX5_same_131 : decode cX5_same 131 = .ok (.iload 4, 2) := by decide +kernel
theorem dX5_same_133 : decode cX5_same 133 = .ok (.ifCond .eq 31, 3) := by decide +kernel
theorem dX5_same_136 : decode cX5_same 136 = .ok (.aload_n 0, 1) := by decide +kernel
theorem dX5_same_137 : decode cX5_same 137 = .ok (.getfield 119, 3) := by decide +kernel
theorem dX5_same_140 : decode cX5_same 140 = .ok (.ifCond .ne 20, 3) := by decide +kernel
theorem dX5_same_143 : decode cX5_same 143 = .ok (.aload_n 0, 1) := by decide +kernel
theorem dX5_same_144 : decode cX5_same 144 = .ok (.getfield 22, 3) := by decide +kernel
theorem dX5_same_147 : decode cX5_same 147 = .ok (.iload 5, 2) := by decide +kernel
theorem dX5_same_149 : decode cX5_same 149 = .ok (.iaload, 1) := by decide +kernel
theorem dX5_same_150 : decode cX5_same 150 = .ok (.aload_n 0, 1) := by decide +kernel
theorem dX5_same_151 : decode cX5_same 151 = .ok (.getfield 69, 3) := by decide +kernel
theorem dX5_same_154 : decode cX5_same 154 = .ok (.iload 5, 2) := by decide +kernel
theorem dX5_same_156 : decode cX5_same 156 = .ok (.iaload, 1) := by decide +kernel
theorem dX5_same_157 : decode cX5_same 157 = .ok (.if_icmp .ne 7, 3) := by decide +kernel
theorem dX5_same_160 : decode cX5_same 160 = .ok (.iconst 1, 1) := by decide +kernel
theorem dX5_same_161 : decode cX5_same 161 = .ok (.goto 4, 3) := by decide +kernel
theorem dX5_same_164 : decode cX5_same 164 = .ok (.iconst 0, 1) := by decide +kernel
theorem dX5_same_165 : decode cX5_same 165 = .ok (.istore 4, 2) := by decide +kernel
theorem dX5_same_167 : decode cX5_same 167 = .ok (.iinc 5 1, 3) := by decide +kernel
theorem dX5_same_170 : decode cX5_same 170 = .ok (.goto (-45), 3) := by decide +kernel
theorem dX5_same_173 : decode cX5_same 173 = .ok (.iload 4, 2) := by decide +kernel
theorem dX5_same_175 : decode cX5_same 175 = .ok (.ifCond .ne 5, 3) := by decide +kernel
theorem dX5_same_178 : decode cX5_same 178 = .ok (.iload_n 3, 1) := by decide +kernel
theorem dX5_same_179 : decode cX5_same 179 = .ok (.ireturn, 1) := by decide +kernel
theorem dX5_same_180 : decode cX5_same 180 = .ok (.iinc 3 1, 3) := by decide +kernel
theorem dX5_same_183 : decode cX5_same 183 = .ok (.goto (-144), 3) := by decide +kernel
theorem dX5_same_186 : decode cX5_same 186 = .ok (.bipush 10, 2) := by decide +kernel
theorem dX5_same_188 : decode cX5_same 188 = .ok (.ireturn, 1) := by decide +kernel
theorem dX5_isPupil_0 : decode cX5_isPupil 0 = .ok (.iload_n 0, 1) := by decide +kernel
theorem dX5_isPupil_1 : decode cX5_isPupil 1 = .ok (.ifCond .lt 13, 3) := by decide +kernel
theorem dX5_isPupil_4 : decode cX5_isPupil 4 = .ok (.iload_n 0, 1) := by decide +kernel
theorem dX5_isPupil_5 : decode cX5_isPupil 5 = .ok (.bipush 10, 2) := by decide +kernel
theorem dX5_isPupil_7 : decode cX5_isPupil 7 = .ok (.if_icmp .ge 7, 3) := by decide +kernel
theorem dX5_isPupil_10 : decode cX5_isPupil 10 = .ok (.iconst 1, 1) := by decide +kernel
theorem dX5_isPupil_11 : decode cX5_isPupil 11 = .ok (.goto 4, 3) := by decide +kernel
theorem dX5_isPupil_14 : decode cX5_isPupil 14 = .ok (.iconst 0, 1) := by decide +kernel
theorem dX5_isPupil_15 : decode cX5_isPupil 15 = .ok (.ireturn, 1) := by decide +kernel
theorem dX5_give_0 : decode cX5_give 0 = .ok (.iload_n 1, 1) := by decide +kernel
theorem dX5_give_1 : decode cX5_give 1 = .ok (.invokestatic 164, 3) := by decide +kernel
theorem dX5_give_4 : decode cX5_give 4 = .ok (.ifCond .eq 11, 3) := by decide +kernel
theorem dX5_give_7 : decode cX5_give 7 = .ok (.aload_n 0, 1) := by decide +kernel
theorem dX5_give_8 : decode cX5_give 8 = .ok (.iload_n 2, 1) := by decide +kernel
theorem dX5_give_9 : decode cX5_give 9 = .ok (.invokevirtual 152, 3) := by decide +kernel
theorem dX5_give_12 : decode cX5_give 12 = .ok (.ifCond .ne 5, 3) := by decide +kernel
theorem dX5_give_15 : decode cX5_give 15 = .ok (.iconst (-1), 1) := by decide +kernel
theorem dX5_give_16 : decode cX5_give 16 = .ok (.ireturn, 1) := by decide +kernel
theorem dX5_give_17 : decode cX5_give 17 = .ok (.aload_n 0, 1) := by decide +kernel
theorem dX5_give_18 : decode cX5_give 18 = .ok (.getfield 72, 3) := by decide +kernel
theorem dX5_give_21 : decode cX5_give 21 = .ok (.bipush 60, 2) := by decide +kernel
theorem dX5_give_23 : decode cX5_give 23 = .ok (.iload_n 1, 1) := by decide +kernel
theorem dX5_give_24 : decode cX5_give 24 = .ok (.imul, 1) := by decide +kernel
theorem dX5_give_25 : decode cX5_give 25 = .ok (.iload_n 2, 1) := by decide +kernel
theorem dX5_give_26 : decode cX5_give 26 = .ok (.iadd, 1) := by decide +kernel
theorem dX5_give_27 : decode cX5_give 27 = .ok (.iconst 1, 1) := by decide +kernel
theorem dX5_give_28 : decode cX5_give 28 = .ok (.bastore, 1) := by decide +kernel
theorem dX5_give_29 : decode cX5_give 29 = .ok (.aload_n 0, 1) := by decide +kernel
theorem dX5_give_30 : decode cX5_give 30 = .ok (.getfield 76, 3) := by decide +kernel
theorem dX5_give_33 : decode cX5_give 33 = .ok (.bipush 60, 2) := by decide +kernel
theorem dX5_give_35 : decode cX5_give 35 = .ok (.iload_n 1, 1) := by decide +kernel
theorem dX5_give_36 : decode cX5_give 36 = .ok (.imul, 1) := by decide +kernel
theorem dX5_give_37 : decode cX5_give 37 = .ok (.iload_n 2, 1) := by decide +kernel
theorem dX5_give_38 : decode cX5_give 38 = .ok (.iadd, 1) := by decide +kernel
theorem dX5_give_39 : decode cX5_give 39 = .ok (.iload_n 3, 1) := by decide +kernel
theorem dX5_give_40 : decode cX5_give 40 = .ok (.iastore, 1) := by decide +kernel
theorem dX5_give_41 : decode cX5_give 41 = .ok (.iconst 0, 1) := by decide +kernel
theorem dX5_give_42 : decode cX5_give 42 = .ok (.istore 4, 2) := by decide +kernel
theorem dX5_give_44 : decode cX5_give 44 = .ok (.iconst 0, 1) := by decide +kernel
theorem dX5_give_45 : decode cX5_give 45 = .ok (.istore 5, 2) := by decide +kernel
theorem dX5_give_47 : decode cX5_give 47 = .ok (.iload 5, 2) := by decide +kernel
theorem dX5_give_49 : decode cX5_give 49 = .ok (.aload_n 0, 1) := by decide +kernel
theorem dX5_give_50 : decode cX5_give 50 = .ok (.getfield 94, 3) := by decide +kernel
theorem dX5_give_53 : decode cX5_give 53 = .ok (.if_icmp .ge 34, 3) := by decide +kernel
theorem dX5_give_56 : decode cX5_give 56 = .ok (.iload 4, 2) := by decide +kernel
theorem dX5_give_58 : decode cX5_give 58 = .ok (.aload_n 0, 1) := by decide +kernel
theorem dX5_give_59 : decode cX5_give 59 = .ok (.getfield 72, 3) := by decide +kernel
theorem dX5_give_62 : decode cX5_give 62 = .ok (.bipush 60, 2) := by decide +kernel
theorem dX5_give_64 : decode cX5_give 64 = .ok (.iload_n 1, 1) := by decide +kernel
theorem dX5_give_65 : decode cX5_give 65 = .ok (.imul, 1) := by decide +kernel
theorem dX5_give_66 : decode cX5_give 66 = .ok (.iload 5, 2) := by decide +kernel
theorem dX5_give_68 : decode cX5_give 68 = .ok (.iadd, 1) := by decide +kernel
theorem dX5_give_69 : decode cX5_give 69 = .ok (.baload, 1) := by decide +kernel
theorem dX5_give_70 : decode cX5_give 70 = .ok (.ifCond .eq 7, 3) := by decide +kernel
theorem dX5_give_73 : decode cX5_give 73 = .ok (.iconst 1, 1) := by decide +kernel
theorem dX5_give_74 : decode cX5_give 74 = .ok (.goto 4, 3) := by decide +kernel
theorem dX5_give_77 : decode cX5_give 77 = .ok (.iconst 0, 1) := by decide +kernel
theorem dX5_give_78 : decode cX5_give 78 = .ok (.iadd, 1) := by decide +kernel
theorem dX5_give_79 : decode cX5_give 79 = .ok (.istore 4, 2) := by decide +kernel
theorem dX5_give_81 : decode cX5_give 81 = .ok (.iinc 5 1, 3) := by decide +kernel
theorem dX5_give_84 : decode cX5_give 84 = .ok (.goto (-37), 3) := by decide +kernel
theorem dX5_give_87 : decode cX5_give 87 = .ok (.iload 4, 2) := by decide +kernel
theorem dX5_give_89 : decode cX5_give 89 = .ok (.ireturn, 1) := by decide +kernel
theorem dX5_price_0 : decode cX5_price 0 = .ok (.iload_n 1, 1) := by decide +kernel
theorem dX5_price_1 : decode cX5_price 1 = .ok (.iconst 0, 1) := by decide +kernel
theorem dX5_price_2 : decode cX5_price 2 = .ok (.bipush 6, 2) := by decide +kernel
theorem dX5_price_4 : decode cX5_price 4 = .ok (.invokestatic 97, 3) := by decide +kernel
theorem dX5_price_7 : decode cX5_price 7 = .ok (.ifCond .eq 13, 3) := by decide +kernel
theorem dX5_price_10 : decode cX5_price 10 = .ok (.iload_n 2, 1) := by decide +kernel
theorem dX5_price_11 : decode cX5_price 11 = .ok (.iconst 1, 1) := by decide +kernel
theorem dX5_price_12 : decode cX5_price 12 = .ok (.bipush 99, 2) := by decide +kernel
theorem dX5_price_14 : decode cX5_price 14 = .ok (.invokestatic 97, 3) := by decide +kernel
theorem dX5_price_17 : decode cX5_price 17 = .ok (.ifCond .ne 5, 3) := by decide +kernel
theorem dX5_price_20 : decode cX5_price 20 = .ok (.iconst (-1), 1) := by decide +kernel
theorem dX5_price_21 : decode cX5_price 21 = .ok (.ireturn, 1) := by decide +kernel
theorem dX5_price_22 : decode cX5_price 22 = .ok (.aload_n 0, 1) := by decide +kernel
theorem dX5_price_23 : decode cX5_price 23 = .ok (.getfield 79, 3) := by decide +kernel
theorem dX5_price_26 : decode cX5_price 26 = .ok (.iload_n 1, 1) := by decide +kernel
theorem dX5_price_27 : decode cX5_price 27 = .ok (.iaload, 1) := by decide +kernel
theorem dX5_price_28 : decode cX5_price 28 = .ok (.istore_n 3, 1) := by decide +kernel
theorem dX5_price_29 : decode cX5_price 29 = .ok (.aload_n 0, 1) := by decide +kernel
theorem dX5_price_30 : decode cX5_price 30 = .ok (.getfield 79, 3) := by decide +kernel
theorem dX5_price_33 : decode cX5_price 33 = .ok (.iload_n 1, 1) := by decide +kernel
theorem dX5_price_34 : decode cX5_price 34 = .ok (.iload_n 2, 1) := by decide +kernel
theorem dX5_price_35 : decode cX5_price 35 = .ok (.iastore, 1) := by decide +kernel
theorem dX5_price_36 : decode cX5_price 36 = .ok (.iload_n 3, 1) := by decide +kernel
theorem dX5_price_37 : decode cX5_price 37 = .ok (.ireturn, 1) := by decide +kernel
theorem dX5_bits_0 : decode cX5_bits 0 = .ok (.iconst 0, 1) := by decide +kernel
theorem dX5_bits_1 : decode cX5_bits 1 = .ok (.istore_n 1, 1) := by decide +kernel
theorem dX5_bits_2 : decode cX5_bits 2 = .ok (.iconst 0, 1) := by decide +kernel
theorem dX5_bits_3 : decode cX5_bits 3 = .ok (.istore_n 2, 1) := by decide +kernel
theorem dX5_bits_4 : decode cX5_bits 4 = .ok (.iload_n 2, 1) := by decide +kernel
theorem dX5_bits_5 : decode cX5_bits 5 = .ok (.bipush 6, 2) := by decide +kernel
theorem dX5_bits_7 : decode cX5_bits 7 = .ok (.if_icmp .ge 17, 3) := by decide +kernel
theorem dX5_bits_10 : decode cX5_bits 10 = .ok (.iload_n 1, 1) := by decide +kernel
theorem dX5_bits_11 : decode cX5_bits 11 = .ok (.iload_n 0, 1) := by decide +kernel
theorem dX5_bits_12 : decode cX5_bits 12 = .ok (.iload_n 2, 1) := by decide +kernel
theorem dX5_bits_13 : decode cX5_bits 13 = .ok (.ishr, 1) := by decide +kernel
theorem dX5_bits_14 : decode cX5_bits 14 = .ok (.iconst 1, 1) := by decide +kernel
theorem dX5_bits_15 : decode cX5_bits 15 = .ok (.iand, 1) := by decide +kernel
theorem dX5_bits_16 : decode cX5_bits 16 = .ok (.iadd, 1) := by decide +kernel
theorem dX5_bits_17 : decode cX5_bits 17 = .ok (.istore_n 1, 1) := by decide +kernel
theorem dX5_bits_18 : decode cX5_bits 18 = .ok (.iinc 2 1, 3) := by decide +kernel
theorem dX5_bits_21 : decode cX5_bits 21 = .ok (.goto (-17), 3) := by decide +kernel
theorem dX5_bits_24 : decode cX5_bits 24 = .ok (.iload_n 1, 1) := by decide +kernel
theorem dX5_bits_25 : decode cX5_bits 25 = .ok (.ireturn, 1) := by decide +kernel
theorem dX5_costOf_0 : decode cX5_costOf 0 = .ok (.iconst 0, 1) := by decide +kernel
theorem dX5_costOf_1 : decode cX5_costOf 1 = .ok (.istore_n 3, 1) := by decide +kernel
theorem dX5_costOf_2 : decode cX5_costOf 2 = .ok (.iconst 0, 1) := by decide +kernel
theorem dX5_costOf_3 : decode cX5_costOf 3 = .ok (.istore 4, 2) := by decide +kernel
theorem dX5_costOf_5 : decode cX5_costOf 5 = .ok (.iload 4, 2) := by decide +kernel
theorem dX5_costOf_7 : decode cX5_costOf 7 = .ok (.bipush 6, 2) := by decide +kernel
theorem dX5_costOf_9 : decode cX5_costOf 9 = .ok (.if_icmp .ge 26, 3) := by decide +kernel
theorem dX5_costOf_12 : decode cX5_costOf 12 = .ok (.iload_n 3, 1) := by decide +kernel
theorem dX5_costOf_13 : decode cX5_costOf 13 = .ok (.iload_n 2, 1) := by decide +kernel
theorem dX5_costOf_14 : decode cX5_costOf 14 = .ok (.iload 4, 2) := by decide +kernel
theorem dX5_costOf_16 : decode cX5_costOf 16 = .ok (.ishr, 1) := by decide +kernel
theorem dX5_costOf_17 : decode cX5_costOf 17 = .ok (.iconst 1, 1) := by decide +kernel
theorem dX5_costOf_18 : decode cX5_costOf 18 = .ok (.iand, 1) := by decide +kernel
theorem dX5_costOf_19 : decode cX5_costOf 19 = .ok (.aload_n 0, 1) := by decide +kernel
theorem dX5_costOf_20 : decode cX5_costOf 20 = .ok (.getfield 79, 3) := by decide +kernel
theorem dX5_costOf_23 : decode cX5_costOf 23 = .ok (.iload 4, 2) := by decide +kernel
theorem dX5_costOf_25 : decode cX5_costOf 25 = .ok (.iaload, 1) := by decide +kernel
theorem dX5_costOf_26 : decode cX5_costOf 26 = .ok (.imul, 1) := by decide +kernel
theorem dX5_costOf_27 : decode cX5_costOf 27 = .ok (.iadd, 1) := by decide +kernel
theorem dX5_costOf_28 : decode cX5_costOf 28 = .ok (.istore_n 3, 1) := by decide +kernel
theorem dX5_costOf_29 : decode cX5_costOf 29 = .ok (.iinc 4 1, 3) := by decide +kernel
theorem dX5_costOf_32 : decode cX5_costOf 32 = .ok (.goto (-27), 3) := by decide +kernel
theorem dX5_costOf_35 : decode cX5_costOf 35 = .ok (.iconst 0, 1) := by decide +kernel
theorem dX5_costOf_36 : decode cX5_costOf 36 = .ok (.istore 4, 2) := by decide +kernel
theorem dX5_costOf_38 : decode cX5_costOf 38 = .ok (.iload 4, 2) := by decide +kernel
theorem dX5_costOf_40 : decode cX5_costOf 40 = .ok (.aload_n 0, 1) := by decide +kernel
theorem dX5_costOf_41 : decode cX5_costOf 41 = .ok (.getfield 94, 3) := by decide +kernel
theorem dX5_costOf_44 : decode cX5_costOf 44 = .ok (.if_icmp .ge 59, 3) := by decide +kernel
theorem dX5_costOf_47 : decode cX5_costOf 47 = .ok (.bipush 60, 2) := by decide +kernel
theorem dX5_costOf_49 : decode cX5_costOf 49 = .ok (.iload_n 1, 1) := by decide +kernel
theorem dX5_costOf_50 : decode cX5_costOf 50 = .ok (.imul, 1) := by decide +kernel
theorem dX5_costOf_51 : decode cX5_costOf 51 = .ok (.iload 4, 2) := by decide +kernel
theorem dX5_costOf_53 : decode cX5_costOf 53 = .ok (.iadd, 1) := by decide +kernel
theorem dX5_costOf_54 : decode cX5_costOf 54 = .ok (.istore 5, 2) := by decide +kernel
theorem dX5_costOf_56 : decode cX5_costOf 56 = .ok (.iload_n 3, 1) := by decide +kernel
theorem dX5_costOf_57 : decode cX5_costOf 57 = .ok (.aload_n 0, 1) := by decide +kernel
theorem dX5_costOf_58 : decode cX5_costOf 58 = .ok (.getfield 72, 3) := by decide +kernel
theorem dX5_costOf_61 : decode cX5_costOf 61 = .ok (.iload 5, 2) := by decide +kernel
theorem dX5_costOf_63 : decode cX5_costOf 63 = .ok (.baload, 1) := by decide +kernel
theorem dX5_costOf_64 : decode cX5_costOf 64 = .ok (.ifCond .eq 30, 3) := by decide +kernel
theorem dX5_costOf_67 : decode cX5_costOf 67 = .ok (.aload_n 0, 1) := by decide +kernel
theorem dX5_costOf_68 : decode cX5_costOf 68 = .ok (.iload 4, 2) := by decide +kernel
theorem dX5_costOf_70 : decode cX5_costOf 70 = .ok (.iload_n 2, 1) := by decide +kernel
theorem dX5_costOf_71 : decode cX5_costOf 71 = .ok (.invokevirtual 155, 3) := by decide +kernel
theorem dX5_costOf_74 : decode cX5_costOf 74 = .ok (.aload_n 0, 1) := by decide +kernel
theorem dX5_costOf_75 : decode cX5_costOf 75 = .ok (.getfield 76, 3) := by decide +kernel
theorem dX5_costOf_78 : decode cX5_costOf 78 = .ok (.iload 5, 2) := by decide +kernel
theorem dX5_costOf_80 : decode cX5_costOf 80 = .ok (.iaload, 1) := by decide +kernel
theorem dX5_costOf_81 : decode cX5_costOf 81 = .ok (.if_icmp .eq 13, 3) := by decide +kernel
theorem dX5_costOf_84 : decode cX5_costOf 84 = .ok (.aload_n 0, 1) := by decide +kernel
theorem dX5_costOf_85 : decode cX5_costOf 85 = .ok (.getfield 79, 3) := by decide +kernel
theorem dX5_costOf_88 : decode cX5_costOf 88 = .ok (.bipush 6, 2) := by decide +kernel
theorem dX5_costOf_90 : decode cX5_costOf 90 = .ok (.iaload, 1) := by decide +kernel
theorem dX5_costOf_91 : decode cX5_costOf 91 = .ok (.goto 4, 3) := by decide +kernel
theorem dX5_costOf_94 : decode cX5_costOf 94 = .ok (.iconst 0, 1) := by decide +kernel
theorem dX5_costOf_95 : decode cX5_costOf 95 = .ok (.iadd, 1) := by decide +kernel
theorem dX5_costOf_96 : decode cX5_costOf 96 = .ok (.istore_n 3, 1) := by decide +kernel
theorem dX5_costOf_97 : decode cX5_costOf 97 = .ok (.iinc 4 1, 3) := by decide +kernel
theorem dX5_costOf_100 : decode cX5_costOf 100 = .ok (.goto (-62), 3) := by decide +kernel
theorem dX5_costOf_103 : decode cX5_costOf 103 = .ok (.iload_n 3, 1) := by decide +kernel
theorem dX5_costOf_104 : decode cX5_costOf 104 = .ok (.ireturn, 1) := by decide +kernel
theorem dX5_cost_0 : decode cX5_cost 0 = .ok (.iload_n 1, 1) := by decide +kernel
theorem dX5_cost_1 : decode cX5_cost 1 = .ok (.invokestatic 164, 3) := by decide +kernel
theorem dX5_cost_4 : decode cX5_cost 4 = .ok (.ifCond .eq 30, 3) := by decide +kernel
theorem dX5_cost_7 : decode cX5_cost 7 = .ok (.iload_n 2, 1) := by decide +kernel
theorem dX5_cost_8 : decode cX5_cost 8 = .ok (.iconst 0, 1) := by decide +kernel
theorem dX5_cost_9 : decode cX5_cost 9 = .ok (.bipush 63, 2) := by decide +kernel
theorem dX5_cost_11 : decode cX5_cost 11 = .ok (.invokestatic 97, 3) := by decide +kernel
theorem dX5_cost_14 : decode cX5_cost 14 = .ok (.ifCond .eq 20, 3) := by decide +kernel
theorem dX5_cost_17 : decode cX5_cost 17 = .ok (.iload_n 2, 1) := by decide +kernel
theorem dX5_cost_18 : decode cX5_cost 18 = .ok (.invokestatic 167, 3) := by decide +kernel
theorem dX5_cost_21 : decode cX5_cost 21 = .ok (.iconst 2, 1) := by decide +kernel
theorem dX5_cost_22 : decode cX5_cost 22 = .ok (.if_icmp .gt 12, 3) := by decide +kernel
theorem dX5_cost_25 : decode cX5_cost 25 = .ok (.aload_n 0, 1) := by decide +kernel
theorem dX5_cost_26 : decode cX5_cost 26 = .ok (.iload_n 1, 1) := by decide +kernel
theorem dX5_cost_27 : decode cX5_cost 27 = .ok (.iload_n 2, 1) := by decide +kernel
theorem dX5_cost_28 : decode cX5_cost 28 = .ok (.invokevirtual 170, 3) := by decide +kernel
theorem dX5_cost_31 : decode cX5_cost 31 = .ok (.goto 4, 3) := by decide +kernel
theorem dX5_cost_34 : decode cX5_cost 34 = .ok (.iconst (-1), 1) := by decide +kernel
theorem dX5_cost_35 : decode cX5_cost 35 = .ok (.ireturn, 1) := by decide +kernel
theorem dX5_findSets_0 : decode cX5_findSets 0 = .ok (.aload_n 0, 1) := by decide +kernel
theorem dX5_findSets_1 : decode cX5_findSets 1 = .ok (.iconst 0, 1) := by decide +kernel
theorem dX5_findSets_2 : decode cX5_findSets 2 = .ok (.putfield 173, 3) := by decide +kernel
theorem dX5_findSets_5 : decode cX5_findSets 5 = .ok (.iconst 0, 1) := by decide +kernel
theorem dX5_findSets_6 : decode cX5_findSets 6 = .ok (.istore_n 2, 1) := by decide +kernel
theorem dX5_findSets_7 : decode cX5_findSets 7 = .ok (.iconst 0, 1) := by decide +kernel
theorem dX5_findSets_8 : decode cX5_findSets 8 = .ok (.istore_n 3, 1) := by decide +kernel
theorem dX5_findSets_9 : decode cX5_findSets 9 = .ok (.iload_n 3, 1) := by decide +kernel
theorem dX5_findSets_10 : decode cX5_findSets 10 = .ok (.bipush 64, 2) := by decide +kernel
theorem dX5_findSets_12 : decode cX5_findSets 12 = .ok (.if_icmp .ge 72, 3) := by decide +kernel
theorem dX5_findSets_15 : decode cX5_findSets 15 = .ok (.iload_n 3, 1) := by decide +kernel
theorem dX5_findSets_16 : decode cX5_findSets 16 = .ok (.invokestatic 167, 3) := by decide +kernel
theorem dX5_findSets_19 : decode cX5_findSets 19 = .ok (.iconst 2, 1) := by decide +kernel
theorem dX5_findSets_20 : decode cX5_findSets 20 = .ok (.if_icmp .gt 58, 3) := by decide +kernel
theorem dX5_findSets_23 : decode cX5_findSets 23 = .ok (.aload_n 0, 1) := by decide +kernel
theorem dX5_findSets_24 : decode cX5_findSets 24 = .ok (.iload_n 1, 1) := by decide +kernel
theorem dX5_findSets_25 : decode cX5_findSets 25 = .ok (.iload_n 3, 1) := by decide +kernel
theorem dX5_findSets_26 : decode cX5_findSets 26 = .ok (.invokevirtual 170, 3) := by decide +kernel
theorem dX5_findSets_29 : decode cX5_findSets 29 = .ok (.istore 4, 2) := by decide +kernel
theorem dX5_findSets_31 : decode cX5_findSets 31 = .ok (.aload_n 0, 1) := by decide +kernel
theorem dX5_findSets_32 : decode cX5_findSets 32 = .ok (.getfield 173, 3) := by decide +kernel
theorem dX5_findSets_35 : decode cX5_findSets 35 = .ok (.ifCond .eq 9, 3) := by decide +kernel
theorem dX5_findSets_38 : decode cX5_findSets 38 = .ok (.iload 4, 2) := by decide +kernel
theorem dX5_findSets_40 : decode cX5_findSets 40 = .ok (.iload_n 2, 1) := by decide +kernel
theorem dX5_findSets_41 : decode cX5_findSets 41 = .ok (.if_icmp .ge 11, 3) := by decide +kernel
theorem dX5_findSets_44 : decode cX5_findSets 44 = .ok (.iload 4, 2) := by decide +kernel
theorem dX5_findSets_46 : decode cX5_findSets 46 = .ok (.istore_n 2, 1) := by decide +kernel
theorem dX5_findSets_47 : decode cX5_findSets 47 = .ok (.aload_n 0, 1) := by decide +kernel
theorem dX5_findSets_48 : decode cX5_findSets 48 = .ok (.iconst 0, 1) := by decide +kernel
theorem dX5_findSets_49 : decode cX5_findSets 49 = .ok (.putfield 173, 3) := by decide +kernel
theorem dX5_findSets_52 : decode cX5_findSets 52 = .ok (.iload 4, 2) := by decide +kernel
theorem dX5_findSets_54 : decode cX5_findSets 54 = .ok (.iload_n 2, 1) := by decide +kernel
theorem dX5_findSets_55 : decode cX5_findSets 55 = .ok (.if_icmp .ne 23, 3) := by decide +kernel
theorem dX5_findSets_58 : decode cX5_findSets 58 = .ok (.aload_n 0, 1) := by decide +kernel
theorem dX5_findSets_59 : decode cX5_findSets 59 = .ok (.getfield 82, 3) := by decide +kernel
theorem dX5_findSets_62 : decode cX5_findSets 62 = .ok (.aload_n 0, 1) := by decide +kernel
theorem dX5_findSets_63 : decode cX5_findSets 63 = .ok (.getfield 173, 3) := by decide +kernel
theorem dX5_findSets_66 : decode cX5_findSets 66 = .ok (.iload_n 3, 1) := by decide +kernel
theorem dX5_findSets_67 : decode cX5_findSets 67 = .ok (.iastore, 1) := by decide +kernel
theorem dX5_findSets_68 : decode cX5_findSets 68 = .ok (.aload_n 0, 1) := by decide +kernel
theorem dX5_findSets_69 : decode cX5_findSets 69 = .ok (.dup, 1) := by decide +kernel
theorem dX5_findSets_70 : decode cX5_findSets 70 = .ok (.getfield 173, 3) := by decide +kernel
theorem dX5_findSets_73 : decode cX5_findSets 73 = .ok (.iconst 1, 1) := by decide +kernel
theorem dX5_findSets_74 : decode cX5_findSets 74 = .ok (.iadd, 1) := by decide +kernel
theorem dX5_findSets_75 : decode cX5_findSets 75 = .ok (.putfield 173, 3) := by decide +kernel
theorem dX5_findSets_78 : decode cX5_findSets 78 = .ok (.iinc 3 1, 3) := by decide +kernel
theorem dX5_findSets_81 : decode cX5_findSets 81 = .ok (.goto (-72), 3) := by decide +kernel
theorem dX5_findSets_84 : decode cX5_findSets 84 = .ok (.return_, 1) := by decide +kernel
theorem dX5_sets_0 : decode cX5_sets 0 = .ok (.iload_n 1, 1) := by decide +kernel
theorem dX5_sets_1 : decode cX5_sets 1 = .ok (.invokestatic 164, 3) := by decide +kernel
theorem dX5_sets_4 : decode cX5_sets 4 = .ok (.ifCond .ne 5, 3) := by decide +kernel
theorem dX5_sets_7 : decode cX5_sets 7 = .ok (.iconst (-1), 1) := by decide +kernel
theorem dX5_sets_8 : decode cX5_sets 8 = .ok (.ireturn, 1) := by decide +kernel
theorem dX5_sets_9 : decode cX5_sets 9 = .ok (.aload_n 0, 1) := by decide +kernel
theorem dX5_sets_10 : decode cX5_sets 10 = .ok (.iload_n 1, 1) := by decide +kernel
theorem dX5_sets_11 : decode cX5_sets 11 = .ok (.invokevirtual 176, 3) := by decide +kernel
theorem dX5_sets_14 : decode cX5_sets 14 = .ok (.aload_n 0, 1) := by decide +kernel
theorem dX5_sets_15 : decode cX5_sets 15 = .ok (.getfield 173, 3) := by decide +kernel
theorem dX5_sets_18 : decode cX5_sets 18 = .ok (.ireturn, 1) := by decide +kernel
theorem dX5_set_0 : decode cX5_set 0 = .ok (.iload_n 1, 1) := by decide +kernel
theorem dX5_set_1 : decode cX5_set 1 = .ok (.invokestatic 164, 3) := by decide +kernel
theorem dX5_set_4 : decode cX5_set 4 = .ok (.ifCond .eq 7, 3) := by decide +kernel
theorem dX5_set_7 : decode cX5_set 7 = .ok (.iload_n 2, 1) := by decide +kernel
theorem dX5_set_8 : decode cX5_set 8 = .ok (.ifCond .ge 5, 3) := by decide +kernel
theorem dX5_set_11 : decode cX5_set 11 = .ok (.iconst (-1), 1) := by decide +kernel
theorem dX5_set_12 : decode cX5_set 12 = .ok (.ireturn, 1) := by decide +kernel
theorem dX5_set_13 : decode cX5_set 13 = .ok (.aload_n 0, 1) := by decide +kernel
theorem dX5_set_14 : decode cX5_set 14 = .ok (.iload_n 1, 1) := by decide +kernel
theorem dX5_set_15 : decode cX5_set 15 = .ok (.invokevirtual 176, 3) := by decide +kernel
theorem dX5_set_18 : decode cX5_set 18 = .ok (.iload_n 2, 1) := by decide +kernel
theorem dX5_set_19 : decode cX5_set 19 = .ok (.aload_n 0, 1) := by decide +kernel
theorem dX5_set_20 : decode cX5_set 20 = .ok (.getfield 173, 3) := by decide +kernel
theorem dX5_set_23 : decode cX5_set 23 = .ok (.if_icmp .ge 12, 3) := by decide +kernel
theorem dX5_set_26 : decode cX5_set 26 = .ok (.aload_n 0, 1) := by decide +kernel
theorem dX5_set_27 : decode cX5_set 27 = .ok (.getfield 82, 3) := by decide +kernel
theorem dX5_set_30 : decode cX5_set 30 = .ok (.iload_n 2, 1) := by decide +kernel
theorem dX5_set_31 : decode cX5_set 31 = .ok (.iaload, 1) := by decide +kernel
theorem dX5_set_32 : decode cX5_set 32 = .ok (.goto 4, 3) := by decide +kernel
theorem dX5_set_35 : decode cX5_set 35 = .ok (.iconst (-1), 1) := by decide +kernel
theorem dX5_set_36 : decode cX5_set 36 = .ok (.ireturn, 1) := by decide +kernel
theorem dX5_greatest_0 : decode cX5_greatest 0 = .ok (.iconst 0, 1) := by decide +kernel
theorem dX5_greatest_1 : decode cX5_greatest 1 = .ok (.istore_n 2, 1) := by decide +kernel
theorem dX5_greatest_2 : decode cX5_greatest 2 = .ok (.iconst 0, 1) := by decide +kernel
theorem dX5_greatest_3 : decode cX5_greatest 3 = .ok (.istore_n 3, 1) := by decide +kernel
theorem dX5_greatest_4 : decode cX5_greatest 4 = .ok (.iload_n 3, 1) := by decide +kernel
theorem dX5_greatest_5 : decode cX5_greatest 5 = .ok (.aload_n 0, 1) := by decide +kernel
theorem dX5_greatest_6 : decode cX5_greatest 6 = .ok (.getfield 173, 3) := by decide +kernel
theorem dX5_greatest_9 : decode cX5_greatest 9 = .ok (.if_icmp .ge 26, 3) := by decide +kernel
theorem dX5_greatest_12 : decode cX5_greatest 12 = .ok (.aload_n 0, 1) := by decide +kernel
theorem dX5_greatest_13 : decode cX5_greatest 13 = .ok (.getfield 85, 3) := by decide +kernel
theorem dX5_greatest_16 : decode cX5_greatest 16 = .ok (.iload_n 3, 1) := by decide +kernel
theorem dX5_greatest_17 : decode cX5_greatest 17 = .ok (.aload_n 0, 1) := by decide +kernel
theorem dX5_greatest_18 : decode cX5_greatest 18 = .ok (.iload_n 1, 1) := by decide +kernel
theorem dX5_greatest_19 : decode cX5_greatest 19 = .ok (.aload_n 0, 1) := by decide +kernel
theorem dX5_greatest_20 : decode cX5_greatest 20 = .ok (.getfield 82, 3) := by decide +kernel
theorem dX5_greatest_23 : decode cX5_greatest 23 = .ok (.iload_n 3, 1) := by decide +kernel
theorem dX5_greatest_24 : decode cX5_greatest 24 = .ok (.iaload, 1) := by decide +kernel
theorem dX5_greatest_25 : decode cX5_greatest 25 = .ok (.invokevirtual 155, 3) := by decide +kernel
theorem dX5_greatest_28 : decode cX5_greatest 28 = .ok (.iastore, 1) := by decide +kernel
theorem dX5_greatest_29 : decode cX5_greatest 29 = .ok (.iinc 3 1, 3) := by decide +kernel
theorem dX5_greatest_32 : decode cX5_greatest 32 = .ok (.goto (-28), 3) := by decide +kernel
theorem dX5_greatest_35 : decode cX5_greatest 35 = .ok (.iconst 0, 1) := by decide +kernel
theorem dX5_greatest_36 : decode cX5_greatest 36 = .ok (.istore_n 3, 1) := by decide +kernel
theorem dX5_greatest_37 : decode cX5_greatest 37 = .ok (.iload_n 3, 1) := by decide +kernel
theorem dX5_greatest_38 : decode cX5_greatest 38 = .ok (.aload_n 0, 1) := by decide +kernel
theorem dX5_greatest_39 : decode cX5_greatest 39 = .ok (.getfield 173, 3) := by decide +kernel
theorem dX5_greatest_42 : decode cX5_greatest 42 = .ok (.if_icmp .ge 69, 3) := by decide +kernel
theorem dX5_greatest_45 : decode cX5_greatest 45 = .ok (.iconst 0, 1) := by decide +kernel
theorem dX5_greatest_46 : decode cX5_greatest 46 = .ok (.istore 4, 2) := by decide +kernel
theorem dX5_greatest_48 : decode cX5_greatest 48 = .ok (.iconst 0, 1) := by decide +kernel
theorem dX5_greatest_49 : decode cX5_greatest 49 = .ok (.istore 5, 2) := by decide +kernel
theorem dX5_greatest_51 : decode cX5_greatest 51 = .ok (.iload 5, 2) := by decide +kernel
theorem dX5_greatest_53 : decode cX5_greatest 53 = .ok (.aload_n 0, 1) := by decide +kernel
theorem dX5_greatest_54 : decode cX5_greatest 54 = .ok (.getfield 173, 3) := by decide +kernel
theorem dX5_greatest_57 : decode cX5_greatest 57 = .ok (.if_icmp .ge 35, 3) := by decide +kernel
theorem dX5_greatest_60 : decode cX5_greatest 60 = .ok (.iload 4, 2) := by decide +kernel
theorem dX5_greatest_62 : decode cX5_greatest 62 = .ok (.aload_n 0, 1) := by decide +kernel
theorem dX5_greatest_63 : decode cX5_greatest 63 = .ok (.getfield 85, 3) := by decide +kernel
theorem dX5_greatest_66 : decode cX5_greatest 66 = .ok (.iload 5, 2) := by decide +kernel
theorem dX5_greatest_68 : decode cX5_greatest 68 = .ok (.iaload, 1) := by decide +kernel
theorem dX5_greatest_69 : decode cX5_greatest 69 = .ok (.aload_n 0, 1) := by decide +kernel
theorem dX5_greatest_70 : decode cX5_greatest 70 = .ok (.getfield 85, 3) := by decide +kernel
theorem dX5_greatest_73 : decode cX5_greatest 73 = .ok (.iload_n 3, 1) := by decide +kernel
theorem dX5_greatest_74 : decode cX5_greatest 74 = .ok (.iaload, 1) := by decide +kernel
theorem dX5_greatest_75 : decode cX5_greatest 75 = .ok (.if_icmp .ne 7, 3) := by decide +kernel
theorem dX5_greatest_78 : decode cX5_greatest 78 = .ok (.iconst 1, 1) := by decide +kernel
theorem dX5_greatest_79 : decode cX5_greatest 79 = .ok (.goto 4, 3) := by decide +kernel
theorem dX5_greatest_82 : decode cX5_greatest 82 = .ok (.iconst 0, 1) := by decide +kernel
theorem dX5_greatest_83 : decode cX5_greatest 83 = .ok (.iadd, 1) := by decide +kernel
theorem dX5_greatest_84 : decode cX5_greatest 84 = .ok (.istore 4, 2) := by decide +kernel
theorem dX5_greatest_86 : decode cX5_greatest 86 = .ok (.iinc 5 1, 3) := by decide +kernel
theorem dX5_greatest_89 : decode cX5_greatest 89 = .ok (.goto (-38), 3) := by decide +kernel
theorem dX5_greatest_92 : decode cX5_greatest 92 = .ok (.iload 4, 2) := by decide +kernel
theorem dX5_greatest_94 : decode cX5_greatest 94 = .ok (.iload_n 2, 1) := by decide +kernel
theorem dX5_greatest_95 : decode cX5_greatest 95 = .ok (.if_icmp .le 8, 3) := by decide +kernel
theorem dX5_greatest_98 : decode cX5_greatest 98 = .ok (.iload 4, 2) := by decide +kernel
theorem dX5_greatest_100 : decode cX5_greatest 100 = .ok (.goto 4, 3) := by decide +kernel
theorem dX5_greatest_103 : decode cX5_greatest 103 = .ok (.iload_n 2, 1) := by decide +kernel
theorem dX5_greatest_104 : decode cX5_greatest 104 = .ok (.istore_n 2, 1) := by decide +kernel
theorem dX5_greatest_105 : decode cX5_greatest 105 = .ok (.iinc 3 1, 3) := by decide +kernel
theorem dX5_greatest_108 : decode cX5_greatest 108 = .ok (.goto (-71), 3) := by decide +kernel
theorem dX5_greatest_111 : decode cX5_greatest 111 = .ok (.iload_n 2, 1) := by decide +kernel
theorem dX5_greatest_112 : decode cX5_greatest 112 = .ok (.ireturn, 1) := by decide +kernel
theorem dX5_next_0 : decode cX5_next 0 = .ok (.iload_n 1, 1) := by decide +kernel
theorem dX5_next_1 : decode cX5_next 1 = .ok (.invokestatic 164, 3) := by decide +kernel
theorem dX5_next_4 : decode cX5_next 4 = .ok (.ifCond .ne 5, 3) := by decide +kernel
theorem dX5_next_7 : decode cX5_next 7 = .ok (.iconst (-1), 1) := by decide +kernel
theorem dX5_next_8 : decode cX5_next 8 = .ok (.ireturn, 1) := by decide +kernel
theorem dX5_next_9 : decode cX5_next 9 = .ok (.aload_n 0, 1) := by decide +kernel
theorem dX5_next_10 : decode cX5_next 10 = .ok (.iload_n 1, 1) := by decide +kernel
theorem dX5_next_11 : decode cX5_next 11 = .ok (.invokevirtual 176, 3) := by decide +kernel
theorem dX5_next_14 : decode cX5_next 14 = .ok (.bipush (-5), 2) := by decide +kernel
theorem dX5_next_16 : decode cX5_next 16 = .ok (.istore_n 2, 1) := by decide +kernel
theorem dX5_next_17 : decode cX5_next 17 = .ok (.iconst 0, 1) := by decide +kernel
theorem dX5_next_18 : decode cX5_next 18 = .ok (.istore_n 3, 1) := by decide +kernel
theorem dX5_next_19 : decode cX5_next 19 = .ok (.iconst 0, 1) := by decide +kernel
theorem dX5_next_20 : decode cX5_next 20 = .ok (.istore 4, 2) := by decide +kernel
theorem dX5_next_22 : decode cX5_next 22 = .ok (.iload 4, 2) := by decide +kernel
theorem dX5_next_24 : decode cX5_next 24 = .ok (.aload_n 0, 1) := by decide +kernel
theorem dX5_next_25 : decode cX5_next 25 = .ok (.getfield 94, 3) := by decide +kernel
theorem dX5_next_28 : decode cX5_next 28 = .ok (.if_icmp .ge 48, 3) := by decide +kernel
theorem dX5_next_31 : decode cX5_next 31 = .ok (.aload_n 0, 1) := by decide +kernel
theorem dX5_next_32 : decode cX5_next 32 = .ok (.getfield 72, 3) := by decide +kernel
theorem dX5_next_35 : decode cX5_next 35 = .ok (.bipush 60, 2) := by decide +kernel
theorem dX5_next_37 : decode cX5_next 37 = .ok (.iload_n 1, 1) := by decide +kernel
theorem dX5_next_38 : decode cX5_next 38 = .ok (.imul, 1) := by decide +kernel
theorem dX5_next_39 : decode cX5_next 39 = .ok (.iload 4, 2) := by decide +kernel
theorem dX5_next_41 : decode cX5_next 41 = .ok (.iadd, 1) := by decide +kernel
theorem dX5_next_42 : decode cX5_next 42 = .ok (.baload, 1) := by decide +kernel
theorem dX5_next_43 : decode cX5_next 43 = .ok (.ifCond .ne 27, 3) := by decide +kernel
theorem dX5_next_46 : decode cX5_next 46 = .ok (.aload_n 0, 1) := by decide +kernel
theorem dX5_next_47 : decode cX5_next 47 = .ok (.iload 4, 2) := by decide +kernel
theorem dX5_next_49 : decode cX5_next 49 = .ok (.invokevirtual 180, 3) := by decide +kernel
theorem dX5_next_52 : decode cX5_next 52 = .ok (.istore 5, 2) := by decide +kernel
theorem dX5_next_54 : decode cX5_next 54 = .ok (.iload_n 2, 1) := by decide +kernel
theorem dX5_next_55 : decode cX5_next 55 = .ok (.ifCond .lt 9, 3) := by decide +kernel
theorem dX5_next_58 : decode cX5_next 58 = .ok (.iload 5, 2) := by decide +kernel
theorem dX5_next_60 : decode cX5_next 60 = .ok (.iload_n 3, 1) := by decide +kernel
theorem dX5_next_61 : decode cX5_next 61 = .ok (.if_icmp .ge 9, 3) := by decide +kernel
theorem dX5_next_64 : decode cX5_next 64 = .ok (.iload 4, 2) := by decide +kernel
theorem dX5_next_66 : decode cX5_next 66 = .ok (.istore_n 2, 1) := by decide +kernel
theorem dX5_next_67 : decode cX5_next 67 = .ok (.iload 5, 2) := by decide +kernel
theorem dX5_next_69 : decode cX5_next 69 = .ok (.istore_n 3, 1) := by decide +kernel
theorem dX5_next_70 : decode cX5_next 70 = .ok (.iinc 4 1, 3) := by decide +kernel
theorem dX5_next_73 : decode cX5_next 73 = .ok (.goto (-51), 3) := by decide +kernel
theorem dX5_next_76 : decode cX5_next 76 = .ok (.iload_n 2, 1) := by decide +kernel
theorem dX5_next_77 : decode cX5_next 77 = .ok (.ireturn, 1) := by decide +kernel
theorem dX5_tellApart_0 : decode cX5_tellApart 0 = .ok (.iconst 0, 1) := by decide +kernel
theorem dX5_tellApart_1 : decode cX5_tellApart 1 = .ok (.istore 5, 2) := by decide +kernel
theorem dX5_tellApart_3 : decode cX5_tellApart 3 = .ok (.iconst 0, 1) := by decide +kernel
theorem dX5_tellApart_4 : decode cX5_tellApart 4 = .ok (.istore 6, 2) := by decide +kernel
theorem dX5_tellApart_6 : decode cX5_tellApart 6 = .ok (.iload 6, 2) := by decide +kernel
theorem dX5_tellApart_8 : decode cX5_tellApart 8 = .ok (.iload 4, 2) := by decide +kernel
theorem dX5_tellApart_10 : decode cX5_tellApart 10 = .ok (.if_icmp .ge 58, 3) := by decide +kernel
theorem dX5_tellApart_13 : decode cX5_tellApart 13 = .ok (.iload 5, 2) := by decide +kernel
theorem dX5_tellApart_15 : decode cX5_tellApart 15 = .ok (.ifCond .ne 40, 3) := by decide +kernel
theorem dX5_tellApart_18 : decode cX5_tellApart 18 = .ok (.iload_n 1, 1) := by decide +kernel
theorem dX5_tellApart_19 : decode cX5_tellApart 19 = .ok (.iload 6, 2) := by decide +kernel
theorem dX5_tellApart_21 : decode cX5_tellApart 21 = .ok (.ishr, 1) := by decide +kernel
theorem dX5_tellApart_22 : decode cX5_tellApart 22 = .ok (.iconst 1, 1) := by decide +kernel
theorem dX5_tellApart_23 : decode cX5_tellApart 23 = .ok (.iand, 1) := by decide +kernel
theorem dX5_tellApart_24 : decode cX5_tellApart 24 = .ok (.iconst 1, 1) := by decide +kernel
theorem dX5_tellApart_25 : decode cX5_tellApart 25 = .ok (.if_icmp .ne 34, 3) := by decide +kernel
theorem dX5_tellApart_28 : decode cX5_tellApart 28 = .ok (.aload_n 0, 1) := by decide +kernel
theorem dX5_tellApart_29 : decode cX5_tellApart 29 = .ok (.getfield 88, 3) := by decide +kernel
theorem dX5_tellApart_32 : decode cX5_tellApart 32 = .ok (.bipush 7, 2) := by decide +kernel
theorem dX5_tellApart_34 : decode cX5_tellApart 34 = .ok (.iload 6, 2) := by decide +kernel
theorem dX5_tellApart_36 : decode cX5_tellApart 36 = .ok (.imul, 1) := by decide +kernel
theorem dX5_tellApart_37 : decode cX5_tellApart 37 = .ok (.iload_n 2, 1) := by decide +kernel
theorem dX5_tellApart_38 : decode cX5_tellApart 38 = .ok (.iadd, 1) := by decide +kernel
theorem dX5_tellApart_39 : decode cX5_tellApart 39 = .ok (.iaload, 1) := by decide +kernel
theorem dX5_tellApart_40 : decode cX5_tellApart 40 = .ok (.aload_n 0, 1) := by decide +kernel
theorem dX5_tellApart_41 : decode cX5_tellApart 41 = .ok (.getfield 88, 3) := by decide +kernel
theorem dX5_tellApart_44 : decode cX5_tellApart 44 = .ok (.bipush 7, 2) := by decide +kernel
theorem dX5_tellApart_46 : decode cX5_tellApart 46 = .ok (.iload 6, 2) := by decide +kernel
theorem dX5_tellApart_48 : decode cX5_tellApart 48 = .ok (.imul, 1) := by decide +kernel
theorem dX5_tellApart_49 : decode cX5_tellApart 49 = .ok (.iload_n 3, 1) := by decide +kernel
theorem dX5_tellApart_50 : decode cX5_tellApart 50 = .ok (.iadd, 1) := by decide +kernel
theorem dX5_tellApart_51 : decode cX5_tellApart 51 = .ok (.iaload, 1) := by decide +kernel
theorem dX5_tellApart_52 : decode cX5_tellApart 52 = .ok (.if_icmp .eq 7, 3) := by decide +kernel
theorem dX5_tellApart_55 : decode cX5_tellApart 55 = .ok (.iconst 1, 1) := by decide +kernel
theorem dX5_tellApart_56 : decode cX5_tellApart 56 = .ok (.goto 4, 3) := by decide +kernel
theorem dX5_tellApart_59 : decode cX5_tellApart 59 = .ok (.iconst 0, 1) := by decide +kernel
theorem dX5_tellApart_60 : decode cX5_tellApart 60 = .ok (.istore 5, 2) := by decide +kernel
theorem dX5_tellApart_62 : decode cX5_tellApart 62 = .ok (.iinc 6 1, 3) := by decide +kernel
theorem dX5_tellApart_65 : decode cX5_tellApart 65 = .ok (.goto (-59), 3) := by decide +kernel
theorem dX5_tellApart_68 : decode cX5_tellApart 68 = .ok (.iload 5, 2) := by decide +kernel
theorem dX5_tellApart_70 : decode cX5_tellApart 70 = .ok (.ireturn, 1) := by decide +kernel
theorem dX5_parting_0 : decode cX5_parting 0 = .ok (.aload_n 0, 1) := by decide +kernel
theorem dX5_parting_1 : decode cX5_parting 1 = .ok (.getfield 94, 3) := by decide +kernel
theorem dX5_parting_4 : decode cX5_parting 4 = .ok (.bipush 12, 2) := by decide +kernel
theorem dX5_parting_6 : decode cX5_parting 6 = .ok (.if_icmp .ge 10, 3) := by decide +kernel
theorem dX5_parting_9 : decode cX5_parting 9 = .ok (.aload_n 0, 1) := by decide +kernel
theorem dX5_parting_10 : decode cX5_parting 10 = .ok (.getfield 94, 3) := by decide +kernel
theorem dX5_parting_13 : decode cX5_parting 13 = .ok (.goto 5, 3) := by decide +kernel
theorem dX5_parting_16 : decode cX5_parting 16 = .ok (.bipush 12, 2) := by decide +kernel
theorem dX5_parting_18 : decode cX5_parting 18 = .ok (.istore_n 1, 1) := by decide +kernel
theorem dX5_parting_19 : decode cX5_parting 19 = .ok (.iconst 0, 1) := by decide +kernel
theorem dX5_parting_20 : decode cX5_parting 20 = .ok (.istore_n 2, 1) := by decide +kernel
theorem dX5_parting_21 : decode cX5_parting 21 = .ok (.iload_n 2, 1) := by decide +kernel
theorem dX5_parting_22 : decode cX5_parting 22 = .ok (.iload_n 1, 1) := by decide +kernel
theorem dX5_parting_23 : decode cX5_parting 23 = .ok (.if_icmp .ge 52, 3) := by decide +kernel
theorem dX5_parting_26 : decode cX5_parting 26 = .ok (.iconst 0, 1) := by decide +kernel
theorem dX5_parting_27 : decode cX5_parting 27 = .ok (.istore_n 3, 1) := by decide +kernel
theorem dX5_parting_28 : decode cX5_parting 28 = .ok (.iload_n 3, 1) := by decide +kernel
theorem dX5_parting_29 : decode cX5_parting 29 = .ok (.bipush 7, 2) := by decide +kernel
theorem dX5_parting_31 : decode cX5_parting 31 = .ok (.if_icmp .ge 38, 3) := by decide +kernel
theorem dX5_parting_34 : decode cX5_parting 34 = .ok (.aload_n 0, 1) := by decide +kernel
theorem dX5_parting_35 : decode cX5_parting 35 = .ok (.getfield 88, 3) := by decide +kernel
theorem dX5_parting_38 : decode cX5_parting 38 = .ok (.bipush 7, 2) := by decide +kernel
theorem dX5_parting_40 : decode cX5_parting 40 = .ok (.iload_n 2, 1) := by decide +kernel
theorem dX5_parting_41 : decode cX5_parting 41 = .ok (.imul, 1) := by decide +kernel
theorem dX5_parting_42 : decode cX5_parting 42 = .ok (.iload_n 3, 1) := by decide +kernel
theorem dX5_parting_43 : decode cX5_parting 43 = .ok (.iadd, 1) := by decide +kernel
theorem dX5_parting_44 : decode cX5_parting 44 = .ok (.aload_n 0, 1) := by decide +kernel
theorem dX5_parting_45 : decode cX5_parting 45 = .ok (.iload_n 2, 1) := by decide +kernel
theorem dX5_parting_46 : decode cX5_parting 46 = .ok (.iload_n 3, 1) := by decide +kernel
theorem dX5_parting_47 : decode cX5_parting 47 = .ok (.ifCond .ne 7, 3) := by decide +kernel
theorem dX5_parting_50 : decode cX5_parting 50 = .ok (.iconst 0, 1) := by decide +kernel
theorem dX5_parting_51 : decode cX5_parting 51 = .ok (.goto 8, 3) := by decide +kernel
theorem dX5_parting_54 : decode cX5_parting 54 = .ok (.iconst 1, 1) := by decide +kernel
theorem dX5_parting_55 : decode cX5_parting 55 = .ok (.iload_n 3, 1) := by decide +kernel
theorem dX5_parting_56 : decode cX5_parting 56 = .ok (.iconst 1, 1) := by decide +kernel
theorem dX5_parting_57 : decode cX5_parting 57 = .ok (.isub, 1) := by decide +kernel
theorem dX5_parting_58 : decode cX5_parting 58 = .ok (.ishl, 1) := by decide +kernel
theorem dX5_parting_59 : decode cX5_parting 59 = .ok (.invokevirtual 155, 3) := by decide +kernel
theorem dX5_parting_62 : decode cX5_parting 62 = .ok (.iastore, 1) := by decide +kernel
theorem dX5_parting_63 : decode cX5_parting 63 = .ok (.iinc 3 1, 3) := by decide +kernel
theorem dX5_parting_66 : decode cX5_parting 66 = .ok (.goto (-38), 3) := by decide +kernel
theorem dX5_parting_69 : decode cX5_parting 69 = .ok (.iinc 2 1, 3) := by decide +kernel
theorem dX5_parting_72 : decode cX5_parting 72 = .ok (.goto (-51), 3) := by decide +kernel
theorem dX5_parting_75 : decode cX5_parting 75 = .ok (.bipush (-5), 2) := by decide +kernel
theorem dX5_parting_77 : decode cX5_parting 77 = .ok (.istore_n 2, 1) := by decide +kernel
theorem dX5_parting_78 : decode cX5_parting 78 = .ok (.iconst 0, 1) := by decide +kernel
theorem dX5_parting_79 : decode cX5_parting 79 = .ok (.istore_n 3, 1) := by decide +kernel
theorem dX5_parting_80 : decode cX5_parting 80 = .ok (.iload_n 3, 1) := by decide +kernel
theorem dX5_parting_81 : decode cX5_parting 81 = .ok (.iconst 1, 1) := by decide +kernel
theorem dX5_parting_82 : decode cX5_parting 82 = .ok (.iload_n 1, 1) := by decide +kernel
theorem dX5_parting_83 : decode cX5_parting 83 = .ok (.ishl, 1) := by decide +kernel
theorem dX5_parting_84 : decode cX5_parting 84 = .ok (.if_icmp .ge 124, 3) := by decide +kernel
theorem dX5_parting_87 : decode cX5_parting 87 = .ok (.iconst 0, 1) := by decide +kernel
theorem dX5_parting_88 : decode cX5_parting 88 = .ok (.istore 4, 2) := by decide +kernel
theorem dX5_parting_90 : decode cX5_parting 90 = .ok (.iconst 0, 1) := by decide +kernel
theorem dX5_parting_91 : decode cX5_parting 91 = .ok (.istore 5, 2) := by decide +kernel
theorem dX5_parting_93 : decode cX5_parting 93 = .ok (.iload 5, 2) := by decide +kernel
theorem dX5_parting_95 : decode cX5_parting 95 = .ok (.iload_n 1, 1) := by decide +kernel
theorem dX5_parting_96 : decode cX5_parting 96 = .ok (.if_icmp .ge 20, 3) := by decide +kernel
theorem dX5_parting_99 : decode cX5_parting 99 = .ok (.iload 4, 2) := by decide +kernel
theorem dX5_parting_101 : decode cX5_parting 101 = .ok (.iload_n 3, 1) := by decide +kernel
theorem dX5_parting_102 : decode cX5_parting 102 = .ok (.iload 5, 2) := by decide +kernel
theorem dX5_parting_104 : decode cX5_parting 104 = .ok (.ishr, 1) := by decide +kernel
theorem dX5_parting_105 : decode cX5_parting 105 = .ok (.iconst 1, 1) := by decide +kernel
theorem dX5_parting_106 : decode cX5_parting 106 = .ok (.iand, 1) := by decide +kernel
theorem dX5_parting_107 : decode cX5_parting 107 = .ok (.iadd, 1) := by decide +kernel
theorem dX5_parting_108 : decode cX5_parting 108 = .ok (.istore 4, 2) := by decide +kernel
theorem dX5_parting_110 : decode cX5_parting 110 = .ok (.iinc 5 1, 3) := by decide +kernel
theorem dX5_parting_113 : decode cX5_parting 113 = .ok (.goto (-20), 3) := by decide +kernel
theorem dX5_parting_116 : decode cX5_parting 116 = .ok (.iload_n 2, 1) := by decide +kernel
theorem dX5_parting_117 : decode cX5_parting 117 = .ok (.ifCond .lt 9, 3) := by decide +kernel
theorem dX5_parting_120 : decode cX5_parting 120 = .ok (.iload 4, 2) := by decide +kernel
theorem dX5_parting_122 : decode cX5_parting 122 = .ok (.iload_n 2, 1) := by decide +kernel
theorem dX5_parting_123 : decode cX5_parting 123 = .ok (.if_icmp .ge 7, 3) := by decide +kernel
theorem dX5_parting_126 : decode cX5_parting 126 = .ok (.iconst 1, 1) := by decide +kernel
theorem dX5_parting_127 : decode cX5_parting 127 = .ok (.goto 4, 3) := by decide +kernel
theorem dX5_parting_130 : decode cX5_parting 130 = .ok (.iconst 0, 1) := by decide +kernel
theorem dX5_parting_131 : decode cX5_parting 131 = .ok (.istore 5, 2) := by decide +kernel
theorem dX5_parting_133 : decode cX5_parting 133 = .ok (.iconst 0, 1) := by decide +kernel
theorem dX5_parting_134 : decode cX5_parting 134 = .ok (.istore 6, 2) := by decide +kernel
theorem dX5_parting_136 : decode cX5_parting 136 = .ok (.iload 6, 2) := by decide +kernel
theorem dX5_parting_138 : decode cX5_parting 138 = .ok (.bipush 7, 2) := by decide +kernel
theorem dX5_parting_140 : decode cX5_parting 140 = .ok (.if_icmp .ge 50, 3) := by decide +kernel
theorem dX5_parting_143 : decode cX5_parting 143 = .ok (.iload 5, 2) := by decide +kernel
theorem dX5_parting_145 : decode cX5_parting 145 = .ok (.ifCond .eq 45, 3) := by decide +kernel
theorem dX5_parting_148 : decode cX5_parting 148 = .ok (.iload 6, 2) := by decide +kernel
theorem dX5_parting_150 : decode cX5_parting 150 = .ok (.iconst 1, 1) := by decide +kernel
theorem dX5_parting_151 : decode cX5_parting 151 = .ok (.iadd, 1) := by decide +kernel
theorem dX5_parting_152 : decode cX5_parting 152 = .ok (.istore 7, 2) := by decide +kernel
theorem dX5_parting_154 : decode cX5_parting 154 = .ok (.iload 7, 2) := by decide +kernel
theorem dX5_parting_156 : decode cX5_parting 156 = .ok (.bipush 7, 2) := by decide +kernel
theorem dX5_parting_158 : decode cX5_parting 158 = .ok (.if_icmp .ge 26, 3) := by decide +kernel
theorem dX5_parting_161 : decode cX5_parting 161 = .ok (.iload 5, 2) := by decide +kernel
theorem dX5_parting_163 : decode cX5_parting 163 = .ok (.ifCond .eq 21, 3) := by decide +kernel
theorem dX5_parting_166 : decode cX5_parting 166 = .ok (.aload_n 0, 1) := by decide +kernel
theorem dX5_parting_167 : decode cX5_parting 167 = .ok (.iload_n 3, 1) := by decide +kernel
theorem dX5_parting_168 : decode cX5_parting 168 = .ok (.iload 6, 2) := by decide +kernel
theorem dX5_parting_170 : decode cX5_parting 170 = .ok (.iload 7, 2) := by decide +kernel
theorem dX5_parting_172 : decode cX5_parting 172 = .ok (.iload_n 1, 1) := by decide +kernel
theorem dX5_parting_173 : decode cX5_parting 173 = .ok (.invokevirtual 183, 3) := by decide +kernel
theorem dX5_parting_176 : decode cX5_parting 176 = .ok (.istore 5, 2) := by decide +kernel
theorem dX5_parting_178 : decode cX5_parting 178 = .ok (.iinc 7 1, 3) := by decide +kernel
theorem dX5_parting_181 : decode cX5_parting 181 = .ok (.goto (-27), 3) := by decide +kernel
theorem dX5_parting_184 : decode cX5_parting 184 = .ok (.iinc 6 1, 3) := by decide +kernel
theorem dX5_parting_187 : decode cX5_parting 187 = .ok (.goto (-51), 3) := by decide +kernel
theorem dX5_parting_190 : decode cX5_parting 190 = .ok (.iload 5, 2) := by decide +kernel
theorem dX5_parting_192 : decode cX5_parting 192 = .ok (.ifCond .eq 8, 3) := by decide +kernel
theorem dX5_parting_195 : decode cX5_parting 195 = .ok (.iload 4, 2) := by decide +kernel
theorem dX5_parting_197 : decode cX5_parting 197 = .ok (.goto 4, 3) := by decide +kernel
theorem dX5_parting_200 : decode cX5_parting 200 = .ok (.iload_n 2, 1) := by decide +kernel
theorem dX5_parting_201 : decode cX5_parting 201 = .ok (.istore_n 2, 1) := by decide +kernel
theorem dX5_parting_202 : decode cX5_parting 202 = .ok (.iinc 3 1, 3) := by decide +kernel
theorem dX5_parting_205 : decode cX5_parting 205 = .ok (.goto (-125), 3) := by decide +kernel
theorem dX5_parting_208 : decode cX5_parting 208 = .ok (.iload_n 2, 1) := by decide +kernel
theorem dX5_parting_209 : decode cX5_parting 209 = .ok (.ireturn, 1) := by decide +kernel
theorem dX5_count_0 : decode cX5_count 0 = .ok (.iconst 0, 1) := by decide +kernel
theorem dX5_count_1 : decode cX5_count 1 = .ok (.istore_n 2, 1) := by decide +kernel
theorem dX5_count_2 : decode cX5_count 2 = .ok (.iconst 0, 1) := by decide +kernel
theorem dX5_count_3 : decode cX5_count 3 = .ok (.istore_n 3, 1) := by decide +kernel
theorem dX5_count_4 : decode cX5_count 4 = .ok (.iload_n 3, 1) := by decide +kernel
theorem dX5_count_5 : decode cX5_count 5 = .ok (.aload_n 0, 1) := by decide +kernel
theorem dX5_count_6 : decode cX5_count 6 = .ok (.getfield 91, 3) := by decide +kernel
theorem dX5_count_9 : decode cX5_count 9 = .ok (.if_icmp .ge 18, 3) := by decide +kernel
theorem dX5_count_12 : decode cX5_count 12 = .ok (.iload_n 2, 1) := by decide +kernel
theorem dX5_count_13 : decode cX5_count 13 = .ok (.aload_n 0, 1) := by decide +kernel
theorem dX5_count_14 : decode cX5_count 14 = .ok (.getfield 19, 3) := by decide +kernel
theorem dX5_count_17 : decode cX5_count 17 = .ok (.iload_n 3, 1) := by decide +kernel
theorem dX5_count_18 : decode cX5_count 18 = .ok (.iaload, 1) := by decide +kernel
theorem dX5_count_19 : decode cX5_count 19 = .ok (.iadd, 1) := by decide +kernel
theorem dX5_count_20 : decode cX5_count 20 = .ok (.istore_n 2, 1) := by decide +kernel
theorem dX5_count_21 : decode cX5_count 21 = .ok (.iinc 3 1, 3) := by decide +kernel
theorem dX5_count_24 : decode cX5_count 24 = .ok (.goto (-20), 3) := by decide +kernel
theorem dX5_count_27 : decode cX5_count 27 = .ok (.iload_n 1, 1) := by decide +kernel
theorem dX5_count_28 : decode cX5_count 28 = .ok (.ifCond .ne 10, 3) := by decide +kernel
theorem dX5_count_31 : decode cX5_count 31 = .ok (.aload_n 0, 1) := by decide +kernel
theorem dX5_count_32 : decode cX5_count 32 = .ok (.getfield 91, 3) := by decide +kernel
theorem dX5_count_35 : decode cX5_count 35 = .ok (.goto 25, 3) := by decide +kernel
theorem dX5_count_38 : decode cX5_count 38 = .ok (.iload_n 1, 1) := by decide +kernel
theorem dX5_count_39 : decode cX5_count 39 = .ok (.iconst 1, 1) := by decide +kernel
theorem dX5_count_40 : decode cX5_count 40 = .ok (.if_icmp .ne 10, 3) := by decide +kernel
theorem dX5_count_43 : decode cX5_count 43 = .ok (.aload_n 0, 1) := by decide +kernel
theorem dX5_count_44 : decode cX5_count 44 = .ok (.getfield 94, 3) := by decide +kernel
theorem dX5_count_47 : decode cX5_count 47 = .ok (.goto 13, 3) := by decide +kernel
theorem dX5_count_50 : decode cX5_count 50 = .ok (.iload_n 1, 1) := by decide +kernel
theorem dX5_count_51 : decode cX5_count 51 = .ok (.iconst 2, 1) := by decide +kernel
theorem dX5_count_52 : decode cX5_count 52 = .ok (.if_icmp .ne 7, 3) := by decide +kernel
theorem dX5_count_55 : decode cX5_count 55 = .ok (.iload_n 2, 1) := by decide +kernel
theorem dX5_count_56 : decode cX5_count 56 = .ok (.goto 4, 3) := by decide +kernel
theorem dX5_count_59 : decode cX5_count 59 = .ok (.iconst (-1), 1) := by decide +kernel
theorem dX5_count_60 : decode cX5_count 60 = .ok (.ireturn, 1) := by decide +kernel
