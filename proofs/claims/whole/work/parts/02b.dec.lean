theorem dX3_isWord_56 : decode cX3_isWord 56 = .ok (.ireturn, 1) := by decide +kernel
theorem dX3_isWord_57 : decode cX3_isWord 57 = .ok (.iinc 2 1, 3) := by decide +kernel
theorem dX3_isWord_60 : decode cX3_isWord 60 = .ok (.goto (-32), 3) := by decide +kernel
theorem dX3_isWord_63 : decode cX3_isWord 63 = .ok (.iconst 1, 1) := by decide +kernel
theorem dX3_isWord_64 : decode cX3_isWord 64 = .ok (.ireturn, 1) := by decide +kernel
theorem dX3_step_0 : decode cX3_step 0 = .ok (.aload_n 0, 1) := by decide +kernel
theorem dX3_step_1 : decode cX3_step 1 = .ok (.aload_n 0, 1) := by decide +kernel
theorem dX3_step_2 : decode cX3_step 2 = .ok (.getfield 25, 3) := by decide +kernel
theorem dX3_step_5 : decode cX3_step 5 = .ok (.putfield 22, 3) := by decide +kernel
theorem dX3_step_8 : decode cX3_step 8 = .ok (.aload_n 0, 1) := by decide +kernel
theorem dX3_step_9 : decode cX3_step 9 = .ok (.getfield 22, 3) := by decide +kernel
theorem dX3_step_12 : decode cX3_step 12 = .ok (.aload_n 0, 1) := by decide +kernel
theorem dX3_step_13 : decode cX3_step 13 = .ok (.getfield 15, 3) := by decide +kernel
theorem dX3_step_16 : decode cX3_step 16 = .ok (.if_icmp .ge 30, 3) := by decide +kernel
theorem dX3_step_19 : decode cX3_step 19 = .ok (.aload_n 0, 1) := by decide +kernel
theorem dX3_step_20 : decode cX3_step 20 = .ok (.getfield 9, 3) := by decide +kernel
theorem dX3_step_23 : decode cX3_step 23 = .ok (.aload_n 0, 1) := by decide +kernel
theorem dX3_step_24 : decode cX3_step 24 = .ok (.getfield 22, 3) := by decide +kernel
theorem dX3_step_27 : decode cX3_step 27 = .ok (.iaload, 1) := by decide +kernel
theorem dX3_step_28 : decode cX3_step 28 = .ok (.bipush 32, 2) := by decide +kernel
theorem dX3_step_30 : decode cX3_step 30 = .ok (.if_icmp .ne 16, 3) := by decide +kernel
theorem dX3_step_33 : decode cX3_step 33 = .ok (.aload_n 0, 1) := by decide +kernel
theorem dX3_step_34 : decode cX3_step 34 = .ok (.dup, 1) := by decide +kernel
theorem dX3_step_35 : decode cX3_step 35 = .ok (.getfield 22, 3) := by decide +kernel
theorem dX3_step_38 : decode cX3_step 38 = .ok (.iconst 1, 1) := by decide +kernel
theorem dX3_step_39 : decode cX3_step 39 = .ok (.iadd, 1) := by decide +kernel
theorem dX3_step_40 : decode cX3_step 40 = .ok (.putfield 22, 3) := by decide +kernel
theorem dX3_step_43 : decode cX3_step 43 = .ok (.goto (-35), 3) := by decide +kernel
theorem dX3_step_46 : decode cX3_step 46 = .ok (.aload_n 0, 1) := by decide +kernel
theorem dX3_step_47 : decode cX3_step 47 = .ok (.aload_n 0, 1) := by decide +kernel
theorem dX3_step_48 : decode cX3_step 48 = .ok (.getfield 22, 3) := by decide +kernel
theorem dX3_step_51 : decode cX3_step 51 = .ok (.putfield 25, 3) := by decide +kernel
theorem dX3_step_54 : decode cX3_step 54 = .ok (.aload_n 0, 1) := by decide +kernel
theorem dX3_step_55 : decode cX3_step 55 = .ok (.iconst 0, 1) := by decide +kernel
theorem dX3_step_56 : decode cX3_step 56 = .ok (.putfield 28, 3) := by decide +kernel
theorem dX3_step_59 : decode cX3_step 59 = .ok (.aload_n 0, 1) := by decide +kernel
theorem dX3_step_60 : decode cX3_step 60 = .ok (.getfield 22, 3) := by decide +kernel
theorem dX3_step_63 : decode cX3_step 63 = .ok (.aload_n 0, 1) := by decide +kernel
theorem dX3_step_64 : decode cX3_step 64 = .ok (.getfield 15, 3) := by decide +kernel
theorem dX3_step_67 : decode cX3_step 67 = .ok (.if_icmp .lt 11, 3) := by decide +kernel
theorem dX3_step_70 : decode cX3_step 70 = .ok (.aload_n 0, 1) := by decide +kernel
theorem dX3_step_71 : decode cX3_step 71 = .ok (.iconst 0, 1) := by decide +kernel
theorem dX3_step_72 : decode cX3_step 72 = .ok (.putfield 19, 3) := by decide +kernel
theorem dX3_step_75 : decode cX3_step 75 = .ok (.goto 184, 3) := by decide +kernel
theorem dX3_step_78 : decode cX3_step 78 = .ok (.aload_n 0, 1) := by decide +kernel
theorem dX3_step_79 : decode cX3_step 79 = .ok (.getfield 9, 3) := by decide +kernel
theorem dX3_step_82 : decode cX3_step 82 = .ok (.aload_n 0, 1) := by decide +kernel
theorem dX3_step_83 : decode cX3_step 83 = .ok (.getfield 22, 3) := by decide +kernel
theorem dX3_step_86 : decode cX3_step 86 = .ok (.iaload, 1) := by decide +kernel
theorem dX3_step_87 : decode cX3_step 87 = .ok (.invokestatic 105, 3) := by decide +kernel
theorem dX3_step_90 : decode cX3_step 90 = .ok (.ifCond .eq 47, 3) := by decide +kernel
theorem dX3_step_93 : decode cX3_step 93 = .ok (.aload_n 0, 1) := by decide +kernel
theorem dX3_step_94 : decode cX3_step 94 = .ok (.iconst 1, 1) := by decide +kernel
theorem dX3_step_95 : decode cX3_step 95 = .ok (.putfield 19, 3) := by decide +kernel
theorem dX3_step_98 : decode cX3_step 98 = .ok (.aload_n 0, 1) := by decide +kernel
theorem dX3_step_99 : decode cX3_step 99 = .ok (.getfield 25, 3) := by decide +kernel
theorem dX3_step_102 : decode cX3_step 102 = .ok (.aload_n 0, 1) := by decide +kernel
theorem dX3_step_103 : decode cX3_step 103 = .ok (.getfield 15, 3) := by decide +kernel
theorem dX3_step_106 : decode cX3_step 106 = .ok (.if_icmp .ge 153, 3) := by decide +kernel
theorem dX3_step_109 : decode cX3_step 109 = .ok (.aload_n 0, 1) := by decide +kernel
theorem dX3_step_110 : decode cX3_step 110 = .ok (.getfield 9, 3) := by decide +kernel
theorem dX3_step_113 : decode cX3_step 113 = .ok (.aload_n 0, 1) := by decide +kernel
theorem dX3_step_114 : decode cX3_step 114 = .ok (.getfield 25, 3) := by decide +kernel
theorem dX3_step_117 : decode cX3_step 117 = .ok (.iaload, 1) := by decide +kernel
theorem dX3_step_118 : decode cX3_step 118 = .ok (.invokestatic 105, 3) := by decide +kernel
theorem dX3_step_121 : decode cX3_step 121 = .ok (.ifCond .eq 138, 3) := by decide +kernel
theorem dX3_step_124 : decode cX3_step 124 = .ok (.aload_n 0, 1) := by decide +kernel
theorem dX3_step_125 : decode cX3_step 125 = .ok (.dup, 1) := by decide +kernel
theorem dX3_step_126 : decode cX3_step 126 = .ok (.getfield 25, 3) := by decide +kernel
theorem dX3_step_129 : decode cX3_step 129 = .ok (.iconst 1, 1) := by decide +kernel
theorem dX3_step_130 : decode cX3_step 130 = .ok (.iadd, 1) := by decide +kernel
theorem dX3_step_131 : decode cX3_step 131 = .ok (.putfield 25, 3) := by decide +kernel
theorem dX3_step_134 : decode cX3_step 134 = .ok (.goto (-36), 3) := by decide +kernel
theorem dX3_step_137 : decode cX3_step 137 = .ok (.aload_n 0, 1) := by decide +kernel
theorem dX3_step_138 : decode cX3_step 138 = .ok (.getfield 9, 3) := by decide +kernel
theorem dX3_step_141 : decode cX3_step 141 = .ok (.aload_n 0, 1) := by decide +kernel
theorem dX3_step_142 : decode cX3_step 142 = .ok (.getfield 22, 3) := by decide +kernel
theorem dX3_step_145 : decode cX3_step 145 = .ok (.iaload, 1) := by decide +kernel
theorem dX3_step_146 : decode cX3_step 146 = .ok (.invokestatic 108, 3) := by decide +kernel
theorem dX3_step_149 : decode cX3_step 149 = .ok (.ifCond .eq 77, 3) := by decide +kernel
theorem dX3_step_152 : decode cX3_step 152 = .ok (.aload_n 0, 1) := by decide +kernel
theorem dX3_step_153 : decode cX3_step 153 = .ok (.iconst 2, 1) := by decide +kernel
theorem dX3_step_154 : decode cX3_step 154 = .ok (.putfield 19, 3) := by decide +kernel
theorem dX3_step_157 : decode cX3_step 157 = .ok (.aload_n 0, 1) := by decide +kernel
theorem dX3_step_158 : decode cX3_step 158 = .ok (.getfield 25, 3) := by decide +kernel
theorem dX3_step_161 : decode cX3_step 161 = .ok (.aload_n 0, 1) := by decide +kernel
theorem dX3_step_162 : decode cX3_step 162 = .ok (.getfield 15, 3) := by decide +kernel
theorem dX3_step_165 : decode cX3_step 165 = .ok (.if_icmp .ge 94, 3) := by decide +kernel
theorem dX3_step_168 : decode cX3_step 168 = .ok (.aload_n 0, 1) := by decide +kernel
theorem dX3_step_169 : decode cX3_step 169 = .ok (.getfield 9, 3) := by decide +kernel
theorem dX3_step_172 : decode cX3_step 172 = .ok (.aload_n 0, 1) := by decide +kernel
theorem dX3_step_173 : decode cX3_step 173 = .ok (.getfield 25, 3) := by decide +kernel
theorem dX3_step_176 : decode cX3_step 176 = .ok (.iaload, 1) := by decide +kernel
theorem dX3_step_177 : decode cX3_step 177 = .ok (.invokestatic 108, 3) := by decide +kernel
theorem dX3_step_180 : decode cX3_step 180 = .ok (.ifCond .eq 79, 3) := by decide +kernel
theorem dX3_step_183 : decode cX3_step 183 = .ok (.aload_n 0, 1) := by decide +kernel
theorem dX3_step_184 : decode cX3_step 184 = .ok (.sipush 1000, 3) := by decide +kernel
theorem dX3_step_187 : decode cX3_step 187 = .ok (.aload_n 0, 1) := by decide +kernel
theorem dX3_step_188 : decode cX3_step 188 = .ok (.getfield 28, 3) := by decide +kernel
theorem dX3_step_191 : decode cX3_step 191 = .ok (.bipush 10, 2) := by decide +kernel
theorem dX3_step_193 : decode cX3_step 193 = .ok (.imul, 1) := by decide +kernel
theorem dX3_step_194 : decode cX3_step 194 = .ok (.aload_n 0, 1) := by decide +kernel
theorem dX3_step_195 : decode cX3_step 195 = .ok (.getfield 9, 3) := by decide +kernel
theorem dX3_step_198 : decode cX3_step 198 = .ok (.aload_n 0, 1) := by decide +kernel
theorem dX3_step_199 : decode cX3_step 199 = .ok (.getfield 25, 3) := by decide +kernel
theorem dX3_step_202 : decode cX3_step 202 = .ok (.iaload, 1) := by decide +kernel
theorem dX3_step_203 : decode cX3_step 203 = .ok (.iadd, 1) := by decide +kernel
theorem dX3_step_204 : decode cX3_step 204 = .ok (.bipush 48, 2) := by decide +kernel
theorem dX3_step_206 : decode cX3_step 206 = .ok (.isub, 1) := by decide +kernel
theorem dX3_step_207 : decode cX3_step 207 = .ok (.invokestatic 31, 3) := by decide +kernel
theorem dX3_step_210 : decode cX3_step 210 = .ok (.putfield 28, 3) := by decide +kernel
theorem dX3_step_213 : decode cX3_step 213 = .ok (.aload_n 0, 1) := by decide +kernel
theorem dX3_step_214 : decode cX3_step 214 = .ok (.dup, 1) := by decide +kernel
theorem dX3_step_215 : decode cX3_step 215 = .ok (.getfield 25, 3) := by decide +kernel
theorem dX3_step_218 : decode cX3_step 218 = .ok (.iconst 1, 1) := by decide +kernel
theorem dX3_step_219 : decode cX3_step 219 = .ok (.iadd, 1) := by decide +kernel
theorem dX3_step_220 : decode cX3_step 220 = .ok (.putfield 25, 3) := by decide +kernel
theorem dX3_step_223 : decode cX3_step 223 = .ok (.goto (-66), 3) := by decide +kernel
theorem dX3_step_226 : decode cX3_step 226 = .ok (.aload_n 0, 1) := by decide +kernel
theorem dX3_step_227 : decode cX3_step 227 = .ok (.aload_n 0, 1) := by decide +kernel
theorem dX3_step_228 : decode cX3_step 228 = .ok (.getfield 9, 3) := by decide +kernel
theorem dX3_step_231 : decode cX3_step 231 = .ok (.aload_n 0, 1) := by decide +kernel
theorem dX3_step_232 : decode cX3_step 232 = .ok (.getfield 22, 3) := by decide +kernel
theorem dX3_step_235 : decode cX3_step 235 = .ok (.iaload, 1) := by decide +kernel
theorem dX3_step_236 : decode cX3_step 236 = .ok (.bipush 59, 2) := by decide +kernel
theorem dX3_step_238 : decode cX3_step 238 = .ok (.if_icmp .ne 7, 3) := by decide +kernel
theorem dX3_step_241 : decode cX3_step 241 = .ok (.iconst 3, 1) := by decide +kernel
theorem dX3_step_242 : decode cX3_step 242 = .ok (.goto 4, 3) := by decide +kernel
theorem dX3_step_245 : decode cX3_step 245 = .ok (.iconst 4, 1) := by decide +kernel
theorem dX3_step_246 : decode cX3_step 246 = .ok (.putfield 19, 3) := by decide +kernel
theorem dX3_step_249 : decode cX3_step 249 = .ok (.aload_n 0, 1) := by decide +kernel
theorem dX3_step_250 : decode cX3_step 250 = .ok (.dup, 1) := by decide +kernel
theorem dX3_step_251 : decode cX3_step 251 = .ok (.getfield 25, 3) := by decide +kernel
theorem dX3_step_254 : decode cX3_step 254 = .ok (.iconst 1, 1) := by decide +kernel
theorem dX3_step_255 : decode cX3_step 255 = .ok (.iadd, 1) := by decide +kernel
theorem dX3_step_256 : decode cX3_step 256 = .ok (.putfield 25, 3) := by decide +kernel
theorem dX3_step_259 : decode cX3_step 259 = .ok (.return_, 1) := by decide +kernel
theorem dX3_isLetter_0 : decode cX3_isLetter 0 = .ok (.iload_n 0, 1) := by decide +kernel
theorem dX3_isLetter_1 : decode cX3_isLetter 1 = .ok (.bipush 97, 2) := by decide +kernel
theorem dX3_isLetter_3 : decode cX3_isLetter 3 = .ok (.if_icmp .lt 13, 3) := by decide +kernel
theorem dX3_isLetter_6 : decode cX3_isLetter 6 = .ok (.iload_n 0, 1) := by decide +kernel
theorem dX3_isLetter_7 : decode cX3_isLetter 7 = .ok (.bipush 122, 2) := by decide +kernel
theorem dX3_isLetter_9 : decode cX3_isLetter 9 = .ok (.if_icmp .gt 7, 3) := by decide +kernel
theorem dX3_isLetter_12 : decode cX3_isLetter 12 = .ok (.iconst 1, 1) := by decide +kernel
theorem dX3_isLetter_13 : decode cX3_isLetter 13 = .ok (.goto 4, 3) := by decide +kernel
theorem dX3_isLetter_16 : decode cX3_isLetter 16 = .ok (.iconst 0, 1) := by decide +kernel
theorem dX3_isLetter_17 : decode cX3_isLetter 17 = .ok (.ireturn, 1) := by decide +kernel
theorem dX3_isDigit_0 : decode cX3_isDigit 0 = .ok (.iload_n 0, 1) := by decide +kernel
theorem dX3_isDigit_1 : decode cX3_isDigit 1 = .ok (.bipush 48, 2) := by decide +kernel
theorem dX3_isDigit_3 : decode cX3_isDigit 3 = .ok (.if_icmp .lt 13, 3) := by decide +kernel
theorem dX3_isDigit_6 : decode cX3_isDigit 6 = .ok (.iload_n 0, 1) := by decide +kernel
theorem dX3_isDigit_7 : decode cX3_isDigit 7 = .ok (.bipush 57, 2) := by decide +kernel
theorem dX3_isDigit_9 : decode cX3_isDigit 9 = .ok (.if_icmp .gt 7, 3) := by decide +kernel
theorem dX3_isDigit_12 : decode cX3_isDigit 12 = .ok (.iconst 1, 1) := by decide +kernel
theorem dX3_isDigit_13 : decode cX3_isDigit 13 = .ok (.goto 4, 3) := by decide +kernel
theorem dX3_isDigit_16 : decode cX3_isDigit 16 = .ok (.iconst 0, 1) := by decide +kernel
theorem dX3_isDigit_17 : decode cX3_isDigit 17 = .ok (.ireturn, 1) := by decide +kernel
theorem dX3_nameOf_0 : decode cX3_nameOf 0 = .ok (.iload_n 0, 1) := by decide +kernel
theorem dX3_nameOf_1 : decode cX3_nameOf 1 = .ok (.tableswitch 57 1 6 #[39, 42, 45, 48, 51, 54], 39) := by decide +kernel
theorem dX3_nameOf_40 : decode cX3_nameOf 40 = .ok (.ldc 111, 2) := by decide +kernel
theorem dX3_nameOf_42 : decode cX3_nameOf 42 = .ok (.areturn, 1) := by decide +kernel
theorem dX3_nameOf_43 : decode cX3_nameOf 43 = .ok (.ldc 113, 2) := by decide +kernel
theorem dX3_nameOf_45 : decode cX3_nameOf 45 = .ok (.areturn, 1) := by decide +kernel
theorem dX3_nameOf_46 : decode cX3_nameOf 46 = .ok (.ldc 115, 2) := by decide +kernel
theorem dX3_nameOf_48 : decode cX3_nameOf 48 = .ok (.areturn, 1) := by decide +kernel
theorem dX3_nameOf_49 : decode cX3_nameOf 49 = .ok (.ldc 117, 2) := by decide +kernel
theorem dX3_nameOf_51 : decode cX3_nameOf 51 = .ok (.areturn, 1) := by decide +kernel
theorem dX3_nameOf_52 : decode cX3_nameOf 52 = .ok (.ldc 119, 2) := by decide +kernel
theorem dX3_nameOf_54 : decode cX3_nameOf 54 = .ok (.areturn, 1) := by decide +kernel
theorem dX3_nameOf_55 : decode cX3_nameOf 55 = .ok (.ldc 121, 2) := by decide +kernel
theorem dX3_nameOf_57 : decode cX3_nameOf 57 = .ok (.areturn, 1) := by decide +kernel
theorem dX3_nameOf_58 : decode cX3_nameOf 58 = .ok (.ldc 123, 2) := by decide +kernel
theorem dX3_nameOf_60 : decode cX3_nameOf 60 = .ok (.areturn, 1) := by decide +kernel
theorem dX4_init_0 : decode cX4_init 0 = .ok (.aload_n 0, 1) := by decide +kernel
theorem dX4_init_1 : decode cX4_init 1 = .ok (.invokespecial 3, 3) := by decide +kernel
theorem dX4_init_4 : decode cX4_init 4 = .ok (.aload_n 0, 1) := by decide +kernel
theorem dX4_init_5 : decode cX4_init 5 = .ok (.bipush 40, 2) := by decide +kernel
theorem dX4_init_7 : decode cX4_init 7 = .ok (.newarray .int, 2) := by decide +kernel
theorem dX4_init_9 : decode cX4_init 9 = .ok (.putfield 9, 3) := by decide +kernel
theorem dX4_init_12 : decode cX4_init 12 = .ok (.aload_n 0, 1) := by decide +kernel
theorem dX4_init_13 : decode cX4_init 13 = .ok (.iconst 0, 1) := by decide +kernel
theorem dX4_init_14 : decode cX4_init 14 = .ok (.putfield 15, 3) := by decide +kernel
theorem dX4_init_17 : decode cX4_init 17 = .ok (.aload_n 0, 1) := by decide +kernel
theorem dX4_init_18 : decode cX4_init 18 = .ok (.iconst 0, 1) := by decide +kernel
theorem dX4_init_19 : decode cX4_init 19 = .ok (.putfield 19, 3) := by decide +kernel
theorem dX4_init_22 : decode cX4_init 22 = .ok (.return_, 1) := by decide +kernel
theorem dX4_isMissing_0 : decode cX4_isMissing 0 = .ok (.aload_n 0, 1) := by decide +kernel
theorem dX4_isMissing_1 : decode cX4_isMissing 1 = .ok (.getfield 15, 3) := by decide +kernel
theorem dX4_isMissing_4 : decode cX4_isMissing 4 = .ok (.ifCond .ne 7, 3) := by decide +kernel
theorem dX4_isMissing_7 : decode cX4_isMissing 7 = .ok (.iconst 1, 1) := by decide +kernel
theorem dX4_isMissing_8 : decode cX4_isMissing 8 = .ok (.goto 4, 3) := by decide +kernel
theorem dX4_isMissing_11 : decode cX4_isMissing 11 = .ok (.iconst 0, 1) := by decide +kernel
theorem dX4_isMissing_12 : decode cX4_isMissing 12 = .ok (.ireturn, 1) := by decide +kernel
theorem dX4_clear_0 : decode cX4_clear 0 = .ok (.aload_n 0, 1) := by decide +kernel
theorem dX4_clear_1 : decode cX4_clear 1 = .ok (.iload_n 1, 1) := by decide +kernel
theorem dX4_clear_2 : decode cX4_clear 2 = .ok (.putfield 15, 3) := by decide +kernel
theorem dX4_clear_5 : decode cX4_clear 5 = .ok (.aload_n 0, 1) := by decide +kernel
theorem dX4_clear_6 : decode cX4_clear 6 = .ok (.iload_n 1, 1) := by decide +kernel
theorem dX4_clear_7 : decode cX4_clear 7 = .ok (.ifCond .ne 7, 3) := by decide +kernel
theorem dX4_clear_10 : decode cX4_clear 10 = .ok (.iconst 0, 1) := by decide +kernel
theorem dX4_clear_11 : decode cX4_clear 11 = .ok (.goto 4, 3) := by decide +kernel
theorem dX4_clear_14 : decode cX4_clear 14 = .ok (.iload_n 2, 1) := by decide +kernel
theorem dX4_clear_15 : decode cX4_clear 15 = .ok (.putfield 19, 3) := by decide +kernel
theorem dX4_clear_18 : decode cX4_clear 18 = .ok (.aload_n 0, 1) := by decide +kernel
theorem dX4_clear_19 : decode cX4_clear 19 = .ok (.getfield 9, 3) := by decide +kernel
theorem dX4_clear_22 : decode cX4_clear 22 = .ok (.iconst 0, 1) := by decide +kernel
theorem dX4_clear_23 : decode cX4_clear 23 = .ok (.invokestatic 22, 3) := by decide +kernel
theorem dX4_clear_26 : decode cX4_clear 26 = .ok (.return_, 1) := by decide +kernel
theorem dX4_put_0 : decode cX4_put 0 = .ok (.aload_n 0, 1) := by decide +kernel
theorem dX4_put_1 : decode cX4_put 1 = .ok (.getfield 15, 3) := by decide +kernel
theorem dX4_put_4 : decode cX4_put 4 = .ok (.bipush 8, 2) := by decide +kernel
theorem dX4_put_6 : decode cX4_put 6 = .ok (.if_icmp .ne 14, 3) := by decide +kernel
theorem dX4_put_9 : decode cX4_put 9 = .ok (.aload_n 0, 1) := by decide +kernel
theorem dX4_put_10 : decode cX4_put 10 = .ok (.getfield 9, 3) := by decide +kernel
theorem dX4_put_13 : decode cX4_put 13 = .ok (.iload_n 1, 1) := by decide +kernel
theorem dX4_put_14 : decode cX4_put 14 = .ok (.iload_n 2, 1) := by decide +kernel
theorem dX4_put_15 : decode cX4_put 15 = .ok (.i2b, 1) := by decide +kernel
theorem dX4_put_16 : decode cX4_put 16 = .ok (.iastore, 1) := by decide +kernel
theorem dX4_put_17 : decode cX4_put 17 = .ok (.goto 30, 3) := by decide +kernel
theorem dX4_put_20 : decode cX4_put 20 = .ok (.aload_n 0, 1) := by decide +kernel
theorem dX4_put_21 : decode cX4_put 21 = .ok (.getfield 15, 3) := by decide +kernel
theorem dX4_put_24 : decode cX4_put 24 = .ok (.bipush 16, 2) := by decide +kernel
theorem dX4_put_26 : decode cX4_put 26 = .ok (.if_icmp .ne 14, 3) := by decide +kernel
theorem dX4_put_29 : decode cX4_put 29 = .ok (.aload_n 0, 1) := by decide +kernel
theorem dX4_put_30 : decode cX4_put 30 = .ok (.getfield 9, 3) := by decide +kernel
theorem dX4_put_33 : decode cX4_put 33 = .ok (.iload_n 1, 1) := by decide +kernel
theorem dX4_put_34 : decode cX4_put 34 = .ok (.iload_n 2, 1) := by decide +kernel
theorem dX4_put_35 : decode cX4_put 35 = .ok (.i2s, 1) := by decide +kernel
theorem dX4_put_36 : decode cX4_put 36 = .ok (.iastore, 1) := by decide +kernel
theorem dX4_put_37 : decode cX4_put 37 = .ok (.goto 10, 3) := by decide +kernel
theorem dX4_put_40 : decode cX4_put 40 = .ok (.aload_n 0, 1) := by decide +kernel
theorem dX4_put_41 : decode cX4_put 41 = .ok (.getfield 9, 3) := by decide +kernel
theorem dX4_put_44 : decode cX4_put 44 = .ok (.iload_n 1, 1) := by decide +kernel
theorem dX4_put_45 : decode cX4_put 45 = .ok (.iload_n 2, 1) := by decide +kernel
theorem dX4_put_46 : decode cX4_put 46 = .ok (.iastore, 1) := by decide +kernel
theorem dX4_put_47 : decode cX4_put 47 = .ok (.return_, 1) := by decide +kernel
theorem dX4_hasRow_0 : decode cX4_hasRow 0 = .ok (.iload_n 1, 1) := by decide +kernel
theorem dX4_hasRow_1 : decode cX4_hasRow 1 = .ok (.ifCond .lt 29, 3) := by decide +kernel
theorem dX4_hasRow_4 : decode cX4_hasRow 4 = .ok (.iload_n 2, 1) := by decide +kernel
theorem dX4_hasRow_5 : decode cX4_hasRow 5 = .ok (.ifCond .lt 25, 3) := by decide +kernel
theorem dX4_hasRow_8 : decode cX4_hasRow 8 = .ok (.iload_n 1, 1) := by decide +kernel
theorem dX4_hasRow_9 : decode cX4_hasRow 9 = .ok (.aload_n 0, 1) := by decide +kernel
theorem dX4_hasRow_10 : decode cX4_hasRow 10 = .ok (.getfield 19, 3) := by decide +kernel
theorem dX4_hasRow_13 : decode cX4_hasRow 13 = .ok (.if_icmp .gt 17, 3) := by decide +kernel
theorem dX4_hasRow_16 : decode cX4_hasRow 16 = .ok (.iload_n 2, 1) := by decide +kernel
theorem dX4_hasRow_17 : decode cX4_hasRow 17 = .ok (.aload_n 0, 1) := by decide +kernel
theorem dX4_hasRow_18 : decode cX4_hasRow 18 = .ok (.getfield 19, 3) := by decide +kernel
theorem dX4_hasRow_21 : decode cX4_hasRow 21 = .ok (.iload_n 1, 1) := by decide +kernel
theorem dX4_hasRow_22 : decode cX4_hasRow 22 = .ok (.isub, 1) := by decide +kernel
theorem dX4_hasRow_23 : decode cX4_hasRow 23 = .ok (.if_icmp .gt 7, 3) := by decide +kernel
theorem dX4_hasRow_26 : decode cX4_hasRow 26 = .ok (.iconst 1, 1) := by decide +kernel
theorem dX4_hasRow_27 : decode cX4_hasRow 27 = .ok (.goto 4, 3) := by decide +kernel
theorem dX4_hasRow_30 : decode cX4_hasRow 30 = .ok (.iconst 0, 1) := by decide +kernel
theorem dX4_hasRow_31 : decode cX4_hasRow 31 = .ok (.ireturn, 1) := by decide +kernel
theorem dX5_init_0 : decode cX5_init 0 = .ok (.aload_n 0, 1) := by decide +kernel
theorem dX5_init_1 : decode cX5_init 1 = .ok (.invokespecial 3, 3) := by decide +kernel
theorem dX5_init_4 : decode cX5_init 4 = .ok (.aload_n 0, 1) := by decide +kernel
theorem dX5_init_5 : decode cX5_init 5 = .ok (.sipush 1024, 3) := by decide +kernel
theorem dX5_init_8 : decode cX5_init 8 = .ok (.newarray .int, 2) := by decide +kernel
theorem dX5_init_10 : decode cX5_init 10 = .ok (.putfield 9, 3) := by decide +kernel
theorem dX5_init_13 : decode cX5_init 13 = .ok (.aload_n 0, 1) := by decide +kernel
theorem dX5_init_14 : decode cX5_init 14 = .ok (.sipush 1024, 3) := by decide +kernel
theorem dX5_init_17 : decode cX5_init 17 = .ok (.newarray .int, 2) := by decide +kernel
theorem dX5_init_19 : decode cX5_init 19 = .ok (.putfield 15, 3) := by decide +kernel
theorem dX5_init_22 : decode cX5_init 22 = .ok (.aload_n 0, 1) := by decide +kernel
theorem dX5_init_23 : decode cX5_init 23 = .ok (.iconst 0, 1) := by decide +kernel
theorem dX5_init_24 : decode cX5_init 24 = .ok (.putfield 18, 3) := by decide +kernel
theorem dX5_init_27 : decode cX5_init 27 = .ok (.aload_n 0, 1) := by decide +kernel
theorem dX5_init_28 : decode cX5_init 28 = .ok (.bipush 10, 2) := by decide +kernel
theorem dX5_init_30 : decode cX5_init 30 = .ok (.newarray .int, 2) := by decide +kernel
theorem dX5_init_32 : decode cX5_init 32 = .ok (.putfield 22, 3) := by decide +kernel
theorem dX5_init_35 : decode cX5_init 35 = .ok (.aload_n 0, 1) := by decide +kernel
theorem dX5_init_36 : decode cX5_init 36 = .ok (.bipush 10, 2) := by decide +kernel
theorem dX5_init_38 : decode cX5_init 38 = .ok (.newarray .int, 2) := by decide +kernel
theorem dX5_init_40 : decode cX5_init 40 = .ok (.putfield 25, 3) := by decide +kernel
theorem dX5_init_43 : decode cX5_init 43 = .ok (.aload_n 0, 1) := by decide +kernel
theorem dX5_init_44 : decode cX5_init 44 = .ok (.bipush 10, 2) := by decide +kernel
theorem dX5_init_46 : decode cX5_init 46 = .ok (.newarray .int, 2) := by decide +kernel
theorem dX5_init_48 : decode cX5_init 48 = .ok (.putfield 28, 3) := by decide +kernel
theorem dX5_init_51 : decode cX5_init 51 = .ok (.aload_n 0, 1) := by decide +kernel
theorem dX5_init_52 : decode cX5_init 52 = .ok (.iconst 0, 1) := by decide +kernel
theorem dX5_init_53 : decode cX5_init 53 = .ok (.putfield 31, 3) := by decide +kernel
theorem dX5_init_56 : decode cX5_init 56 = .ok (.aload_n 0, 1) := by decide +kernel
theorem dX5_init_57 : decode cX5_init 57 = .ok (.iconst 0, 1) := by decide +kernel
theorem dX5_init_58 : decode cX5_init 58 = .ok (.putfield 34, 3) := by decide +kernel
theorem dX5_init_61 : decode cX5_init 61 = .ok (.aload_n 0, 1) := by decide +kernel
theorem dX5_init_62 : decode cX5_init 62 = .ok (.iconst 0, 1) := by decide +kernel
theorem dX5_init_63 : decode cX5_init 63 = .ok (.putfield 37, 3) := by decide +kernel
theorem dX5_init_66 : decode cX5_init 66 = .ok (.return_, 1) := by decide +kernel
theorem dX5_leastSetWorth_0 : decode cX5_leastSetWorth 0 = .ok (.iconst 0, 1) := by decide +kernel
theorem dX5_leastSetWorth_1 : decode cX5_leastSetWorth 1 = .ok (.istore 4, 2) := by decide +kernel
theorem dX5_leastSetWorth_3 : decode cX5_leastSetWorth 3 = .ok (.iload 4, 2) := by decide +kernel
theorem dX5_leastSetWorth_5 : decode cX5_leastSetWorth 5 = .ok (.aload_n 1, 1) := by decide +kernel
theorem dX5_leastSetWorth_6 : decode cX5_leastSetWorth 6 = .ok (.getfield 40, 3) := by decide +kernel
theorem dX5_leastSetWorth_9 : decode cX5_leastSetWorth 9 = .ok (.if_icmp .ge 26, 3) := by decide +kernel
theorem dX5_leastSetWorth_12 : decode cX5_leastSetWorth 12 = .ok (.aload_n 0, 1) := by decide +kernel
theorem dX5_leastSetWorth_13 : decode cX5_leastSetWorth 13 = .ok (.getfield 22, 3) := by decide +kernel
theorem dX5_leastSetWorth_16 : decode cX5_leastSetWorth 16 = .ok (.iload 4, 2) := by decide +kernel
theorem dX5_leastSetWorth_18 : decode cX5_leastSetWorth 18 = .ok (.aload_n 1, 1) := by decide +kernel
theorem dX5_leastSetWorth_19 : decode cX5_leastSetWorth 19 = .ok (.getfield 45, 3) := by decide +kernel
theorem dX5_leastSetWorth_22 : decode cX5_leastSetWorth 22 = .ok (.iload 4, 2) := by decide +kernel
theorem dX5_leastSetWorth_24 : decode cX5_leastSetWorth 24 = .ok (.aaload, 1) := by decide +kernel
theorem dX5_leastSetWorth_25 : decode cX5_leastSetWorth 25 = .ok (.invokevirtual 49, 3) := by decide +kernel
theorem dX5_leastSetWorth_28 : decode cX5_leastSetWorth 28 = .ok (.iastore, 1) := by decide +kernel
theorem dX5_leastSetWorth_29 : decode cX5_leastSetWorth 29 = .ok (.iinc 4 1, 3) := by decide +kernel
theorem dX5_leastSetWorth_32 : decode cX5_leastSetWorth 32 = .ok (.goto (-29), 3) := by decide +kernel
theorem dX5_leastSetWorth_35 : decode cX5_leastSetWorth 35 = .ok (.aload_n 0, 1) := by decide +kernel
theorem dX5_leastSetWorth_36 : decode cX5_leastSetWorth 36 = .ok (.iload_n 2, 1) := by decide +kernel
theorem dX5_leastSetWorth_37 : decode cX5_leastSetWorth 37 = .ok (.invokevirtual 55, 3) := by decide +kernel
theorem dX5_leastSetWorth_40 : decode cX5_leastSetWorth 40 = .ok (.iconst 0, 1) := by decide +kernel
theorem dX5_leastSetWorth_41 : decode cX5_leastSetWorth 41 = .ok (.istore 4, 2) := by decide +kernel
theorem dX5_leastSetWorth_43 : decode cX5_leastSetWorth 43 = .ok (.iload 4, 2) := by decide +kernel
theorem dX5_leastSetWorth_45 : decode cX5_leastSetWorth 45 = .ok (.aload_n 0, 1) := by decide +kernel
theorem dX5_leastSetWorth_46 : decode cX5_leastSetWorth 46 = .ok (.getfield 18, 3) := by decide +kernel
theorem dX5_leastSetWorth_49 : decode cX5_leastSetWorth 49 = .ok (.if_icmp .ge 28, 3) := by decide +kernel
theorem dX5_leastSetWorth_52 : decode cX5_leastSetWorth 52 = .ok (.aload_n 0, 1) := by decide +kernel
theorem dX5_leastSetWorth_53 : decode cX5_leastSetWorth 53 = .ok (.getfield 15, 3) := by decide +kernel
theorem dX5_leastSetWorth_56 : decode cX5_leastSetWorth 56 = .ok (.iload 4, 2) := by decide +kernel
theorem dX5_leastSetWorth_58 : decode cX5_leastSetWorth 58 = .ok (.iaload, 1) := by decide +kernel
theorem dX5_leastSetWorth_59 : decode cX5_leastSetWorth 59 = .ok (.iload_n 3, 1) := by decide +kernel
theorem dX5_leastSetWorth_60 : decode cX5_leastSetWorth 60 = .ok (.if_icmp .ne 11, 3) := by decide +kernel
theorem dX5_leastSetWorth_63 : decode cX5_leastSetWorth 63 = .ok (.aload_n 0, 1) := by decide +kernel
theorem dX5_leastSetWorth_64 : decode cX5_leastSetWorth 64 = .ok (.getfield 9, 3) := by decide +kernel
theorem dX5_leastSetWorth_67 : decode cX5_leastSetWorth 67 = .ok (.iload 4, 2) := by decide +kernel
theorem dX5_leastSetWorth_69 : decode cX5_leastSetWorth 69 = .ok (.iaload, 1) := by decide +kernel
theorem dX5_leastSetWorth_70 : decode cX5_leastSetWorth 70 = .ok (.ireturn, 1) := by decide +kernel
theorem dX5_leastSetWorth_71 : decode cX5_leastSetWorth 71 = .ok (.iinc 4 1, 3) := by decide +kernel
theorem dX5_leastSetWorth_74 : decode cX5_leastSetWorth 74 = .ok (.goto (-31), 3) := by decide +kernel
theorem dX5_leastSetWorth_77 : decode cX5_leastSetWorth 77 = .ok (.iconst (-1), 1) := by decide +kernel
theorem dX5_leastSetWorth_78 : decode cX5_leastSetWorth 78 = .ok (.ireturn, 1) := by decide +kernel
theorem dX5_waysWorth_0 : decode cX5_waysWorth 0 = .ok (.iconst 0, 1) := by decide +kernel
theorem dX5_waysWorth_1 : decode cX5_waysWorth 1 = .ok (.istore 4, 2) := by decide +kernel
theorem dX5_waysWorth_3 : decode cX5_waysWorth 3 = .ok (.iload 4, 2) := by decide +kernel
theorem dX5_waysWorth_5 : decode cX5_waysWorth 5 = .ok (.aload_n 1, 1) := by decide +kernel
theorem dX5_waysWorth_6 : decode cX5_waysWorth 6 = .ok (.getfield 40, 3) := by decide +kernel
theorem dX5_waysWorth_9 : decode cX5_waysWorth 9 = .ok (.if_icmp .ge 37, 3) := by decide +kernel
theorem dX5_waysWorth_12 : decode cX5_waysWorth 12 = .ok (.aload_n 0, 1) := by decide +kernel
theorem dX5_waysWorth_13 : decode cX5_waysWorth 13 = .ok (.getfield 22, 3) := by decide +kernel
theorem dX5_waysWorth_16 : decode cX5_waysWorth 16 = .ok (.iload 4, 2) := by decide +kernel
theorem dX5_waysWorth_18 : decode cX5_waysWorth 18 = .ok (.aload_n 1, 1) := by decide +kernel
theorem dX5_waysWorth_19 : decode cX5_waysWorth 19 = .ok (.getfield 45, 3) := by decide +kernel
theorem dX5_waysWorth_22 : decode cX5_waysWorth 22 = .ok (.iload 4, 2) := by decide +kernel
theorem dX5_waysWorth_24 : decode cX5_waysWorth 24 = .ok (.aaload, 1) := by decide +kernel
theorem dX5_waysWorth_25 : decode cX5_waysWorth 25 = .ok (.invokevirtual 59, 3) := by decide +kernel
theorem dX5_waysWorth_28 : decode cX5_waysWorth 28 = .ok (.aload_n 1, 1) := by decide +kernel
theorem dX5_waysWorth_29 : decode cX5_waysWorth 29 = .ok (.getfield 45, 3) := by decide +kernel
theorem dX5_waysWorth_32 : decode cX5_waysWorth 32 = .ok (.iload 4, 2) := by decide +kernel
theorem dX5_waysWorth_34 : decode cX5_waysWorth 34 = .ok (.aaload, 1) := by decide +kernel
theorem dX5_waysWorth_35 : decode cX5_waysWorth 35 = .ok (.invokevirtual 49, 3) := by decide +kernel
theorem dX5_waysWorth_38 : decode cX5_waysWorth 38 = .ok (.isub, 1) := by decide +kernel
theorem dX5_waysWorth_39 : decode cX5_waysWorth 39 = .ok (.iastore, 1) := by decide +kernel
theorem dX5_waysWorth_40 : decode cX5_waysWorth 40 = .ok (.iinc 4 1, 3) := by decide +kernel
theorem dX5_waysWorth_43 : decode cX5_waysWorth 43 = .ok (.goto (-40), 3) := by decide +kernel
theorem dX5_waysWorth_46 : decode cX5_waysWorth 46 = .ok (.aload_n 0, 1) := by decide +kernel
theorem dX5_waysWorth_47 : decode cX5_waysWorth 47 = .ok (.iload_n 2, 1) := by decide +kernel
theorem dX5_waysWorth_48 : decode cX5_waysWorth 48 = .ok (.invokevirtual 55, 3) := by decide +kernel
theorem dX5_waysWorth_51 : decode cX5_waysWorth 51 = .ok (.iload_n 3, 1) := by decide +kernel
theorem dX5_waysWorth_52 : decode cX5_waysWorth 52 = .ok (.aload_n 1, 1) := by decide +kernel
theorem dX5_waysWorth_53 : decode cX5_waysWorth 53 = .ok (.iload_n 2, 1) := by decide +kernel
theorem dX5_waysWorth_54 : decode cX5_waysWorth 54 = .ok (.invokevirtual 62, 3) := by decide +kernel
theorem dX5_waysWorth_57 : decode cX5_waysWorth 57 = .ok (.isub, 1) := by decide +kernel
theorem dX5_waysWorth_58 : decode cX5_waysWorth 58 = .ok (.istore 4, 2) := by decide +kernel
theorem dX5_waysWorth_60 : decode cX5_waysWorth 60 = .ok (.iconst 0, 1) := by decide +kernel
theorem dX5_waysWorth_61 : decode cX5_waysWorth 61 = .ok (.istore 5, 2) := by decide +kernel
theorem dX5_waysWorth_63 : decode cX5_waysWorth 63 = .ok (.iconst 0, 1) := by decide +kernel
theorem dX5_waysWorth_64 : decode cX5_waysWorth 64 = .ok (.istore 6, 2) := by decide +kernel
theorem dX5_waysWorth_66 : decode cX5_waysWorth 66 = .ok (.iload 6, 2) := by decide +kernel
theorem dX5_waysWorth_68 : decode cX5_waysWorth 68 = .ok (.aload_n 0, 1) := by decide +kernel
theorem dX5_waysWorth_69 : decode cX5_waysWorth 69 = .ok (.getfield 18, 3) := by decide +kernel
theorem dX5_waysWorth_72 : decode cX5_waysWorth 72 = .ok (.if_icmp .ge 24, 3) := by decide +kernel
theorem dX5_waysWorth_75 : decode cX5_waysWorth 75 = .ok (.aload_n 0, 1) := by decide +kernel
theorem dX5_waysWorth_76 : decode cX5_waysWorth 76 = .ok (.getfield 15, 3) := by decide +kernel
theorem dX5_waysWorth_79 : decode cX5_waysWorth 79 = .ok (.iload 6, 2) := by decide +kernel
theorem dX5_waysWorth_81 : decode cX5_waysWorth 81 = .ok (.iaload, 1) := by decide +kernel
theorem dX5_waysWorth_82 : decode cX5_waysWorth 82 = .ok (.iload 4, 2) := by decide +kernel
theorem dX5_waysWorth_84 : decode cX5_waysWorth 84 = .ok (.if_icmp .lt 6, 3) := by decide +kernel
theorem dX5_waysWorth_87 : decode cX5_waysWorth 87 = .ok (.iinc 5 1, 3) := by decide +kernel
theorem dX5_waysWorth_90 : decode cX5_waysWorth 90 = .ok (.iinc 6 1, 3) := by decide +kernel
theorem dX5_waysWorth_93 : decode cX5_waysWorth 93 = .ok (.goto (-27), 3) := by decide +kernel
theorem dX5_waysWorth_96 : decode cX5_waysWorth 96 = .ok (.iload 5, 2) := by decide +kernel
theorem dX5_waysWorth_98 : decode cX5_waysWorth 98 = .ok (.ireturn, 1) := by decide +kernel
theorem dX5_fewestCoins_0 : decode cX5_fewestCoins 0 = .ok (.aload_n 0, 1) := by decide +kernel
theorem dX5_fewestCoins_1 : decode cX5_fewestCoins 1 = .ok (.aload_n 1, 1) := by decide +kernel
theorem dX5_fewestCoins_2 : decode cX5_fewestCoins 2 = .ok (.iload_n 2, 1) := by decide +kernel
theorem dX5_fewestCoins_3 : decode cX5_fewestCoins 3 = .ok (.iload_n 3, 1) := by decide +kernel
theorem dX5_fewestCoins_4 : decode cX5_fewestCoins 4 = .ok (.invokevirtual 66, 3) := by decide +kernel
theorem dX5_fewestCoins_7 : decode cX5_fewestCoins 7 = .ok (.bipush 11, 2) := by decide +kernel
theorem dX5_fewestCoins_9 : decode cX5_fewestCoins 9 = .ok (.istore 5, 2) := by decide +kernel
theorem dX5_fewestCoins_11 : decode cX5_fewestCoins 11 = .ok (.iconst 0, 1) := by decide +kernel
theorem dX5_fewestCoins_12 : decode cX5_fewestCoins 12 = .ok (.istore 6, 2) := by decide +kernel
theorem dX5_fewestCoins_14 : decode cX5_fewestCoins 14 = .ok (.iload 6, 2) := by decide +kernel
theorem dX5_fewestCoins_16 : decode cX5_fewestCoins 16 = .ok (.aload_n 0, 1) := by decide +kernel
theorem dX5_fewestCoins_17 : decode cX5_fewestCoins 17 = .ok (.getfield 18, 3) := by decide +kernel
theorem dX5_fewestCoins_20 : decode cX5_fewestCoins 20 = .ok (.if_icmp .ge 38, 3) := by decide +kernel
theorem dX5_fewestCoins_23 : decode cX5_fewestCoins 23 = .ok (.aload_n 0, 1) := by decide +kernel
theorem dX5_fewestCoins_24 : decode cX5_fewestCoins 24 = .ok (.getfield 15, 3) := by decide +kernel
theorem dX5_fewestCoins_27 : decode cX5_fewestCoins 27 = .ok (.iload 6, 2) := by decide +kernel
theorem dX5_fewestCoins_29 : decode cX5_fewestCoins 29 = .ok (.iaload, 1) := by decide +kernel
theorem dX5_fewestCoins_30 : decode cX5_fewestCoins 30 = .ok (.iload 4, 2) := by decide +kernel
theorem dX5_fewestCoins_32 : decode cX5_fewestCoins 32 = .ok (.if_icmp .ne 20, 3) := by decide +kernel
theorem dX5_fewestCoins_35 : decode cX5_fewestCoins 35 = .ok (.iload 5, 2) := by decide +kernel
theorem dX5_fewestCoins_37 : decode cX5_fewestCoins 37 = .ok (.aload_n 0, 1) := by decide +kernel
theorem dX5_fewestCoins_38 : decode cX5_fewestCoins 38 = .ok (.getfield 9, 3) := by decide +kernel
theorem dX5_fewestCoins_41 : decode cX5_fewestCoins 41 = .ok (.iload 6, 2) := by decide +kernel
theorem dX5_fewestCoins_43 : decode cX5_fewestCoins 43 = .ok (.iaload, 1) := by decide +kernel
theorem dX5_fewestCoins_44 : decode cX5_fewestCoins 44 = .ok (.invokestatic 70, 3) := by decide +kernel
theorem dX5_fewestCoins_47 : decode cX5_fewestCoins 47 = .ok (.invokestatic 75, 3) := by decide +kernel
theorem dX5_fewestCoins_50 : decode cX5_fewestCoins 50 = .ok (.istore 5, 2) := by decide +kernel
theorem dX5_fewestCoins_52 : decode cX5_fewestCoins 52 = .ok (.iinc 6 1, 3) := by decide +kernel
theorem dX5_fewestCoins_55 : decode cX5_fewestCoins 55 = .ok (.goto (-41), 3) := by decide +kernel
theorem dX5_fewestCoins_58 : decode cX5_fewestCoins 58 = .ok (.iload 5, 2) := by decide +kernel
theorem dX5_fewestCoins_60 : decode cX5_fewestCoins 60 = .ok (.bipush 10, 2) := by decide +kernel
theorem dX5_fewestCoins_62 : decode cX5_fewestCoins 62 = .ok (.if_icmp .gt 8, 3) := by decide +kernel
theorem dX5_fewestCoins_65 : decode cX5_fewestCoins 65 = .ok (.iload 5, 2) := by decide +kernel
theorem dX5_fewestCoins_67 : decode cX5_fewestCoins 67 = .ok (.goto 4, 3) := by decide +kernel
theorem dX5_fewestCoins_70 : decode cX5_fewestCoins 70 = .ok (.iconst (-1), 1) := by decide +kernel
theorem dX5_fewestCoins_71 : decode cX5_fewestCoins 71 = .ok (.ireturn, 1) := by decide +kernel
theorem dX5_findPayment_0 : decode cX5_findPayment 0 = .ok (.aload_n 0, 1) := by decide +kernel
theorem dX5_findPayment_1 : decode cX5_findPayment 1 = .ok (.aload_n 1, 1) := by decide +kernel
theorem dX5_findPayment_2 : decode cX5_findPayment 2 = .ok (.iload_n 2, 1) := by decide +kernel
theorem dX5_findPayment_3 : decode cX5_findPayment 3 = .ok (.iload_n 3, 1) := by decide +kernel
theorem dX5_findPayment_4 : decode cX5_findPayment 4 = .ok (.invokevirtual 66, 3) := by decide +kernel
theorem dX5_findPayment_7 : decode cX5_findPayment 7 = .ok (.aload_n 1, 1) := by decide +kernel
theorem dX5_findPayment_8 : decode cX5_findPayment 8 = .ok (.iload_n 2, 1) := by decide +kernel
theorem dX5_findPayment_9 : decode cX5_findPayment 9 = .ok (.invokevirtual 81, 3) := by decide +kernel
theorem dX5_findPayment_12 : decode cX5_findPayment 12 = .ok (.istore 5, 2) := by decide +kernel
theorem dX5_findPayment_14 : decode cX5_findPayment 14 = .ok (.ldc2_w 84, 3) := by decide +kernel
theorem dX5_findPayment_17 : decode cX5_findPayment 17 = .ok (.lstore 6, 2) := by decide +kernel
theorem dX5_findPayment_19 : decode cX5_findPayment 19 = .ok (.iconst 0, 1) := by decide +kernel
theorem dX5_findPayment_20 : decode cX5_findPayment 20 = .ok (.istore 8, 2) := by decide +kernel
theorem dX5_findPayment_22 : decode cX5_findPayment 22 = .ok (.iload 8, 2) := by decide +kernel
theorem dX5_findPayment_24 : decode cX5_findPayment 24 = .ok (.aload_n 0, 1) := by decide +kernel
theorem dX5_findPayment_25 : decode cX5_findPayment 25 = .ok (.getfield 18, 3) := by decide +kernel
theorem dX5_findPayment_28 : decode cX5_findPayment 28 = .ok (.if_icmp .ge 92, 3) := by decide +kernel
theorem dX5_findPayment_31 : decode cX5_findPayment 31 = .ok (.aload_n 0, 1) := by decide +kernel
theorem dX5_findPayment_32 : decode cX5_findPayment 32 = .ok (.getfield 15, 3) := by decide +kernel
theorem dX5_findPayment_35 : decode cX5_findPayment 35 = .ok (.iload 8, 2) := by decide +kernel
theorem dX5_findPayment_37 : decode cX5_findPayment 37 = .ok (.iaload, 1) := by decide +kernel
theorem dX5_findPayment_38 : decode cX5_findPayment 38 = .ok (.iload 4, 2) := by decide +kernel
theorem dX5_findPayment_40 : decode cX5_findPayment 40 = .ok (.if_icmp .ne 74, 3) := by decide +kernel
theorem dX5_findPayment_43 : decode cX5_findPayment 43 = .ok (.aload_n 0, 1) := by decide +kernel
theorem dX5_findPayment_44 : decode cX5_findPayment 44 = .ok (.getfield 25, 3) := by decide +kernel
theorem dX5_findPayment_47 : decode cX5_findPayment 47 = .ok (.aload_n 0, 1) := by decide +kernel
theorem dX5_findPayment_48 : decode cX5_findPayment 48 = .ok (.getfield 9, 3) := by decide +kernel
theorem dX5_findPayment_51 : decode cX5_findPayment 51 = .ok (.iload 8, 2) := by decide +kernel
theorem dX5_findPayment_53 : decode cX5_findPayment 53 = .ok (.iaload, 1) := by decide +kernel
theorem dX5_findPayment_54 : decode cX5_findPayment 54 = .ok (.invokestatic 86, 3) := by decide +kernel
theorem dX5_findPayment_57 : decode cX5_findPayment 57 = .ok (.sipush 1000, 3) := by decide +kernel
theorem dX5_findPayment_60 : decode cX5_findPayment 60 = .ok (.iadd, 1) := by decide +kernel
theorem dX5_findPayment_61 : decode cX5_findPayment 61 = .ok (.i2l, 1) := by decide +kernel
theorem dX5_findPayment_62 : decode cX5_findPayment 62 = .ok (.ldc2_w 90, 3) := by decide +kernel
theorem dX5_findPayment_65 : decode cX5_findPayment 65 = .ok (.lmul, 1) := by decide +kernel
theorem dX5_findPayment_66 : decode cX5_findPayment 66 = .ok (.aload_n 0, 1) := by decide +kernel
theorem dX5_findPayment_67 : decode cX5_findPayment 67 = .ok (.getfield 9, 3) := by decide +kernel
theorem dX5_findPayment_70 : decode cX5_findPayment 70 = .ok (.iload 8, 2) := by decide +kernel
theorem dX5_findPayment_72 : decode cX5_findPayment 72 = .ok (.iaload, 1) := by decide +kernel
theorem dX5_findPayment_73 : decode cX5_findPayment 73 = .ok (.invokestatic 70, 3) := by decide +kernel
theorem dX5_findPayment_76 : decode cX5_findPayment 76 = .ok (.i2l, 1) := by decide +kernel
theorem dX5_findPayment_77 : decode cX5_findPayment 77 = .ok (.ladd, 1) := by decide +kernel
theorem dX5_findPayment_78 : decode cX5_findPayment 78 = .ok (.lstore 9, 2) := by decide +kernel
theorem dX5_findPayment_80 : decode cX5_findPayment 80 = .ok (.lload 6, 2) := by decide +kernel
theorem dX5_findPayment_82 : decode cX5_findPayment 82 = .ok (.lload 9, 2) := by decide +kernel
theorem dX5_findPayment_84 : decode cX5_findPayment 84 = .ok (.aload_n 0, 1) := by decide +kernel
theorem dX5_findPayment_85 : decode cX5_findPayment 85 = .ok (.getfield 9, 3) := by decide +kernel
theorem dX5_findPayment_88 : decode cX5_findPayment 88 = .ok (.iload 8, 2) := by decide +kernel
theorem dX5_findPayment_90 : decode cX5_findPayment 90 = .ok (.iaload, 1) := by decide +kernel
theorem dX5_findPayment_91 : decode cX5_findPayment 91 = .ok (.iload 5, 2) := by decide +kernel
theorem dX5_findPayment_93 : decode cX5_findPayment 93 = .ok (.iand, 1) := by decide +kernel
theorem dX5_findPayment_94 : decode cX5_findPayment 94 = .ok (.aload_n 0, 1) := by decide +kernel
theorem dX5_findPayment_95 : decode cX5_findPayment 95 = .ok (.getfield 9, 3) := by decide +kernel
theorem dX5_findPayment_98 : decode cX5_findPayment 98 = .ok (.iload 8, 2) := by decide +kernel
theorem dX5_findPayment_100 : decode cX5_findPayment 100 = .ok (.iaload, 1) := by decide +kernel
theorem dX5_findPayment_101 : decode cX5_findPayment 101 = .ok (.iload 5, 2) := by decide +kernel
theorem dX5_findPayment_103 : decode cX5_findPayment 103 = .ok (.iconst (-1), 1) := by decide +kernel
theorem dX5_findPayment_104 : decode cX5_findPayment 104 = .ok (.ixor, 1) := by decide +kernel
theorem dX5_findPayment_105 : decode cX5_findPayment 105 = .ok (.iand, 1) := by decide +kernel
theorem dX5_findPayment_106 : decode cX5_findPayment 106 = .ok (.invokestatic 92, 3) := by decide +kernel
theorem dX5_findPayment_109 : decode cX5_findPayment 109 = .ok (.invokestatic 96, 3) := by decide +kernel
theorem dX5_findPayment_112 : decode cX5_findPayment 112 = .ok (.lstore 6, 2) := by decide +kernel
theorem dX5_findPayment_114 : decode cX5_findPayment 114 = .ok (.iinc 8 1, 3) := by decide +kernel
theorem dX5_findPayment_117 : decode cX5_findPayment 117 = .ok (.goto (-95), 3) := by decide +kernel
theorem dX5_findPayment_120 : decode cX5_findPayment 120 = .ok (.lload 6, 2) := by decide +kernel
theorem dX5_findPayment_122 : decode cX5_findPayment 122 = .ok (.ldc2_w 84, 3) := by decide +kernel
theorem dX5_findPayment_125 : decode cX5_findPayment 125 = .ok (.lcmp, 1) := by decide +kernel
theorem dX5_findPayment_126 : decode cX5_findPayment 126 = .ok (.ifCond .ne 5, 3) := by decide +kernel
theorem dX5_findPayment_129 : decode cX5_findPayment 129 = .ok (.iconst 0, 1) := by decide +kernel
theorem dX5_findPayment_130 : decode cX5_findPayment 130 = .ok (.ireturn, 1) := by decide +kernel
theorem dX5_findPayment_131 : decode cX5_findPayment 131 = .ok (.aload_n 0, 1) := by decide +kernel
theorem dX5_findPayment_132 : decode cX5_findPayment 132 = .ok (.lload 6, 2) := by decide +kernel
theorem dX5_findPayment_134 : decode cX5_findPayment 134 = .ok (.invokevirtual 99, 3) := by decide +kernel
theorem dX5_findPayment_137 : decode cX5_findPayment 137 = .ok (.aload_n 0, 1) := by decide +kernel
theorem dX5_findPayment_138 : decode cX5_findPayment 138 = .ok (.aload_n 0, 1) := by decide +kernel
theorem dX5_findPayment_139 : decode cX5_findPayment 139 = .ok (.getfield 25, 3) := by decide +kernel
theorem dX5_findPayment_142 : decode cX5_findPayment 142 = .ok (.aload_n 0, 1) := by decide +kernel
theorem dX5_findPayment_143 : decode cX5_findPayment 143 = .ok (.getfield 31, 3) := by decide +kernel
theorem dX5_findPayment_146 : decode cX5_findPayment 146 = .ok (.aload_n 0, 1) := by decide +kernel
theorem dX5_findPayment_147 : decode cX5_findPayment 147 = .ok (.getfield 34, 3) := by decide +kernel
theorem dX5_findPayment_150 : decode cX5_findPayment 150 = .ok (.ior, 1) := by decide +kernel
theorem dX5_findPayment_151 : decode cX5_findPayment 151 = .ok (.invokestatic 86, 3) := by decide +kernel
theorem dX5_findPayment_154 : decode cX5_findPayment 154 = .ok (.putfield 37, 3) := by decide +kernel
theorem dX5_findPayment_157 : decode cX5_findPayment 157 = .ok (.iconst 1, 1) := by decide +kernel
theorem dX5_findPayment_158 : decode cX5_findPayment 158 = .ok (.ireturn, 1) := by decide +kernel
theorem dX5_findChange_0 : decode cX5_findChange 0 = .ok (.aload_n 0, 1) := by decide +kernel
theorem dX5_findChange_1 : decode cX5_findChange 1 = .ok (.aload_n 1, 1) := by decide +kernel
theorem dX5_findChange_2 : decode cX5_findChange 2 = .ok (.iload_n 2, 1) := by decide +kernel
theorem dX5_findChange_3 : decode cX5_findChange 3 = .ok (.iload_n 3, 1) := by decide +kernel
theorem dX5_findChange_4 : decode cX5_findChange 4 = .ok (.invokevirtual 66, 3) := by decide +kernel
theorem dX5_findChange_7 : decode cX5_findChange 7 = .ok (.aload_n 1, 1) := by decide +kernel
theorem dX5_findChange_8 : decode cX5_findChange 8 = .ok (.iload_n 2, 1) := by decide +kernel
theorem dX5_findChange_9 : decode cX5_findChange 9 = .ok (.invokevirtual 81, 3) := by decide +kernel
theorem dX5_findChange_12 : decode cX5_findChange 12 = .ok (.istore 4, 2) := by decide +kernel
theorem dX5_findChange_14 : decode cX5_findChange 14 = .ok (.ldc2_w 84, 3) := by decide +kernel
theorem dX5_findChange_17 : decode cX5_findChange 17 = .ok (.lstore 5, 2) := by decide +kernel
theorem dX5_findChange_19 : decode cX5_findChange 19 = .ok (.iconst 0, 1) := by decide +kernel
theorem dX5_findChange_20 : decode cX5_findChange 20 = .ok (.istore 7, 2) := by decide +kernel
theorem dX5_findChange_22 : decode cX5_findChange 22 = .ok (.iload 7, 2) := by decide +kernel
theorem dX5_findChange_24 : decode cX5_findChange 24 = .ok (.aload_n 0, 1) := by decide +kernel
theorem dX5_findChange_25 : decode cX5_findChange 25 = .ok (.getfield 18, 3) := by decide +kernel
theorem dX5_findChange_28 : decode cX5_findChange 28 = .ok (.if_icmp .ge 80, 3) := by decide +kernel
theorem dX5_findChange_31 : decode cX5_findChange 31 = .ok (.aload_n 0, 1) := by decide +kernel
theorem dX5_findChange_32 : decode cX5_findChange 32 = .ok (.getfield 15, 3) := by decide +kernel
theorem dX5_findChange_35 : decode cX5_findChange 35 = .ok (.iload 7, 2) := by decide +kernel
theorem dX5_findChange_37 : decode cX5_findChange 37 = .ok (.iaload, 1) := by decide +kernel
theorem dX5_findChange_38 : decode cX5_findChange 38 = .ok (.ifCond .ne 17, 3) := by decide +kernel
theorem dX5_findChange_41 : decode cX5_findChange 41 = .ok (.aload_n 0, 1) := by decide +kernel
theorem dX5_findChange_42 : decode cX5_findChange 42 = .ok (.aload_n 0, 1) := by decide +kernel
theorem dX5_findChange_43 : decode cX5_findChange 43 = .ok (.getfield 9, 3) := by decide +kernel
theorem dX5_findChange_46 : decode cX5_findChange 46 = .ok (.iload 7, 2) := by decide +kernel
theorem dX5_findChange_48 : decode cX5_findChange 48 = .ok (.iaload, 1) := by decide +kernel
theorem dX5_findChange_49 : decode cX5_findChange 49 = .ok (.invokevirtual 103, 3) := by decide +kernel
theorem dX5_findChange_52 : decode cX5_findChange 52 = .ok (.goto 4, 3) := by decide +kernel
theorem dX5_findChange_55 : decode cX5_findChange 55 = .ok (.iconst 0, 1) := by decide +kernel
theorem dX5_findChange_56 : decode cX5_findChange 56 = .ok (.istore 8, 2) := by decide +kernel
theorem dX5_findChange_58 : decode cX5_findChange 58 = .ok (.iload 8, 2) := by decide +kernel
theorem dX5_findChange_60 : decode cX5_findChange 60 = .ok (.ifCond .le 42, 3) := by decide +kernel
theorem dX5_findChange_63 : decode cX5_findChange 63 = .ok (.lload 5, 2) := by decide +kernel
theorem dX5_findChange_65 : decode cX5_findChange 65 = .ok (.sipush 2000, 3) := by decide +kernel
theorem dX5_findChange_68 : decode cX5_findChange 68 = .ok (.iload 8, 2) := by decide +kernel
theorem dX5_findChange_70 : decode cX5_findChange 70 = .ok (.isub, 1) := by decide +kernel
theorem dX5_findChange_71 : decode cX5_findChange 71 = .ok (.i2l, 1) := by decide +kernel
theorem dX5_findChange_72 : decode cX5_findChange 72 = .ok (.aload_n 0, 1) := by decide +kernel
theorem dX5_findChange_73 : decode cX5_findChange 73 = .ok (.getfield 9, 3) := by decide +kernel
theorem dX5_findChange_76 : decode cX5_findChange 76 = .ok (.iload 7, 2) := by decide +kernel
theorem dX5_findChange_78 : decode cX5_findChange 78 = .ok (.iaload, 1) := by decide +kernel
theorem dX5_findChange_79 : decode cX5_findChange 79 = .ok (.iload 4, 2) := by decide +kernel
theorem dX5_findChange_81 : decode cX5_findChange 81 = .ok (.iand, 1) := by decide +kernel
theorem dX5_findChange_82 : decode cX5_findChange 82 = .ok (.aload_n 0, 1) := by decide +kernel
theorem dX5_findChange_83 : decode cX5_findChange 83 = .ok (.getfield 9, 3) := by decide +kernel
theorem dX5_findChange_86 : decode cX5_findChange 86 = .ok (.iload 7, 2) := by decide +kernel
theorem dX5_findChange_88 : decode cX5_findChange 88 = .ok (.iaload, 1) := by decide +kernel
theorem dX5_findChange_89 : decode cX5_findChange 89 = .ok (.iload 4, 2) := by decide +kernel
theorem dX5_findChange_91 : decode cX5_findChange 91 = .ok (.iconst (-1), 1) := by decide +kernel
theorem dX5_findChange_92 : decode cX5_findChange 92 = .ok (.ixor, 1) := by decide +kernel
theorem dX5_findChange_93 : decode cX5_findChange 93 = .ok (.iand, 1) := by decide +kernel
theorem dX5_findChange_94 : decode cX5_findChange 94 = .ok (.invokestatic 92, 3) := by decide +kernel
theorem dX5_findChange_97 : decode cX5_findChange 97 = .ok (.invokestatic 96, 3) := by decide +kernel
theorem dX5_findChange_100 : decode cX5_findChange 100 = .ok (.lstore 5, 2) := by decide +kernel
theorem dX5_findChange_102 : decode cX5_findChange 102 = .ok (.iinc 7 1, 3) := by decide +kernel
theorem dX5_findChange_105 : decode cX5_findChange 105 = .ok (.goto (-83), 3) := by decide +kernel
theorem dX5_findChange_108 : decode cX5_findChange 108 = .ok (.lload 5, 2) := by decide +kernel
theorem dX5_findChange_110 : decode cX5_findChange 110 = .ok (.ldc2_w 84, 3) := by decide +kernel
theorem dX5_findChange_113 : decode cX5_findChange 113 = .ok (.lcmp, 1) := by decide +kernel
theorem dX5_findChange_114 : decode cX5_findChange 114 = .ok (.ifCond .ne 5, 3) := by decide +kernel
theorem dX5_findChange_117 : decode cX5_findChange 117 = .ok (.iconst 0, 1) := by decide +kernel
theorem dX5_findChange_118 : decode cX5_findChange 118 = .ok (.ireturn, 1) := by decide +kernel
theorem dX5_findChange_119 : decode cX5_findChange 119 = .ok (.aload_n 0, 1) := by decide +kernel
theorem dX5_findChange_120 : decode cX5_findChange 120 = .ok (.lload 5, 2) := by decide +kernel
theorem dX5_findChange_122 : decode cX5_findChange 122 = .ok (.invokevirtual 99, 3) := by decide +kernel
theorem dX5_findChange_125 : decode cX5_findChange 125 = .ok (.aload_n 0, 1) := by decide +kernel
theorem dX5_findChange_126 : decode cX5_findChange 126 = .ok (.aload_n 0, 1) := by decide +kernel
theorem dX5_findChange_127 : decode cX5_findChange 127 = .ok (.aload_n 0, 1) := by decide +kernel
theorem dX5_findChange_128 : decode cX5_findChange 128 = .ok (.getfield 31, 3) := by decide +kernel
theorem dX5_findChange_131 : decode cX5_findChange 131 = .ok (.aload_n 0, 1) := by decide +kernel
theorem dX5_findChange_132 : decode cX5_findChange 132 = .ok (.getfield 34, 3) := by decide +kernel
theorem dX5_findChange_135 : decode cX5_findChange 135 = .ok (.ior, 1) := by decide +kernel
theorem dX5_findChange_136 : decode cX5_findChange 136 = .ok (.invokevirtual 103, 3) := by decide +kernel
theorem dX5_findChange_139 : decode cX5_findChange 139 = .ok (.putfield 37, 3) := by decide +kernel
theorem dX5_findChange_142 : decode cX5_findChange 142 = .ok (.iconst 1, 1) := by decide +kernel
theorem dX5_findChange_143 : decode cX5_findChange 143 = .ok (.ireturn, 1) := by decide +kernel
theorem dX5_gainOf_0 : decode cX5_gainOf 0 = .ok (.aload_n 0, 1) := by decide +kernel
theorem dX5_gainOf_1 : decode cX5_gainOf 1 = .ok (.getfield 25, 3) := by decide +kernel
theorem dX5_gainOf_4 : decode cX5_gainOf 4 = .ok (.iload_n 1, 1) := by decide +kernel
theorem dX5_gainOf_5 : decode cX5_gainOf 5 = .ok (.invokestatic 86, 3) := by decide +kernel
theorem dX5_gainOf_8 : decode cX5_gainOf 8 = .ok (.istore_n 2, 1) := by decide +kernel
theorem dX5_gainOf_9 : decode cX5_gainOf 9 = .ok (.aload_n 0, 1) := by decide +kernel
theorem dX5_gainOf_10 : decode cX5_gainOf 10 = .ok (.getfield 28, 3) := by decide +kernel
theorem dX5_gainOf_13 : decode cX5_gainOf 13 = .ok (.iload_n 1, 1) := by decide +kernel
theorem dX5_gainOf_14 : decode cX5_gainOf 14 = .ok (.invokestatic 86, 3) := by decide +kernel
theorem dX5_gainOf_17 : decode cX5_gainOf 17 = .ok (.istore_n 3, 1) := by decide +kernel
theorem dX5_gainOf_18 : decode cX5_gainOf 18 = .ok (.iload_n 2, 1) := by decide +kernel
theorem dX5_gainOf_19 : decode cX5_gainOf 19 = .ok (.ifCond .gt 7, 3) := by decide +kernel
theorem dX5_gainOf_22 : decode cX5_gainOf 22 = .ok (.iload_n 3, 1) := by decide +kernel
theorem dX5_gainOf_23 : decode cX5_gainOf 23 = .ok (.ifCond .le 7, 3) := by decide +kernel
theorem dX5_gainOf_26 : decode cX5_gainOf 26 = .ok (.iconst 0, 1) := by decide +kernel
theorem dX5_gainOf_27 : decode cX5_gainOf 27 = .ok (.goto 7, 3) := by decide +kernel
theorem dX5_gainOf_30 : decode cX5_gainOf 30 = .ok (.iload_n 2, 1) := by decide +kernel
theorem dX5_gainOf_31 : decode cX5_gainOf 31 = .ok (.ineg, 1) := by decide +kernel
theorem dX5_gainOf_32 : decode cX5_gainOf 32 = .ok (.iload_n 3, 1) := by decide +kernel
theorem dX5_gainOf_33 : decode cX5_gainOf 33 = .ok (.isub, 1) := by decide +kernel
theorem dX5_gainOf_34 : decode cX5_gainOf 34 = .ok (.ireturn, 1) := by decide +kernel
theorem dX5_withSets_0 : decode cX5_withSets 0 = .ok (.lload_n 0, 1) := by decide +kernel
theorem dX5_withSets_1 : decode cX5_withSets 1 = .ok (.ldc2_w 106, 3) := by decide +kernel
theorem dX5_withSets_4 : decode cX5_withSets 4 = .ok (.lmul, 1) := by decide +kernel
theorem dX5_withSets_5 : decode cX5_withSets 5 = .ok (.iload_n 2, 1) := by decide +kernel
theorem dX5_withSets_6 : decode cX5_withSets 6 = .ok (.i2l, 1) := by decide +kernel
theorem dX5_withSets_7 : decode cX5_withSets 7 = .ok (.ladd, 1) := by decide +kernel
theorem dX5_withSets_8 : decode cX5_withSets 8 = .ok (.ldc2_w 106, 3) := by decide +kernel
theorem dX5_withSets_11 : decode cX5_withSets 11 = .ok (.lmul, 1) := by decide +kernel
theorem dX5_withSets_12 : decode cX5_withSets 12 = .ok (.iload_n 3, 1) := by decide +kernel
theorem dX5_withSets_13 : decode cX5_withSets 13 = .ok (.i2l, 1) := by decide +kernel
theorem dX5_withSets_14 : decode cX5_withSets 14 = .ok (.ladd, 1) := by decide +kernel
theorem dX5_withSets_15 : decode cX5_withSets 15 = .ok (.lreturn, 1) := by decide +kernel
theorem dX5_takeSets_0 : decode cX5_takeSets 0 = .ok (.aload_n 0, 1) := by decide +kernel
theorem dX5_takeSets_1 : decode cX5_takeSets 1 = .ok (.lload_n 1, 1) := by decide +kernel
theorem dX5_takeSets_2 : decode cX5_takeSets 2 = .ok (.ldc2_w 106, 3) := by decide +kernel
theorem dX5_takeSets_5 : decode cX5_takeSets 5 = .ok (.ldiv, 1) := by decide +kernel
theorem dX5_takeSets_6 : decode cX5_takeSets 6 = .ok (.ldc2_w 106, 3) := by decide +kernel
theorem dX5_takeSets_9 : decode cX5_takeSets 9 = .ok (.lrem, 1) := by decide +kernel
theorem dX5_takeSets_10 : decode cX5_takeSets 10 = .ok (.l2i, 1) := by decide +kernel
theorem dX5_takeSets_11 : decode cX5_takeSets 11 = .ok (.putfield 31, 3) := by decide +kernel
theorem dX5_takeSets_14 : decode cX5_takeSets 14 = .ok (.aload_n 0, 1) := by decide +kernel
theorem dX5_takeSets_15 : decode cX5_takeSets 15 = .ok (.lload_n 1, 1) := by decide +kernel
theorem dX5_takeSets_16 : decode cX5_takeSets 16 = .ok (.ldc2_w 106, 3) := by decide +kernel
theorem dX5_takeSets_19 : decode cX5_takeSets 19 = .ok (.lrem, 1) := by decide +kernel
theorem dX5_takeSets_20 : decode cX5_takeSets 20 = .ok (.l2i, 1) := by decide +kernel
theorem dX5_takeSets_21 : decode cX5_takeSets 21 = .ok (.putfield 34, 3) := by decide +kernel
theorem dX5_takeSets_24 : decode cX5_takeSets 24 = .ok (.return_, 1) := by decide +kernel
theorem dX5_weigh_0 : decode cX5_weigh 0 = .ok (.iconst 0, 1) := by decide +kernel
theorem dX5_weigh_1 : decode cX5_weigh 1 = .ok (.istore 4, 2) := by decide +kernel
theorem dX5_weigh_3 : decode cX5_weigh 3 = .ok (.iconst 0, 1) := by decide +kernel
theorem dX5_weigh_4 : decode cX5_weigh 4 = .ok (.istore 5, 2) := by decide +kernel
theorem dX5_weigh_6 : decode cX5_weigh 6 = .ok (.iload 5, 2) := by decide +kernel
theorem dX5_weigh_8 : decode cX5_weigh 8 = .ok (.aload_n 1, 1) := by decide +kernel
theorem dX5_weigh_9 : decode cX5_weigh 9 = .ok (.getfield 40, 3) := by decide +kernel
theorem dX5_weigh_12 : decode cX5_weigh 12 = .ok (.if_icmp .ge 129, 3) := by decide +kernel
theorem dX5_weigh_15 : decode cX5_weigh 15 = .ok (.aload_n 1, 1) := by decide +kernel
theorem dX5_weigh_16 : decode cX5_weigh 16 = .ok (.getfield 45, 3) := by decide +kernel
theorem dX5_weigh_19 : decode cX5_weigh 19 = .ok (.iload 5, 2) := by decide +kernel
theorem dX5_weigh_21 : decode cX5_weigh 21 = .ok (.aaload, 1) := by decide +kernel
theorem dX5_weigh_22 : decode cX5_weigh 22 = .ok (.astore 6, 2) := by decide +kernel
theorem dX5_weigh_24 : decode cX5_weigh 24 = .ok (.aload 6, 2) := by decide +kernel
theorem dX5_weigh_26 : decode cX5_weigh 26 = .ok (.invokevirtual 49, 3) := by decide +kernel
theorem dX5_weigh_29 : decode cX5_weigh 29 = .ok (.istore 7, 2) := by decide +kernel
theorem dX5_weigh_31 : decode cX5_weigh 31 = .ok (.aload 6, 2) := by decide +kernel
theorem dX5_weigh_33 : decode cX5_weigh 33 = .ok (.getfield 108, 3) := by decide +kernel
theorem dX5_weigh_36 : decode cX5_weigh 36 = .ok (.iload_n 2, 1) := by decide +kernel
theorem dX5_weigh_37 : decode cX5_weigh 37 = .ok (.if_icmp .ne 47, 3) := by decide +kernel
theorem dX5_weigh_40 : decode cX5_weigh 40 = .ok (.iload 4, 2) := by decide +kernel
theorem dX5_weigh_42 : decode cX5_weigh 42 = .ok (.iconst 1, 1) := by decide +kernel
theorem dX5_weigh_43 : decode cX5_weigh 43 = .ok (.iload 5, 2) := by decide +kernel
theorem dX5_weigh_45 : decode cX5_weigh 45 = .ok (.ishl, 1) := by decide +kernel
theorem dX5_weigh_46 : decode cX5_weigh 46 = .ok (.ior, 1) := by decide +kernel
theorem dX5_weigh_47 : decode cX5_weigh 47 = .ok (.istore 4, 2) := by decide +kernel
theorem dX5_weigh_49 : decode cX5_weigh 49 = .ok (.aload_n 0, 1) := by decide +kernel
theorem dX5_weigh_50 : decode cX5_weigh 50 = .ok (.getfield 22, 3) := by decide +kernel
theorem dX5_weigh_53 : decode cX5_weigh 53 = .ok (.iload 5, 2) := by decide +kernel
theorem dX5_weigh_55 : decode cX5_weigh 55 = .ok (.iload 7, 2) := by decide +kernel
theorem dX5_weigh_57 : decode cX5_weigh 57 = .ok (.iastore, 1) := by decide +kernel
theorem dX5_weigh_58 : decode cX5_weigh 58 = .ok (.aload_n 0, 1) := by decide +kernel
theorem dX5_weigh_59 : decode cX5_weigh 59 = .ok (.getfield 25, 3) := by decide +kernel
theorem dX5_weigh_62 : decode cX5_weigh 62 = .ok (.iload 5, 2) := by decide +kernel
theorem dX5_weigh_64 : decode cX5_weigh 64 = .ok (.iload 7, 2) := by decide +kernel
theorem dX5_weigh_66 : decode cX5_weigh 66 = .ok (.iastore, 1) := by decide +kernel
theorem dX5_weigh_67 : decode cX5_weigh 67 = .ok (.aload_n 0, 1) := by decide +kernel
theorem dX5_weigh_68 : decode cX5_weigh 68 = .ok (.getfield 28, 3) := by decide +kernel
theorem dX5_weigh_71 : decode cX5_weigh 71 = .ok (.iload 5, 2) := by decide +kernel
theorem dX5_weigh_73 : decode cX5_weigh 73 = .ok (.aload 6, 2) := by decide +kernel
theorem dX5_weigh_75 : decode cX5_weigh 75 = .ok (.iload_n 3, 1) := by decide +kernel
theorem dX5_weigh_76 : decode cX5_weigh 76 = .ok (.invokevirtual 111, 3) := by decide +kernel
theorem dX5_weigh_79 : decode cX5_weigh 79 = .ok (.ineg, 1) := by decide +kernel
theorem dX5_weigh_80 : decode cX5_weigh 80 = .ok (.iastore, 1) := by decide +kernel
theorem dX5_weigh_81 : decode cX5_weigh 81 = .ok (.goto 54, 3) := by decide +kernel
theorem dX5_weigh_84 : decode cX5_weigh 84 = .ok (.aload 6, 2) := by decide +kernel
theorem dX5_weigh_86 : decode cX5_weigh 86 = .ok (.getfield 108, 3) := by decide +kernel
theorem dX5_weigh_89 : decode cX5_weigh 89 = .ok (.iload_n 3, 1) := by decide +kernel
theorem dX5_weigh_90 : decode cX5_weigh 90 = .ok (.if_icmp .ne 45, 3) := by decide +kernel
theorem dX5_weigh_93 : decode cX5_weigh 93 = .ok (.iload 4, 2) := by decide +kernel
theorem dX5_weigh_95 : decode cX5_weigh 95 = .ok (.iconst 1, 1) := by decide +kernel
theorem dX5_weigh_96 : decode cX5_weigh 96 = .ok (.iload 5, 2) := by decide +kernel
theorem dX5_weigh_98 : decode cX5_weigh 98 = .ok (.ishl, 1) := by decide +kernel
theorem dX5_weigh_99 : decode cX5_weigh 99 = .ok (.ior, 1) := by decide +kernel
theorem dX5_weigh_100 : decode cX5_weigh 100 = .ok (.istore 4, 2) := by decide +kernel
theorem dX5_weigh_102 : decode cX5_weigh 102 = .ok (.aload_n 0, 1) := by decide +kernel
theorem dX5_weigh_103 : decode cX5_weigh 103 = .ok (.getfield 22, 3) := by decide +kernel
theorem dX5_weigh_106 : decode cX5_weigh 106 = .ok (.iload 5, 2) := by decide +kernel
theorem dX5_weigh_108 : decode cX5_weigh 108 = .ok (.iload 7, 2) := by decide +kernel
theorem dX5_weigh_110 : decode cX5_weigh 110 = .ok (.ineg, 1) := by decide +kernel
theorem dX5_weigh_111 : decode cX5_weigh 111 = .ok (.iastore, 1) := by decide +kernel
theorem dX5_weigh_112 : decode cX5_weigh 112 = .ok (.aload_n 0, 1) := by decide +kernel
theorem dX5_weigh_113 : decode cX5_weigh 113 = .ok (.getfield 25, 3) := by decide +kernel
theorem dX5_weigh_116 : decode cX5_weigh 116 = .ok (.iload 5, 2) := by decide +kernel
theorem dX5_weigh_118 : decode cX5_weigh 118 = .ok (.aload 6, 2) := by decide +kernel
theorem dX5_weigh_120 : decode cX5_weigh 120 = .ok (.iload_n 2, 1) := by decide +kernel
theorem dX5_weigh_121 : decode cX5_weigh 121 = .ok (.invokevirtual 111, 3) := by decide +kernel
theorem dX5_weigh_124 : decode cX5_weigh 124 = .ok (.ineg, 1) := by decide +kernel
theorem dX5_weigh_125 : decode cX5_weigh 125 = .ok (.iastore, 1) := by decide +kernel
theorem dX5_weigh_126 : decode cX5_weigh 126 = .ok (.aload_n 0, 1) := by decide +kernel
theorem dX5_weigh_127 : decode cX5_weigh 127 = .ok (.getfield 28, 3) := by decide +kernel
theorem dX5_weigh_130 : decode cX5_weigh 130 = .ok (.iload 5, 2) := by decide +kernel
theorem dX5_weigh_132 : decode cX5_weigh 132 = .ok (.iload 7, 2) := by decide +kernel
theorem dX5_weigh_134 : decode cX5_weigh 134 = .ok (.iastore, 1) := by decide +kernel
theorem dX5_weigh_135 : decode cX5_weigh 135 = .ok (.iinc 5 1, 3) := by decide +kernel
theorem dX5_weigh_138 : decode cX5_weigh 138 = .ok (.goto (-132), 3) := by decide +kernel
theorem dX5_weigh_141 : decode cX5_weigh 141 = .ok (.aload_n 0, 1) := by decide +kernel
theorem dX5_weigh_142 : decode cX5_weigh 142 = .ok (.iload 4, 2) := by decide +kernel
theorem dX5_weigh_144 : decode cX5_weigh 144 = .ok (.invokevirtual 55, 3) := by decide +kernel
theorem dX5_weigh_147 : decode cX5_weigh 147 = .ok (.return_, 1) := by decide +kernel
theorem dX5_listSets_0 : decode cX5_listSets 0 = .ok (.aload_n 0, 1) := by decide +kernel
theorem dX5_listSets_1 : decode cX5_listSets 1 = .ok (.getfield 9, 3) := by decide +kernel
theorem dX5_listSets_4 : decode cX5_listSets 4 = .ok (.iconst 0, 1) := by decide +kernel
theorem dX5_listSets_5 : decode cX5_listSets 5 = .ok (.iconst 0, 1) := by decide +kernel
theorem dX5_listSets_6 : decode cX5_listSets 6 = .ok (.iastore, 1) := by decide +kernel
theorem dX5_listSets_7 : decode cX5_listSets 7 = .ok (.aload_n 0, 1) := by decide +kernel
theorem dX5_listSets_8 : decode cX5_listSets 8 = .ok (.getfield 15, 3) := by decide +kernel
theorem dX5_listSets_11 : decode cX5_listSets 11 = .ok (.iconst 0, 1) := by decide +kernel
theorem dX5_listSets_12 : decode cX5_listSets 12 = .ok (.iconst 0, 1) := by decide +kernel
theorem dX5_listSets_13 : decode cX5_listSets 13 = .ok (.iastore, 1) := by decide +kernel
theorem dX5_listSets_14 : decode cX5_listSets 14 = .ok (.aload_n 0, 1) := by decide +kernel
theorem dX5_listSets_15 : decode cX5_listSets 15 = .ok (.iconst 1, 1) := by decide +kernel
theorem dX5_listSets_16 : decode cX5_listSets 16 = .ok (.putfield 18, 3) := by decide +kernel
theorem dX5_listSets_19 : decode cX5_listSets 19 = .ok (.iconst 0, 1) := by decide +kernel
theorem dX5_listSets_20 : decode cX5_listSets 20 = .ok (.istore_n 2, 1) := by decide +kernel
theorem dX5_listSets_21 : decode cX5_listSets 21 = .ok (.iload_n 2, 1) := by decide +kernel
theorem dX5_listSets_22 : decode cX5_listSets 22 = .ok (.bipush 10, 2) := by decide +kernel
theorem dX5_listSets_24 : decode cX5_listSets 24 = .ok (.if_icmp .ge 88, 3) := by decide +kernel
theorem dX5_listSets_27 : decode cX5_listSets 27 = .ok (.iload_n 1, 1) := by decide +kernel
theorem dX5_listSets_28 : decode cX5_listSets 28 = .ok (.iload_n 2, 1) := by decide +kernel
theorem dX5_listSets_29 : decode cX5_listSets 29 = .ok (.invokestatic 114, 3) := by decide +kernel
theorem dX5_listSets_32 : decode cX5_listSets 32 = .ok (.ifCond .eq 74, 3) := by decide +kernel
theorem dX5_listSets_35 : decode cX5_listSets 35 = .ok (.iconst 0, 1) := by decide +kernel
theorem dX5_listSets_36 : decode cX5_listSets 36 = .ok (.istore_n 3, 1) := by decide +kernel
theorem dX5_listSets_37 : decode cX5_listSets 37 = .ok (.iload_n 3, 1) := by decide +kernel
theorem dX5_listSets_38 : decode cX5_listSets 38 = .ok (.aload_n 0, 1) := by decide +kernel
theorem dX5_listSets_39 : decode cX5_listSets 39 = .ok (.getfield 18, 3) := by decide +kernel
theorem dX5_listSets_42 : decode cX5_listSets 42 = .ok (.if_icmp .ge 54, 3) := by decide +kernel
theorem dX5_listSets_45 : decode cX5_listSets 45 = .ok (.aload_n 0, 1) := by decide +kernel
theorem dX5_listSets_46 : decode cX5_listSets 46 = .ok (.getfield 9, 3) := by decide +kernel
theorem dX5_listSets_49 : decode cX5_listSets 49 = .ok (.aload_n 0, 1) := by decide +kernel
theorem dX5_listSets_50 : decode cX5_listSets 50 = .ok (.getfield 18, 3) := by decide +kernel
theorem dX5_listSets_53 : decode cX5_listSets 53 = .ok (.iload_n 3, 1) := by decide +kernel
theorem dX5_listSets_54 : decode cX5_listSets 54 = .ok (.iadd, 1) := by decide +kernel
theorem dX5_listSets_55 : decode cX5_listSets 55 = .ok (.aload_n 0, 1) := by decide +kernel
theorem dX5_listSets_56 : decode cX5_listSets 56 = .ok (.getfield 9, 3) := by decide +kernel
theorem dX5_listSets_59 : decode cX5_listSets 59 = .ok (.iload_n 3, 1) := by decide +kernel
theorem dX5_listSets_60 : decode cX5_listSets 60 = .ok (.iaload, 1) := by decide +kernel
theorem dX5_listSets_61 : decode cX5_listSets 61 = .ok (.iconst 1, 1) := by decide +kernel
theorem dX5_listSets_62 : decode cX5_listSets 62 = .ok (.iload_n 2, 1) := by decide +kernel
theorem dX5_listSets_63 : decode cX5_listSets 63 = .ok (.ishl, 1) := by decide +kernel
theorem dX5_listSets_64 : decode cX5_listSets 64 = .ok (.ior, 1) := by decide +kernel
theorem dX5_listSets_65 : decode cX5_listSets 65 = .ok (.iastore, 1) := by decide +kernel
theorem dX5_listSets_66 : decode cX5_listSets 66 = .ok (.aload_n 0, 1) := by decide +kernel
theorem dX5_listSets_67 : decode cX5_listSets 67 = .ok (.getfield 15, 3) := by decide +kernel
theorem dX5_listSets_70 : decode cX5_listSets 70 = .ok (.aload_n 0, 1) := by decide +kernel
theorem dX5_listSets_71 : decode cX5_listSets 71 = .ok (.getfield 18, 3) := by decide +kernel
theorem dX5_listSets_74 : decode cX5_listSets 74 = .ok (.iload_n 3, 1) := by decide +kernel
theorem dX5_listSets_75 : decode cX5_listSets 75 = .ok (.iadd, 1) := by decide +kernel
theorem dX5_listSets_76 : decode cX5_listSets 76 = .ok (.aload_n 0, 1) := by decide +kernel
theorem dX5_listSets_77 : decode cX5_listSets 77 = .ok (.getfield 15, 3) := by decide +kernel
theorem dX5_listSets_80 : decode cX5_listSets 80 = .ok (.iload_n 3, 1) := by decide +kernel
theorem dX5_listSets_81 : decode cX5_listSets 81 = .ok (.iaload, 1) := by decide +kernel
theorem dX5_listSets_82 : decode cX5_listSets 82 = .ok (.aload_n 0, 1) := by decide +kernel
theorem dX5_listSets_83 : decode cX5_listSets 83 = .ok (.getfield 22, 3) := by decide +kernel
theorem dX5_listSets_86 : decode cX5_listSets 86 = .ok (.iload_n 2, 1) := by decide +kernel
theorem dX5_listSets_87 : decode cX5_listSets 87 = .ok (.iaload, 1) := by decide +kernel
theorem dX5_listSets_88 : decode cX5_listSets 88 = .ok (.iadd, 1) := by decide +kernel
theorem dX5_listSets_89 : decode cX5_listSets 89 = .ok (.iastore, 1) := by decide +kernel
theorem dX5_listSets_90 : decode cX5_listSets 90 = .ok (.iinc 3 1, 3) := by decide +kernel
theorem dX5_listSets_93 : decode cX5_listSets 93 = .ok (.goto (-56), 3) := by decide +kernel
theorem dX5_listSets_96 : decode cX5_listSets 96 = .ok (.aload_n 0, 1) := by decide +kernel
theorem dX5_listSets_97 : decode cX5_listSets 97 = .ok (.dup, 1) := by decide +kernel
theorem dX5_listSets_98 : decode cX5_listSets 98 = .ok (.getfield 18, 3) := by decide +kernel
theorem dX5_listSets_101 : decode cX5_listSets 101 = .ok (.iconst 2, 1) := by decide +kernel
theorem dX5_listSets_102 : decode cX5_listSets 102 = .ok (.imul, 1) := by decide +kernel
theorem dX5_listSets_103 : decode cX5_listSets 103 = .ok (.putfield 18, 3) := by decide +kernel
theorem dX5_listSets_106 : decode cX5_listSets 106 = .ok (.iinc 2 1, 3) := by decide +kernel
theorem dX5_listSets_109 : decode cX5_listSets 109 = .ok (.goto (-88), 3) := by decide +kernel
theorem dX5_listSets_112 : decode cX5_listSets 112 = .ok (.return_, 1) := by decide +kernel
theorem dX5_totalOf_0 : decode cX5_totalOf 0 = .ok (.iconst 0, 1) := by decide +kernel
theorem dX5_totalOf_1 : decode cX5_totalOf 1 = .ok (.istore_n 2, 1) := by decide +kernel
theorem dX5_totalOf_2 : decode cX5_totalOf 2 = .ok (.iconst 0, 1) := by decide +kernel
theorem dX5_totalOf_3 : decode cX5_totalOf 3 = .ok (.istore_n 3, 1) := by decide +kernel
theorem dX5_totalOf_4 : decode cX5_totalOf 4 = .ok (.iload_n 3, 1) := by decide +kernel
theorem dX5_totalOf_5 : decode cX5_totalOf 5 = .ok (.bipush 10, 2) := by decide +kernel
theorem dX5_totalOf_7 : decode cX5_totalOf 7 = .ok (.if_icmp .ge 23, 3) := by decide +kernel
theorem dX5_totalOf_10 : decode cX5_totalOf 10 = .ok (.iload_n 1, 1) := by decide +kernel
theorem dX5_totalOf_11 : decode cX5_totalOf 11 = .ok (.iload_n 3, 1) := by decide +kernel
theorem dX5_totalOf_12 : decode cX5_totalOf 12 = .ok (.invokestatic 114, 3) := by decide +kernel
theorem dX5_totalOf_15 : decode cX5_totalOf 15 = .ok (.ifCond .eq 9, 3) := by decide +kernel
theorem dX5_totalOf_18 : decode cX5_totalOf 18 = .ok (.iload_n 2, 1) := by decide +kernel
theorem dX5_totalOf_19 : decode cX5_totalOf 19 = .ok (.aload_n 0, 1) := by decide +kernel
theorem dX5_totalOf_20 : decode cX5_totalOf 20 = .ok (.iload_n 3, 1) := by decide +kernel
theorem dX5_totalOf_21 : decode cX5_totalOf 21 = .ok (.iaload, 1) := by decide +kernel
theorem dX5_totalOf_22 : decode cX5_totalOf 22 = .ok (.iadd, 1) := by decide +kernel
theorem dX5_totalOf_23 : decode cX5_totalOf 23 = .ok (.istore_n 2, 1) := by decide +kernel
theorem dX5_totalOf_24 : decode cX5_totalOf 24 = .ok (.iinc 3 1, 3) := by decide +kernel
theorem dX5_totalOf_27 : decode cX5_totalOf 27 = .ok (.goto (-23), 3) := by decide +kernel
theorem dX5_totalOf_30 : decode cX5_totalOf 30 = .ok (.iload_n 2, 1) := by decide +kernel
theorem dX5_totalOf_31 : decode cX5_totalOf 31 = .ok (.ireturn, 1) := by decide +kernel
theorem dX6_init_0 : decode cX6_init 0 = .ok (.aload_n 0, 1) := by decide +kernel
theorem dX6_init_1 : decode cX6_init 1 = .ok (.invokespecial 3, 3) := by decide +kernel
theorem dX6_init_4 : decode cX6_init 4 = .ok (.aload_n 0, 1) := by decide +kernel
theorem dX6_init_5 : decode cX6_init 5 = .ok (.new 9, 3) := by decide +kernel
theorem dX6_init_8 : decode cX6_init 8 = .ok (.dup, 1) := by decide +kernel
theorem dX6_init_9 : decode cX6_init 9 = .ok (.invokespecial 11, 3) := by decide +kernel
theorem dX6_init_12 : decode cX6_init 12 = .ok (.putfield 12, 3) := by decide +kernel
theorem dX6_init_15 : decode cX6_init 15 = .ok (.aload_n 0, 1) := by decide +kernel
theorem dX6_init_16 : decode cX6_init 16 = .ok (.new 9, 3) := by decide +kernel
theorem dX6_init_19 : decode cX6_init 19 = .ok (.dup, 1) := by decide +kernel
theorem dX6_init_20 : decode cX6_init 20 = .ok (.invokespecial 11, 3) := by decide +kernel
theorem dX6_init_23 : decode cX6_init 23 = .ok (.putfield 16, 3) := by decide +kernel
theorem dX6_init_26 : decode cX6_init 26 = .ok (.aload_n 0, 1) := by decide +kernel
theorem dX6_init_27 : decode cX6_init 27 = .ok (.new 9, 3) := by decide +kernel
theorem dX6_init_30 : decode cX6_init 30 = .ok (.dup, 1) := by decide +kernel
theorem dX6_init_31 : decode cX6_init 31 = .ok (.invokespecial 11, 3) := by decide +kernel
theorem dX6_init_34 : decode cX6_init 34 = .ok (.putfield 19, 3) := by decide +kernel
theorem dX6_init_37 : decode cX6_init 37 = .ok (.aload_n 0, 1) := by decide +kernel
theorem dX6_init_38 : decode cX6_init 38 = .ok (.iconst 0, 1) := by decide +kernel
theorem dX6_init_39 : decode cX6_init 39 = .ok (.putfield 22, 3) := by decide +kernel
theorem dX6_init_42 : decode cX6_init 42 = .ok (.aload_n 0, 1) := by decide +kernel
theorem dX6_init_43 : decode cX6_init 43 = .ok (.bipush 120, 2) := by decide +kernel
theorem dX6_init_45 : decode cX6_init 45 = .ok (.newarray .int, 2) := by decide +kernel
theorem dX6_init_47 : decode cX6_init 47 = .ok (.putfield 26, 3) := by decide +kernel
theorem dX6_init_50 : decode cX6_init 50 = .ok (.aload_n 0, 1) := by decide +kernel
theorem dX6_init_51 : decode cX6_init 51 = .ok (.iconst 0, 1) := by decide +kernel
theorem dX6_init_52 : decode cX6_init 52 = .ok (.putfield 30, 3) := by decide +kernel
theorem dX6_init_55 : decode cX6_init 55 = .ok (.aload_n 0, 1) := by decide +kernel
theorem dX6_init_56 : decode cX6_init 56 = .ok (.new 34, 3) := by decide +kernel
theorem dX6_init_59 : decode cX6_init 59 = .ok (.dup, 1) := by decide +kernel
theorem dX6_init_60 : decode cX6_init 60 = .ok (.invokespecial 36, 3) := by decide +kernel
theorem dX6_init_63 : decode cX6_init 63 = .ok (.putfield 37, 3) := by decide +kernel
theorem dX6_init_66 : decode cX6_init 66 = .ok (.aload_n 0, 1) := by decide +kernel
theorem dX6_init_67 : decode cX6_init 67 = .ok (.iconst 4, 1) := by decide +kernel
theorem dX6_init_68 : decode cX6_init 68 = .ok (.anewarray 41, 3) := by decide +kernel
theorem dX6_init_71 : decode cX6_init 71 = .ok (.putfield 43, 3) := by decide +kernel
theorem dX6_init_74 : decode cX6_init 74 = .ok (.aload_n 0, 1) := by decide +kernel
theorem dX6_init_75 : decode cX6_init 75 = .ok (.new 47, 3) := by decide +kernel
theorem dX6_init_78 : decode cX6_init 78 = .ok (.dup, 1) := by decide +kernel
theorem dX6_init_79 : decode cX6_init 79 = .ok (.invokespecial 49, 3) := by decide +kernel
theorem dX6_init_82 : decode cX6_init 82 = .ok (.putfield 50, 3) := by decide +kernel
theorem dX6_init_85 : decode cX6_init 85 = .ok (.aload_n 0, 1) := by decide +kernel
theorem dX6_init_86 : decode cX6_init 86 = .ok (.new 54, 3) := by decide +kernel
theorem dX6_init_89 : decode cX6_init 89 = .ok (.dup, 1) := by decide +kernel
theorem dX6_init_90 : decode cX6_init 90 = .ok (.invokespecial 56, 3) := by decide +kernel
theorem dX6_init_93 : decode cX6_init 93 = .ok (.putfield 57, 3) := by decide +kernel
theorem dX6_init_96 : decode cX6_init 96 = .ok (.aload_n 0, 1) := by decide +kernel
theorem dX6_init_97 : decode cX6_init 97 = .ok (.bipush 7, 2) := by decide +kernel
theorem dX6_init_99 : decode cX6_init 99 = .ok (.newarray .int, 2) := by decide +kernel
theorem dX6_init_101 : decode cX6_init 101 = .ok (.putfield 61, 3) := by decide +kernel
theorem dX6_init_104 : decode cX6_init 104 = .ok (.iconst 0, 1) := by decide +kernel
theorem dX6_init_105 : decode cX6_init 105 = .ok (.istore_n 1, 1) := by decide +kernel
theorem dX6_init_106 : decode cX6_init 106 = .ok (.iload_n 1, 1) := by decide +kernel
theorem dX6_init_107 : decode cX6_init 107 = .ok (.iconst 4, 1) := by decide +kernel
theorem dX6_init_108 : decode cX6_init 108 = .ok (.if_icmp .ge 22, 3) := by decide +kernel
theorem dX6_init_111 : decode cX6_init 111 = .ok (.aload_n 0, 1) := by decide +kernel
theorem dX6_init_112 : decode cX6_init 112 = .ok (.getfield 43, 3) := by decide +kernel
theorem dX6_init_115 : decode cX6_init 115 = .ok (.iload_n 1, 1) := by decide +kernel
theorem dX6_init_116 : decode cX6_init 116 = .ok (.new 41, 3) := by decide +kernel
theorem dX6_init_119 : decode cX6_init 119 = .ok (.dup, 1) := by decide +kernel
theorem dX6_init_120 : decode cX6_init 120 = .ok (.invokespecial 64, 3) := by decide +kernel
theorem dX6_init_123 : decode cX6_init 123 = .ok (.aastore, 1) := by decide +kernel
theorem dX6_init_124 : decode cX6_init 124 = .ok (.iinc 1 1, 3) := by decide +kernel
theorem dX6_init_127 : decode cX6_init 127 = .ok (.goto (-21), 3) := by decide +kernel
theorem dX6_init_130 : decode cX6_init 130 = .ok (.return_, 1) := by decide +kernel
theorem dX6_coin_0 : decode cX6_coin 0 = .ok (.iload_n 1, 1) := by decide +kernel
theorem dX6_coin_1 : decode cX6_coin 1 = .ok (.bipush 6, 2) := by decide +kernel
theorem dX6_coin_3 : decode cX6_coin 3 = .ok (.invokestatic 65, 3) := by decide +kernel
theorem dX6_coin_6 : decode cX6_coin 6 = .ok (.ifCond .eq 21, 3) := by decide +kernel
theorem dX6_coin_9 : decode cX6_coin 9 = .ok (.iload_n 2, 1) := by decide +kernel
theorem dX6_coin_10 : decode cX6_coin 10 = .ok (.bipush 99, 2) := by decide +kernel
theorem dX6_coin_12 : decode cX6_coin 12 = .ok (.invokestatic 65, 3) := by decide +kernel
theorem dX6_coin_15 : decode cX6_coin 15 = .ok (.ifCond .eq 12, 3) := by decide +kernel
theorem dX6_coin_18 : decode cX6_coin 18 = .ok (.iload_n 3, 1) := by decide +kernel
theorem dX6_coin_19 : decode cX6_coin 19 = .ok (.bipush 99, 2) := by decide +kernel
theorem dX6_coin_21 : decode cX6_coin 21 = .ok (.invokestatic 65, 3) := by decide +kernel
theorem dX6_coin_24 : decode cX6_coin 24 = .ok (.ifCond .ne 10, 3) := by decide +kernel
theorem dX6_coin_27 : decode cX6_coin 27 = .ok (.aload_n 0, 1) := by decide +kernel
theorem dX6_coin_28 : decode cX6_coin 28 = .ok (.ldc 69, 2) := by decide +kernel
theorem dX6_coin_30 : decode cX6_coin 30 = .ok (.invokevirtual 70, 3) := by decide +kernel
theorem dX6_coin_33 : decode cX6_coin 33 = .ok (.ireturn, 1) := by decide +kernel
theorem dX6_coin_34 : decode cX6_coin 34 = .ok (.aload_n 0, 1) := by decide +kernel
theorem dX6_coin_35 : decode cX6_coin 35 = .ok (.getfield 12, 3) := by decide +kernel
theorem dX6_coin_38 : decode cX6_coin 38 = .ok (.getfield 74, 3) := by decide +kernel
theorem dX6_coin_41 : decode cX6_coin 41 = .ok (.bipush 10, 2) := by decide +kernel
theorem dX6_coin_43 : decode cX6_coin 43 = .ok (.if_icmp .lt 10, 3) := by decide +kernel
theorem dX6_coin_46 : decode cX6_coin 46 = .ok (.aload_n 0, 1) := by decide +kernel
theorem dX6_coin_47 : decode cX6_coin 47 = .ok (.ldc 77, 2) := by decide +kernel
theorem dX6_coin_49 : decode cX6_coin 49 = .ok (.invokevirtual 70, 3) := by decide +kernel
theorem dX6_coin_52 : decode cX6_coin 52 = .ok (.ireturn, 1) := by decide +kernel
theorem dX6_coin_53 : decode cX6_coin 53 = .ok (.aload_n 0, 1) := by decide +kernel
theorem dX6_coin_54 : decode cX6_coin 54 = .ok (.getfield 12, 3) := by decide +kernel
theorem dX6_coin_57 : decode cX6_coin 57 = .ok (.iload_n 1, 1) := by decide +kernel
theorem dX6_coin_58 : decode cX6_coin 58 = .ok (.iload_n 2, 1) := by decide +kernel
theorem dX6_coin_59 : decode cX6_coin 59 = .ok (.iload_n 3, 1) := by decide +kernel
theorem dX6_coin_60 : decode cX6_coin 60 = .ok (.invokevirtual 78, 3) := by decide +kernel
theorem dX6_coin_63 : decode cX6_coin 63 = .ok (.ireturn, 1) := by decide +kernel
theorem dX6_of_0 : decode cX6_of 0 = .ok (.aload_n 0, 1) := by decide +kernel
theorem dX6_of_1 : decode cX6_of 1 = .ok (.getfield 12, 3) := by decide +kernel
theorem dX6_of_4 : decode cX6_of 4 = .ok (.iload_n 1, 1) := by decide +kernel
theorem dX6_of_5 : decode cX6_of 5 = .ok (.invokevirtual 82, 3) := by decide +kernel
theorem dX6_of_8 : decode cX6_of 8 = .ok (.ifCond .ne 10, 3) := by decide +kernel
theorem dX6_of_11 : decode cX6_of 11 = .ok (.aload_n 0, 1) := by decide +kernel
theorem dX6_of_12 : decode cX6_of 12 = .ok (.ldc 69, 2) := by decide +kernel
theorem dX6_of_14 : decode cX6_of 14 = .ok (.invokevirtual 70, 3) := by decide +kernel
theorem dX6_of_17 : decode cX6_of 17 = .ok (.ireturn, 1) := by decide +kernel
theorem dX6_of_18 : decode cX6_of 18 = .ok (.aload_n 0, 1) := by decide +kernel
theorem dX6_of_19 : decode cX6_of 19 = .ok (.getfield 12, 3) := by decide +kernel
theorem dX6_of_22 : decode cX6_of 22 = .ok (.getfield 86, 3) := by decide +kernel
theorem dX6_of_25 : decode cX6_of 25 = .ok (.iload_n 1, 1) := by decide +kernel
theorem dX6_of_26 : decode cX6_of 26 = .ok (.aaload, 1) := by decide +kernel
theorem dX6_of_27 : decode cX6_of 27 = .ok (.astore_n 3, 1) := by decide +kernel
theorem dX6_of_28 : decode cX6_of 28 = .ok (.iload_n 2, 1) := by decide +kernel
theorem dX6_of_29 : decode cX6_of 29 = .ok (.tableswitch 78 0 6 #[43, 48, 53, 58, 63, 68, 73], 43) := by decide +kernel
theorem dX6_of_72 : decode cX6_of 72 = .ok (.aload_n 3, 1) := by decide +kernel
theorem dX6_of_73 : decode cX6_of 73 = .ok (.getfield 90, 3) := by decide +kernel
theorem dX6_of_76 : decode cX6_of 76 = .ok (.ireturn, 1) := by decide +kernel
theorem dX6_of_77 : decode cX6_of 77 = .ok (.aload_n 3, 1) := by decide +kernel
theorem dX6_of_78 : decode cX6_of 78 = .ok (.getfield 95, 3) := by decide +kernel
theorem dX6_of_81 : decode cX6_of 81 = .ok (.ireturn, 1) := by decide +kernel
theorem dX6_of_82 : decode cX6_of 82 = .ok (.aload_n 3, 1) := by decide +kernel
theorem dX6_of_83 : decode cX6_of 83 = .ok (.getfield 98, 3) := by decide +kernel
theorem dX6_of_86 : decode cX6_of 86 = .ok (.ireturn, 1) := by decide +kernel
theorem dX6_of_87 : decode cX6_of 87 = .ok (.aload_n 3, 1) := by decide +kernel
theorem dX6_of_88 : decode cX6_of 88 = .ok (.getfield 101, 3) := by decide +kernel
theorem dX6_of_91 : decode cX6_of 91 = .ok (.ireturn, 1) := by decide +kernel
theorem dX6_of_92 : decode cX6_of 92 = .ok (.aload_n 3, 1) := by decide +kernel
theorem dX6_of_93 : decode cX6_of 93 = .ok (.getfield 104, 3) := by decide +kernel
theorem dX6_of_96 : decode cX6_of 96 = .ok (.ireturn, 1) := by decide +kernel
theorem dX6_of_97 : decode cX6_of 97 = .ok (.aload_n 3, 1) := by decide +kernel
theorem dX6_of_98 : decode cX6_of 98 = .ok (.getfield 107, 3) := by decide +kernel
theorem dX6_of_101 : decode cX6_of 101 = .ok (.ireturn, 1) := by decide +kernel
theorem dX6_of_102 : decode cX6_of 102 = .ok (.aload_n 3, 1) := by decide +kernel
theorem dX6_of_103 : decode cX6_of 103 = .ok (.invokevirtual 110, 3) := by decide +kernel
theorem dX6_of_106 : decode cX6_of 106 = .ok (.ireturn, 1) := by decide +kernel
theorem dX6_of_107 : decode cX6_of 107 = .ok (.aload_n 0, 1) := by decide +kernel
theorem dX6_of_108 : decode cX6_of 108 = .ok (.ldc 69, 2) := by decide +kernel
theorem dX6_of_110 : decode cX6_of 110 = .ok (.invokevirtual 70, 3) := by decide +kernel
theorem dX6_of_113 : decode cX6_of 113 = .ok (.ireturn, 1) := by decide +kernel
theorem dX6_change_0 : decode cX6_change 0 = .ok (.aload_n 0, 1) := by decide +kernel
theorem dX6_change_1 : decode cX6_change 1 = .ok (.getfield 12, 3) := by decide +kernel
theorem dX6_change_4 : decode cX6_change 4 = .ok (.iload_n 1, 1) := by decide +kernel
theorem dX6_change_5 : decode cX6_change 5 = .ok (.invokevirtual 82, 3) := by decide +kernel
theorem dX6_change_8 : decode cX6_change 8 = .ok (.ifCond .eq 14, 3) := by decide +kernel
theorem dX6_change_11 : decode cX6_change 11 = .ok (.iload_n 3, 1) := by decide +kernel
theorem dX6_change_12 : decode cX6_change 12 = .ok (.iload_n 2, 1) := by decide +kernel
theorem dX6_change_13 : decode cX6_change 13 = .ok (.invokestatic 114, 3) := by decide +kernel
theorem dX6_change_16 : decode cX6_change 16 = .ok (.invokestatic 65, 3) := by decide +kernel
theorem dX6_change_19 : decode cX6_change 19 = .ok (.ifCond .ne 10, 3) := by decide +kernel
theorem dX6_change_22 : decode cX6_change 22 = .ok (.aload_n 0, 1) := by decide +kernel
theorem dX6_change_23 : decode cX6_change 23 = .ok (.ldc 69, 2) := by decide +kernel
theorem dX6_change_25 : decode cX6_change 25 = .ok (.invokevirtual 70, 3) := by decide +kernel
theorem dX6_change_28 : decode cX6_change 28 = .ok (.ireturn, 1) := by decide +kernel
theorem dX6_change_29 : decode cX6_change 29 = .ok (.aload_n 0, 1) := by decide +kernel
theorem dX6_change_30 : decode cX6_change 30 = .ok (.getfield 12, 3) := by decide +kernel
theorem dX6_change_33 : decode cX6_change 33 = .ok (.getfield 86, 3) := by decide +kernel
theorem dX6_change_36 : decode cX6_change 36 = .ok (.iload_n 1, 1) := by decide +kernel
theorem dX6_change_37 : decode cX6_change 37 = .ok (.aaload, 1) := by decide +kernel
theorem dX6_change_38 : decode cX6_change 38 = .ok (.iload_n 2, 1) := by decide +kernel
theorem dX6_change_39 : decode cX6_change 39 = .ok (.iload_n 3, 1) := by decide +kernel
theorem dX6_change_40 : decode cX6_change 40 = .ok (.invokevirtual 117, 3) := by decide +kernel
theorem dX6_change_43 : decode cX6_change 43 = .ok (.ireturn, 1) := by decide +kernel
theorem dX6_turn_0 : decode cX6_turn 0 = .ok (.aload_n 0, 1) := by decide +kernel
theorem dX6_turn_1 : decode cX6_turn 1 = .ok (.getfield 12, 3) := by decide +kernel
theorem dX6_turn_4 : decode cX6_turn 4 = .ok (.iload_n 1, 1) := by decide +kernel
theorem dX6_turn_5 : decode cX6_turn 5 = .ok (.invokevirtual 82, 3) := by decide +kernel
theorem dX6_turn_8 : decode cX6_turn 8 = .ok (.ifCond .ne 10, 3) := by decide +kernel
theorem dX6_turn_11 : decode cX6_turn 11 = .ok (.aload_n 0, 1) := by decide +kernel
theorem dX6_turn_12 : decode cX6_turn 12 = .ok (.ldc 69, 2) := by decide +kernel
theorem dX6_turn_14 : decode cX6_turn 14 = .ok (.invokevirtual 70, 3) := by decide +kernel
theorem dX6_turn_17 : decode cX6_turn 17 = .ok (.ireturn, 1) := by decide +kernel
theorem dX6_turn_18 : decode cX6_turn 18 = .ok (.aload_n 0, 1) := by decide +kernel
theorem dX6_turn_19 : decode cX6_turn 19 = .ok (.getfield 12, 3) := by decide +kernel
theorem dX6_turn_22 : decode cX6_turn 22 = .ok (.getfield 86, 3) := by decide +kernel
theorem dX6_turn_25 : decode cX6_turn 25 = .ok (.iload_n 1, 1) := by decide +kernel
theorem dX6_turn_26 : decode cX6_turn 26 = .ok (.aaload, 1) := by decide +kernel
theorem dX6_turn_27 : decode cX6_turn 27 = .ok (.invokevirtual 121, 3) := by decide +kernel
theorem dX6_turn_30 : decode cX6_turn 30 = .ok (.aload_n 0, 1) := by decide +kernel
theorem dX6_turn_31 : decode cX6_turn 31 = .ok (.getfield 12, 3) := by decide +kernel
theorem dX6_turn_34 : decode cX6_turn 34 = .ok (.getfield 86, 3) := by decide +kernel
theorem dX6_turn_37 : decode cX6_turn 37 = .ok (.iload_n 1, 1) := by decide +kernel
theorem dX6_turn_38 : decode cX6_turn 38 = .ok (.aaload, 1) := by decide +kernel
theorem dX6_turn_39 : decode cX6_turn 39 = .ok (.invokevirtual 110, 3) := by decide +kernel
theorem dX6_turn_42 : decode cX6_turn 42 = .ok (.ireturn, 1) := by decide +kernel
theorem dX6_purse_0 : decode cX6_purse 0 = .ok (.iload_n 1, 1) := by decide +kernel
theorem dX6_purse_1 : decode cX6_purse 1 = .ok (.invokestatic 124, 3) := by decide +kernel
theorem dX6_purse_4 : decode cX6_purse 4 = .ok (.ifCond .ne 10, 3) := by decide +kernel
theorem dX6_purse_7 : decode cX6_purse 7 = .ok (.aload_n 0, 1) := by decide +kernel
theorem dX6_purse_8 : decode cX6_purse 8 = .ok (.ldc 69, 2) := by decide +kernel
theorem dX6_purse_10 : decode cX6_purse 10 = .ok (.invokevirtual 70, 3) := by decide +kernel
theorem dX6_purse_13 : decode cX6_purse 13 = .ok (.ireturn, 1) := by decide +kernel
theorem dX6_purse_14 : decode cX6_purse 14 = .ok (.aload_n 0, 1) := by decide +kernel
theorem dX6_purse_15 : decode cX6_purse 15 = .ok (.getfield 12, 3) := by decide +kernel
theorem dX6_purse_18 : decode cX6_purse 18 = .ok (.iload_n 1, 1) := by decide +kernel
theorem dX6_purse_19 : decode cX6_purse 19 = .ok (.invokevirtual 127, 3) := by decide +kernel
theorem dX6_purse_22 : decode cX6_purse 22 = .ok (.istore_n 3, 1) := by decide +kernel
theorem dX6_purse_23 : decode cX6_purse 23 = .ok (.iload_n 2, 1) := by decide +kernel
theorem dX6_purse_24 : decode cX6_purse 24 = .ok (.tableswitch 63 0 3 #[32, 34, 43, 54], 32) := by decide +kernel
theorem dX6_purse_56 : decode cX6_purse 56 = .ok (.iload_n 3, 1) := by decide +kernel
theorem dX6_purse_57 : decode cX6_purse 57 = .ok (.ireturn, 1) := by decide +kernel
theorem dX6_purse_58 : decode cX6_purse 58 = .ok (.aload_n 0, 1) := by decide +kernel
theorem dX6_purse_59 : decode cX6_purse 59 = .ok (.getfield 12, 3) := by decide +kernel
theorem dX6_purse_62 : decode cX6_purse 62 = .ok (.iload_n 3, 1) := by decide +kernel
theorem dX6_purse_63 : decode cX6_purse 63 = .ok (.invokevirtual 130, 3) := by decide +kernel
theorem dX6_purse_66 : decode cX6_purse 66 = .ok (.ireturn, 1) := by decide +kernel
theorem dX6_purse_67 : decode cX6_purse 67 = .ok (.iload_n 3, 1) := by decide +kernel
theorem dX6_purse_68 : decode cX6_purse 68 = .ok (.aload_n 0, 1) := by decide +kernel
theorem dX6_purse_69 : decode cX6_purse 69 = .ok (.getfield 12, 3) := by decide +kernel
theorem dX6_purse_72 : decode cX6_purse 72 = .ok (.iconst 1, 1) := by decide +kernel
theorem dX6_purse_73 : decode cX6_purse 73 = .ok (.invokevirtual 133, 3) := by decide +kernel
theorem dX6_purse_76 : decode cX6_purse 76 = .ok (.iand, 1) := by decide +kernel
theorem dX6_purse_77 : decode cX6_purse 77 = .ok (.ireturn, 1) := by decide +kernel
theorem dX6_purse_78 : decode cX6_purse 78 = .ok (.aload_n 0, 1) := by decide +kernel
theorem dX6_purse_79 : decode cX6_purse 79 = .ok (.getfield 12, 3) := by decide +kernel
theorem dX6_purse_82 : decode cX6_purse 82 = .ok (.iload_n 3, 1) := by decide +kernel
theorem dX6_purse_83 : decode cX6_purse 83 = .ok (.invokevirtual 136, 3) := by decide +kernel
theorem dX6_purse_86 : decode cX6_purse 86 = .ok (.ireturn, 1) := by decide +kernel
theorem dX6_purse_87 : decode cX6_purse 87 = .ok (.aload_n 0, 1) := by decide +kernel
theorem dX6_purse_88 : decode cX6_purse 88 = .ok (.ldc 69, 2) := by decide +kernel
theorem dX6_purse_90 : decode cX6_purse 90 = .ok (.invokevirtual 70, 3) := by decide +kernel
theorem dX6_purse_93 : decode cX6_purse 93 = .ok (.ireturn, 1) := by decide +kernel
theorem dX6_sum_0 : decode cX6_sum 0 = .ok (.aload_n 0, 1) := by decide +kernel
theorem dX6_sum_1 : decode cX6_sum 1 = .ok (.getfield 12, 3) := by decide +kernel
theorem dX6_sum_4 : decode cX6_sum 4 = .ok (.iload_n 1, 1) := by decide +kernel
theorem dX6_sum_5 : decode cX6_sum 5 = .ok (.invokevirtual 139, 3) := by decide +kernel
theorem dX6_sum_8 : decode cX6_sum 8 = .ok (.ifCond .eq 14, 3) := by decide +kernel
theorem dX6_sum_11 : decode cX6_sum 11 = .ok (.aload_n 0, 1) := by decide +kernel
theorem dX6_sum_12 : decode cX6_sum 12 = .ok (.getfield 12, 3) := by decide +kernel
theorem dX6_sum_15 : decode cX6_sum 15 = .ok (.iload_n 1, 1) := by decide +kernel
theorem dX6_sum_16 : decode cX6_sum 16 = .ok (.invokevirtual 130, 3) := by decide +kernel
theorem dX6_sum_19 : decode cX6_sum 19 = .ok (.goto 9, 3) := by decide +kernel
theorem dX6_sum_22 : decode cX6_sum 22 = .ok (.aload_n 0, 1) := by decide +kernel
theorem dX6_sum_23 : decode cX6_sum 23 = .ok (.ldc 69, 2) := by decide +kernel
theorem dX6_sum_25 : decode cX6_sum 25 = .ok (.invokevirtual 70, 3) := by decide +kernel
theorem dX6_sum_28 : decode cX6_sum 28 = .ok (.ireturn, 1) := by decide +kernel
theorem dX6_pay_0 : decode cX6_pay 0 = .ok (.iload_n 1, 1) := by decide +kernel
theorem dX6_pay_1 : decode cX6_pay 1 = .ok (.iload_n 2, 1) := by decide +kernel
theorem dX6_pay_2 : decode cX6_pay 2 = .ok (.invokestatic 142, 3) := by decide +kernel
theorem dX6_pay_5 : decode cX6_pay 5 = .ok (.ifCond .eq 14, 3) := by decide +kernel
theorem dX6_pay_8 : decode cX6_pay 8 = .ok (.aload_n 0, 1) := by decide +kernel
theorem dX6_pay_9 : decode cX6_pay 9 = .ok (.getfield 12, 3) := by decide +kernel
theorem dX6_pay_12 : decode cX6_pay 12 = .ok (.iload_n 3, 1) := by decide +kernel
theorem dX6_pay_13 : decode cX6_pay 13 = .ok (.invokevirtual 139, 3) := by decide +kernel
theorem dX6_pay_16 : decode cX6_pay 16 = .ok (.ifCond .ne 10, 3) := by decide +kernel
theorem dX6_pay_19 : decode cX6_pay 19 = .ok (.aload_n 0, 1) := by decide +kernel
theorem dX6_pay_20 : decode cX6_pay 20 = .ok (.ldc 69, 2) := by decide +kernel
theorem dX6_pay_22 : decode cX6_pay 22 = .ok (.invokevirtual 70, 3) := by decide +kernel
theorem dX6_pay_25 : decode cX6_pay 25 = .ok (.ireturn, 1) := by decide +kernel
theorem dX6_pay_26 : decode cX6_pay 26 = .ok (.iload_n 3, 1) := by decide +kernel
theorem dX6_pay_27 : decode cX6_pay 27 = .ok (.aload_n 0, 1) := by decide +kernel
theorem dX6_pay_28 : decode cX6_pay 28 = .ok (.getfield 12, 3) := by decide +kernel
theorem dX6_pay_31 : decode cX6_pay 31 = .ok (.iload_n 1, 1) := by decide +kernel
theorem dX6_pay_32 : decode cX6_pay 32 = .ok (.invokevirtual 127, 3) := by decide +kernel
theorem dX6_pay_35 : decode cX6_pay 35 = .ok (.iconst (-1), 1) := by decide +kernel
theorem dX6_pay_36 : decode cX6_pay 36 = .ok (.ixor, 1) := by decide +kernel
theorem dX6_pay_37 : decode cX6_pay 37 = .ok (.iand, 1) := by decide +kernel
theorem dX6_pay_38 : decode cX6_pay 38 = .ok (.ifCond .eq 10, 3) := by decide +kernel
theorem dX6_pay_41 : decode cX6_pay 41 = .ok (.aload_n 0, 1) := by decide +kernel
theorem dX6_pay_42 : decode cX6_pay 42 = .ok (.ldc 145, 2) := by decide +kernel
theorem dX6_pay_44 : decode cX6_pay 44 = .ok (.invokevirtual 70, 3) := by decide +kernel
theorem dX6_pay_47 : decode cX6_pay 47 = .ok (.ireturn, 1) := by decide +kernel
theorem dX6_pay_48 : decode cX6_pay 48 = .ok (.aload_n 0, 1) := by decide +kernel
theorem dX6_pay_49 : decode cX6_pay 49 = .ok (.getfield 12, 3) := by decide +kernel
theorem dX6_pay_52 : decode cX6_pay 52 = .ok (.iload_n 3, 1) := by decide +kernel
theorem dX6_pay_53 : decode cX6_pay 53 = .ok (.invokevirtual 130, 3) := by decide +kernel
theorem dX6_pay_56 : decode cX6_pay 56 = .ok (.istore 4, 2) := by decide +kernel
theorem dX6_pay_58 : decode cX6_pay 58 = .ok (.aload_n 0, 1) := by decide +kernel
theorem dX6_pay_59 : decode cX6_pay 59 = .ok (.getfield 12, 3) := by decide +kernel
theorem dX6_pay_62 : decode cX6_pay 62 = .ok (.iload_n 3, 1) := by decide +kernel
theorem dX6_pay_63 : decode cX6_pay 63 = .ok (.iload_n 2, 1) := by decide +kernel
theorem dX6_pay_64 : decode cX6_pay 64 = .ok (.invokevirtual 146, 3) := by decide +kernel
theorem dX6_pay_67 : decode cX6_pay 67 = .ok (.iload 4, 2) := by decide +kernel
theorem dX6_pay_69 : decode cX6_pay 69 = .ok (.ireturn, 1) := by decide +kernel
theorem dX6_there_0 : decode cX6_there 0 = .ok (.iload_n 1, 1) := by decide +kernel
theorem dX6_there_1 : decode cX6_there 1 = .ok (.iload_n 2, 1) := by decide +kernel
theorem dX6_there_2 : decode cX6_there 2 = .ok (.invokestatic 142, 3) := by decide +kernel
theorem dX6_there_5 : decode cX6_there 5 = .ok (.ifCond .ne 10, 3) := by decide +kernel
theorem dX6_there_8 : decode cX6_there 8 = .ok (.aload_n 0, 1) := by decide +kernel
theorem dX6_there_9 : decode cX6_there 9 = .ok (.ldc 69, 2) := by decide +kernel
theorem dX6_there_11 : decode cX6_there 11 = .ok (.invokevirtual 70, 3) := by decide +kernel
theorem dX6_there_14 : decode cX6_there 14 = .ok (.ireturn, 1) := by decide +kernel
theorem dX6_there_15 : decode cX6_there 15 = .ok (.aload_n 0, 1) := by decide +kernel
theorem dX6_there_16 : decode cX6_there 16 = .ok (.getfield 12, 3) := by decide +kernel
theorem dX6_there_19 : decode cX6_there 19 = .ok (.iload_n 1, 1) := by decide +kernel
theorem dX6_there_20 : decode cX6_there 20 = .ok (.invokevirtual 127, 3) := by decide +kernel
theorem dX6_there_23 : decode cX6_there 23 = .ok (.istore_n 3, 1) := by decide +kernel
theorem dX6_there_24 : decode cX6_there 24 = .ok (.aload_n 0, 1) := by decide +kernel
theorem dX6_there_25 : decode cX6_there 25 = .ok (.getfield 12, 3) := by decide +kernel
theorem dX6_there_28 : decode cX6_there 28 = .ok (.iload_n 3, 1) := by decide +kernel
theorem dX6_there_29 : decode cX6_there 29 = .ok (.invokevirtual 130, 3) := by decide +kernel
theorem dX6_there_32 : decode cX6_there 32 = .ok (.istore 4, 2) := by decide +kernel
theorem dX6_there_34 : decode cX6_there 34 = .ok (.aload_n 0, 1) := by decide +kernel
theorem dX6_there_35 : decode cX6_there 35 = .ok (.getfield 12, 3) := by decide +kernel
theorem dX6_there_38 : decode cX6_there 38 = .ok (.iload_n 3, 1) := by decide +kernel
theorem dX6_there_39 : decode cX6_there 39 = .ok (.iload_n 2, 1) := by decide +kernel
theorem dX6_there_40 : decode cX6_there 40 = .ok (.invokevirtual 146, 3) := by decide +kernel
theorem dX6_there_43 : decode cX6_there 43 = .ok (.aload_n 0, 1) := by decide +kernel
theorem dX6_there_44 : decode cX6_there 44 = .ok (.getfield 12, 3) := by decide +kernel
theorem dX6_there_47 : decode cX6_there 47 = .ok (.iload_n 3, 1) := by decide +kernel
theorem dX6_there_48 : decode cX6_there 48 = .ok (.iload_n 1, 1) := by decide +kernel
theorem dX6_there_49 : decode cX6_there 49 = .ok (.invokevirtual 146, 3) := by decide +kernel
theorem dX6_there_52 : decode cX6_there 52 = .ok (.aload_n 0, 1) := by decide +kernel
theorem dX6_there_53 : decode cX6_there 53 = .ok (.getfield 12, 3) := by decide +kernel
theorem dX6_there_56 : decode cX6_there 56 = .ok (.iload_n 3, 1) := by decide +kernel
theorem dX6_there_57 : decode cX6_there 57 = .ok (.invokevirtual 130, 3) := by decide +kernel
theorem dX6_there_60 : decode cX6_there 60 = .ok (.iload 4, 2) := by decide +kernel
theorem dX6_there_62 : decode cX6_there 62 = .ok (.isub, 1) := by decide +kernel
theorem dX6_there_63 : decode cX6_there 63 = .ok (.ireturn, 1) := by decide +kernel
theorem dX6_can_0 : decode cX6_can 0 = .ok (.iload_n 1, 1) := by decide +kernel
theorem dX6_can_1 : decode cX6_can 1 = .ok (.invokestatic 124, 3) := by decide +kernel
theorem dX6_can_4 : decode cX6_can 4 = .ok (.ifCond .eq 13, 3) := by decide +kernel
theorem dX6_can_7 : decode cX6_can 7 = .ok (.iload_n 2, 1) := by decide +kernel
theorem dX6_can_8 : decode cX6_can 8 = .ok (.sipush 999, 3) := by decide +kernel
theorem dX6_can_11 : decode cX6_can 11 = .ok (.invokestatic 65, 3) := by decide +kernel
theorem dX6_can_14 : decode cX6_can 14 = .ok (.ifCond .ne 10, 3) := by decide +kernel
theorem dX6_can_17 : decode cX6_can 17 = .ok (.aload_n 0, 1) := by decide +kernel
theorem dX6_can_18 : decode cX6_can 18 = .ok (.ldc 69, 2) := by decide +kernel
theorem dX6_can_20 : decode cX6_can 20 = .ok (.invokevirtual 70, 3) := by decide +kernel
theorem dX6_can_23 : decode cX6_can 23 = .ok (.ireturn, 1) := by decide +kernel
theorem dX6_can_24 : decode cX6_can 24 = .ok (.aload_n 0, 1) := by decide +kernel
theorem dX6_can_25 : decode cX6_can 25 = .ok (.getfield 50, 3) := by decide +kernel
theorem dX6_can_28 : decode cX6_can 28 = .ok (.aload_n 0, 1) := by decide +kernel
theorem dX6_can_29 : decode cX6_can 29 = .ok (.getfield 12, 3) := by decide +kernel
theorem dX6_can_32 : decode cX6_can 32 = .ok (.aload_n 0, 1) := by decide +kernel
theorem dX6_can_33 : decode cX6_can 33 = .ok (.getfield 12, 3) := by decide +kernel
theorem dX6_can_36 : decode cX6_can 36 = .ok (.iload_n 1, 1) := by decide +kernel
theorem dX6_can_37 : decode cX6_can 37 = .ok (.invokevirtual 127, 3) := by decide +kernel
theorem dX6_can_40 : decode cX6_can 40 = .ok (.invokevirtual 150, 3) := by decide +kernel
theorem dX6_can_43 : decode cX6_can 43 = .ok (.aload_n 0, 1) := by decide +kernel
theorem dX6_can_44 : decode cX6_can 44 = .ok (.getfield 50, 3) := by decide +kernel
theorem dX6_can_47 : decode cX6_can 47 = .ok (.iload_n 2, 1) := by decide +kernel
theorem dX6_can_48 : decode cX6_can 48 = .ok (.invokevirtual 154, 3) := by decide +kernel
theorem dX6_can_51 : decode cX6_can 51 = .ok (.ifCond .eq 7, 3) := by decide +kernel
theorem dX6_can_54 : decode cX6_can 54 = .ok (.iconst 1, 1) := by decide +kernel
theorem dX6_can_55 : decode cX6_can 55 = .ok (.goto 4, 3) := by decide +kernel
theorem dX6_can_58 : decode cX6_can 58 = .ok (.iconst 0, 1) := by decide +kernel
theorem dX6_can_59 : decode cX6_can 59 = .ok (.ireturn, 1) := by decide +kernel
theorem dX6_with_0 : decode cX6_with 0 = .ok (.iload_n 1, 1) := by decide +kernel
theorem dX6_with_1 : decode cX6_with 1 = .ok (.invokestatic 124, 3) := by decide +kernel
theorem dX6_with_4 : decode cX6_with 4 = .ok (.ifCond .eq 13, 3) := by decide +kernel
theorem dX6_with_7 : decode cX6_with 7 = .ok (.iload_n 2, 1) := by decide +kernel
theorem dX6_with_8 : decode cX6_with 8 = .ok (.sipush 999, 3) := by decide +kernel
theorem dX6_with_11 : decode cX6_with 11 = .ok (.invokestatic 65, 3) := by decide +kernel
theorem dX6_with_14 : decode cX6_with 14 = .ok (.ifCond .ne 10, 3) := by decide +kernel
theorem dX6_with_17 : decode cX6_with 17 = .ok (.aload_n 0, 1) := by decide +kernel
theorem dX6_with_18 : decode cX6_with 18 = .ok (.ldc 69, 2) := by decide +kernel
theorem dX6_with_20 : decode cX6_with 20 = .ok (.invokevirtual 70, 3) := by decide +kernel
theorem dX6_with_23 : decode cX6_with 23 = .ok (.ireturn, 1) := by decide +kernel
theorem dX6_with_24 : decode cX6_with 24 = .ok (.aload_n 0, 1) := by decide +kernel
theorem dX6_with_25 : decode cX6_with 25 = .ok (.getfield 57, 3) := by decide +kernel
theorem dX6_with_28 : decode cX6_with 28 = .ok (.aload_n 0, 1) := by decide +kernel
theorem dX6_with_29 : decode cX6_with 29 = .ok (.getfield 12, 3) := by decide +kernel
theorem dX6_with_32 : decode cX6_with 32 = .ok (.aload_n 0, 1) := by decide +kernel
theorem dX6_with_33 : decode cX6_with 33 = .ok (.getfield 12, 3) := by decide +kernel
theorem dX6_with_36 : decode cX6_with 36 = .ok (.iload_n 1, 1) := by decide +kernel
theorem dX6_with_37 : decode cX6_with 37 = .ok (.invokevirtual 127, 3) := by decide +kernel
theorem dX6_with_40 : decode cX6_with 40 = .ok (.iload_n 2, 1) := by decide +kernel
theorem dX6_with_41 : decode cX6_with 41 = .ok (.invokevirtual 157, 3) := by decide +kernel
theorem dX6_with_44 : decode cX6_with 44 = .ok (.istore_n 3, 1) := by decide +kernel
theorem dX6_with_45 : decode cX6_with 45 = .ok (.iload_n 3, 1) := by decide +kernel
theorem dX6_with_46 : decode cX6_with 46 = .ok (.ifCond .lt 7, 3) := by decide +kernel
theorem dX6_with_49 : decode cX6_with 49 = .ok (.iload_n 3, 1) := by decide +kernel
theorem dX6_with_50 : decode cX6_with 50 = .ok (.goto 9, 3) := by decide +kernel
theorem dX6_with_53 : decode cX6_with 53 = .ok (.aload_n 0, 1) := by decide +kernel
theorem dX6_with_54 : decode cX6_with 54 = .ok (.ldc 161, 2) := by decide +kernel
theorem dX6_with_56 : decode cX6_with 56 = .ok (.invokevirtual 70, 3) := by decide +kernel
theorem dX6_with_59 : decode cX6_with 59 = .ok (.ireturn, 1) := by decide +kernel
theorem dX6_sums_0 : decode cX6_sums 0 = .ok (.iload_n 1, 1) := by decide +kernel
theorem dX6_sums_1 : decode cX6_sums 1 = .ok (.invokestatic 124, 3) := by decide +kernel
theorem dX6_sums_4 : decode cX6_sums 4 = .ok (.ifCond .ne 10, 3) := by decide +kernel
theorem dX6_sums_7 : decode cX6_sums 7 = .ok (.aload_n 0, 1) := by decide +kernel
theorem dX6_sums_8 : decode cX6_sums 8 = .ok (.ldc 69, 2) := by decide +kernel
theorem dX6_sums_10 : decode cX6_sums 10 = .ok (.invokevirtual 70, 3) := by decide +kernel
theorem dX6_sums_13 : decode cX6_sums 13 = .ok (.ireturn, 1) := by decide +kernel
theorem dX6_sums_14 : decode cX6_sums 14 = .ok (.aload_n 0, 1) := by decide +kernel
theorem dX6_sums_15 : decode cX6_sums 15 = .ok (.getfield 50, 3) := by decide +kernel
theorem dX6_sums_18 : decode cX6_sums 18 = .ok (.aload_n 0, 1) := by decide +kernel
theorem dX6_sums_19 : decode cX6_sums 19 = .ok (.getfield 12, 3) := by decide +kernel
theorem dX6_sums_22 : decode cX6_sums 22 = .ok (.aload_n 0, 1) := by decide +kernel
theorem dX6_sums_23 : decode cX6_sums 23 = .ok (.getfield 12, 3) := by decide +kernel
theorem dX6_sums_26 : decode cX6_sums 26 = .ok (.iload_n 1, 1) := by decide +kernel
theorem dX6_sums_27 : decode cX6_sums 27 = .ok (.invokevirtual 127, 3) := by decide +kernel
theorem dX6_sums_30 : decode cX6_sums 30 = .ok (.invokevirtual 150, 3) := by decide +kernel
theorem dX6_sums_33 : decode cX6_sums 33 = .ok (.aload_n 0, 1) := by decide +kernel
theorem dX6_sums_34 : decode cX6_sums 34 = .ok (.getfield 50, 3) := by decide +kernel
theorem dX6_sums_37 : decode cX6_sums 37 = .ok (.invokevirtual 162, 3) := by decide +kernel
theorem dX6_sums_40 : decode cX6_sums 40 = .ok (.ireturn, 1) := by decide +kernel
theorem dX6_cannot_0 : decode cX6_cannot 0 = .ok (.iload_n 1, 1) := by decide +kernel
theorem dX6_cannot_1 : decode cX6_cannot 1 = .ok (.invokestatic 124, 3) := by decide +kernel
theorem dX6_cannot_4 : decode cX6_cannot 4 = .ok (.ifCond .ne 10, 3) := by decide +kernel
theorem dX6_cannot_7 : decode cX6_cannot 7 = .ok (.aload_n 0, 1) := by decide +kernel
theorem dX6_cannot_8 : decode cX6_cannot 8 = .ok (.ldc 69, 2) := by decide +kernel
theorem dX6_cannot_10 : decode cX6_cannot 10 = .ok (.invokevirtual 70, 3) := by decide +kernel
theorem dX6_cannot_13 : decode cX6_cannot 13 = .ok (.ireturn, 1) := by decide +kernel
theorem dX6_cannot_14 : decode cX6_cannot 14 = .ok (.aload_n 0, 1) := by decide +kernel
theorem dX6_cannot_15 : decode cX6_cannot 15 = .ok (.getfield 50, 3) := by decide +kernel
theorem dX6_cannot_18 : decode cX6_cannot 18 = .ok (.aload_n 0, 1) := by decide +kernel
theorem dX6_cannot_19 : decode cX6_cannot 19 = .ok (.getfield 12, 3) := by decide +kernel
theorem dX6_cannot_22 : decode cX6_cannot 22 = .ok (.aload_n 0, 1) := by decide +kernel
theorem dX6_cannot_23 : decode cX6_cannot 23 = .ok (.getfield 12, 3) := by decide +kernel
theorem dX6_cannot_26 : decode cX6_cannot 26 = .ok (.iload_n 1, 1) := by decide +kernel
theorem dX6_cannot_27 : decode cX6_cannot 27 = .ok (.invokevirtual 127, 3) := by decide +kernel
theorem dX6_cannot_30 : decode cX6_cannot 30 = .ok (.invokevirtual 150, 3) := by decide +kernel
theorem dX6_cannot_33 : decode cX6_cannot 33 = .ok (.aload_n 0, 1) := by decide +kernel
theorem dX6_cannot_34 : decode cX6_cannot 34 = .ok (.getfield 50, 3) := by decide +kernel
theorem dX6_cannot_37 : decode cX6_cannot 37 = .ok (.iconst 1, 1) := by decide +kernel
theorem dX6_cannot_38 : decode cX6_cannot 38 = .ok (.invokevirtual 165, 3) := by decide +kernel
theorem dX6_cannot_41 : decode cX6_cannot 41 = .ok (.ireturn, 1) := by decide +kernel
theorem dX6_cost_0 : decode cX6_cost 0 = .ok (.aload_n 0, 1) := by decide +kernel
theorem dX6_cost_1 : decode cX6_cost 1 = .ok (.iload_n 1, 1) := by decide +kernel
theorem dX6_cost_2 : decode cX6_cost 2 = .ok (.iload_n 2, 1) := by decide +kernel
theorem dX6_cost_3 : decode cX6_cost 3 = .ok (.iload_n 3, 1) := by decide +kernel
theorem dX6_cost_4 : decode cX6_cost 4 = .ok (.invokevirtual 168, 3) := by decide +kernel
theorem dX6_cost_7 : decode cX6_cost 7 = .ok (.istore 4, 2) := by decide +kernel
theorem dX6_cost_9 : decode cX6_cost 9 = .ok (.iload 4, 2) := by decide +kernel
theorem dX6_cost_11 : decode cX6_cost 11 = .ok (.ifCond .ne 13, 3) := by decide +kernel
theorem dX6_cost_14 : decode cX6_cost 14 = .ok (.aload_n 0, 1) := by decide +kernel
theorem dX6_cost_15 : decode cX6_cost 15 = .ok (.getfield 57, 3) := by decide +kernel
theorem dX6_cost_18 : decode cX6_cost 18 = .ok (.getfield 171, 3) := by decide +kernel
theorem dX6_cost_21 : decode cX6_cost 21 = .ok (.goto 9, 3) := by decide +kernel
theorem dX6_cost_24 : decode cX6_cost 24 = .ok (.aload_n 0, 1) := by decide +kernel
theorem dX6_cost_25 : decode cX6_cost 25 = .ok (.iload 4, 2) := by decide +kernel
theorem dX6_cost_27 : decode cX6_cost 27 = .ok (.invokevirtual 70, 3) := by decide +kernel
theorem dX6_cost_30 : decode cX6_cost 30 = .ok (.ireturn, 1) := by decide +kernel
theorem dX6_given_0 : decode cX6_given 0 = .ok (.aload_n 0, 1) := by decide +kernel
theorem dX6_given_1 : decode cX6_given 1 = .ok (.iload_n 1, 1) := by decide +kernel
theorem dX6_given_2 : decode cX6_given 2 = .ok (.iload_n 2, 1) := by decide +kernel
theorem dX6_given_3 : decode cX6_given 3 = .ok (.iload_n 3, 1) := by decide +kernel
theorem dX6_given_4 : decode cX6_given 4 = .ok (.invokevirtual 168, 3) := by decide +kernel
theorem dX6_given_7 : decode cX6_given 7 = .ok (.istore 4, 2) := by decide +kernel
theorem dX6_given_9 : decode cX6_given 9 = .ok (.iload 4, 2) := by decide +kernel
theorem dX6_given_11 : decode cX6_given 11 = .ok (.ifCond .ne 13, 3) := by decide +kernel
theorem dX6_given_14 : decode cX6_given 14 = .ok (.aload_n 0, 1) := by decide +kernel
theorem dX6_given_15 : decode cX6_given 15 = .ok (.getfield 57, 3) := by decide +kernel
theorem dX6_given_18 : decode cX6_given 18 = .ok (.getfield 174, 3) := by decide +kernel
theorem dX6_given_21 : decode cX6_given 21 = .ok (.goto 9, 3) := by decide +kernel
theorem dX6_given_24 : decode cX6_given 24 = .ok (.aload_n 0, 1) := by decide +kernel
theorem dX6_given_25 : decode cX6_given 25 = .ok (.iload 4, 2) := by decide +kernel
theorem dX6_given_27 : decode cX6_given 27 = .ok (.invokevirtual 70, 3) := by decide +kernel
theorem dX6_given_30 : decode cX6_given 30 = .ok (.ireturn, 1) := by decide +kernel
theorem dX6_back_0 : decode cX6_back 0 = .ok (.aload_n 0, 1) := by decide +kernel
theorem dX6_back_1 : decode cX6_back 1 = .ok (.iload_n 1, 1) := by decide +kernel
theorem dX6_back_2 : decode cX6_back 2 = .ok (.iload_n 2, 1) := by decide +kernel
theorem dX6_back_3 : decode cX6_back 3 = .ok (.iload_n 3, 1) := by decide +kernel
theorem dX6_back_4 : decode cX6_back 4 = .ok (.invokevirtual 168, 3) := by decide +kernel
theorem dX6_back_7 : decode cX6_back 7 = .ok (.istore 4, 2) := by decide +kernel
theorem dX6_back_9 : decode cX6_back 9 = .ok (.iload 4, 2) := by decide +kernel
theorem dX6_back_11 : decode cX6_back 11 = .ok (.ifCond .ne 13, 3) := by decide +kernel
theorem dX6_back_14 : decode cX6_back 14 = .ok (.aload_n 0, 1) := by decide +kernel
theorem dX6_back_15 : decode cX6_back 15 = .ok (.getfield 57, 3) := by decide +kernel
theorem dX6_back_18 : decode cX6_back 18 = .ok (.getfield 177, 3) := by decide +kernel
theorem dX6_back_21 : decode cX6_back 21 = .ok (.goto 9, 3) := by decide +kernel
theorem dX6_back_24 : decode cX6_back 24 = .ok (.aload_n 0, 1) := by decide +kernel
theorem dX6_back_25 : decode cX6_back 25 = .ok (.iload 4, 2) := by decide +kernel
theorem dX6_back_27 : decode cX6_back 27 = .ok (.invokevirtual 70, 3) := by decide +kernel
theorem dX6_back_30 : decode cX6_back 30 = .ok (.ireturn, 1) := by decide +kernel
theorem dX6_buy_0 : decode cX6_buy 0 = .ok (.aload_n 0, 1) := by decide +kernel
theorem dX6_buy_1 : decode cX6_buy 1 = .ok (.iload_n 1, 1) := by decide +kernel
theorem dX6_buy_2 : decode cX6_buy 2 = .ok (.iload_n 2, 1) := by decide +kernel
theorem dX6_buy_3 : decode cX6_buy 3 = .ok (.iload_n 3, 1) := by decide +kernel
theorem dX6_buy_4 : decode cX6_buy 4 = .ok (.invokevirtual 168, 3) := by decide +kernel
theorem dX6_buy_7 : decode cX6_buy 7 = .ok (.istore 4, 2) := by decide +kernel
theorem dX6_buy_9 : decode cX6_buy 9 = .ok (.iload 4, 2) := by decide +kernel
theorem dX6_buy_11 : decode cX6_buy 11 = .ok (.ifCond .eq 10, 3) := by decide +kernel
theorem dX6_buy_14 : decode cX6_buy 14 = .ok (.aload_n 0, 1) := by decide +kernel
theorem dX6_buy_15 : decode cX6_buy 15 = .ok (.iload 4, 2) := by decide +kernel
theorem dX6_buy_17 : decode cX6_buy 17 = .ok (.invokevirtual 70, 3) := by decide +kernel
theorem dX6_buy_20 : decode cX6_buy 20 = .ok (.ireturn, 1) := by decide +kernel
theorem dX6_buy_21 : decode cX6_buy 21 = .ok (.aload_n 0, 1) := by decide +kernel
theorem dX6_buy_22 : decode cX6_buy 22 = .ok (.getfield 12, 3) := by decide +kernel
theorem dX6_buy_25 : decode cX6_buy 25 = .ok (.aload_n 0, 1) := by decide +kernel
theorem dX6_buy_26 : decode cX6_buy 26 = .ok (.getfield 57, 3) := by decide +kernel
theorem dX6_buy_29 : decode cX6_buy 29 = .ok (.getfield 174, 3) := by decide +kernel
theorem dX6_buy_32 : decode cX6_buy 32 = .ok (.iload_n 2, 1) := by decide +kernel
theorem dX6_buy_33 : decode cX6_buy 33 = .ok (.aload_n 0, 1) := by decide +kernel
theorem dX6_buy_34 : decode cX6_buy 34 = .ok (.getfield 57, 3) := by decide +kernel
theorem dX6_buy_37 : decode cX6_buy 37 = .ok (.getfield 177, 3) := by decide +kernel
theorem dX6_buy_40 : decode cX6_buy 40 = .ok (.iload_n 1, 1) := by decide +kernel
theorem dX6_buy_41 : decode cX6_buy 41 = .ok (.invokevirtual 180, 3) := by decide +kernel
theorem dX6_buy_44 : decode cX6_buy 44 = .ok (.aload_n 0, 1) := by decide +kernel
theorem dX6_buy_45 : decode cX6_buy 45 = .ok (.getfield 57, 3) := by decide +kernel
theorem dX6_buy_48 : decode cX6_buy 48 = .ok (.getfield 171, 3) := by decide +kernel
theorem dX6_buy_51 : decode cX6_buy 51 = .ok (.ireturn, 1) := by decide +kernel
theorem dX6_fewest_0 : decode cX6_fewest 0 = .ok (.iload_n 1, 1) := by decide +kernel
theorem dX6_fewest_1 : decode cX6_fewest 1 = .ok (.iload_n 2, 1) := by decide +kernel
theorem dX6_fewest_2 : decode cX6_fewest 2 = .ok (.invokestatic 142, 3) := by decide +kernel
theorem dX6_fewest_5 : decode cX6_fewest 5 = .ok (.ifCond .eq 13, 3) := by decide +kernel
theorem dX6_fewest_8 : decode cX6_fewest 8 = .ok (.iload_n 3, 1) := by decide +kernel
theorem dX6_fewest_9 : decode cX6_fewest 9 = .ok (.sipush 999, 3) := by decide +kernel
theorem dX6_fewest_12 : decode cX6_fewest 12 = .ok (.invokestatic 65, 3) := by decide +kernel
theorem dX6_fewest_15 : decode cX6_fewest 15 = .ok (.ifCond .ne 10, 3) := by decide +kernel
theorem dX6_fewest_18 : decode cX6_fewest 18 = .ok (.aload_n 0, 1) := by decide +kernel
theorem dX6_fewest_19 : decode cX6_fewest 19 = .ok (.ldc 69, 2) := by decide +kernel
theorem dX6_fewest_21 : decode cX6_fewest 21 = .ok (.invokevirtual 70, 3) := by decide +kernel
theorem dX6_fewest_24 : decode cX6_fewest 24 = .ok (.ireturn, 1) := by decide +kernel
theorem dX6_fewest_25 : decode cX6_fewest 25 = .ok (.aload_n 0, 1) := by decide +kernel
theorem dX6_fewest_26 : decode cX6_fewest 26 = .ok (.getfield 57, 3) := by decide +kernel
theorem dX6_fewest_29 : decode cX6_fewest 29 = .ok (.aload_n 0, 1) := by decide +kernel
theorem dX6_fewest_30 : decode cX6_fewest 30 = .ok (.getfield 12, 3) := by decide +kernel
theorem dX6_fewest_33 : decode cX6_fewest 33 = .ok (.iload_n 1, 1) := by decide +kernel
theorem dX6_fewest_34 : decode cX6_fewest 34 = .ok (.iload_n 2, 1) := by decide +kernel
theorem dX6_fewest_35 : decode cX6_fewest 35 = .ok (.iload_n 3, 1) := by decide +kernel
