theorem dX8_next_44 : decode cX8_next 44 = .ok (.iconst 0, 1) := by decide +kernel
theorem dX8_next_45 : decode cX8_next 45 = .ok (.putfield 98, 3) := by decide +kernel
theorem dX8_next_48 : decode cX8_next 48 = .ok (.iload_n 1, 1) := by decide +kernel
theorem dX8_next_49 : decode cX8_next 49 = .ok (.ifCond .ge 11, 3) := by decide +kernel
theorem dX8_next_52 : decode cX8_next 52 = .ok (.aload_n 0, 1) := by decide +kernel
theorem dX8_next_53 : decode cX8_next 53 = .ok (.iconst 0, 1) := by decide +kernel
theorem dX8_next_54 : decode cX8_next 54 = .ok (.putfield 101, 3) := by decide +kernel
theorem dX8_next_57 : decode cX8_next 57 = .ok (.goto 205, 3) := by decide +kernel
theorem dX8_next_60 : decode cX8_next 60 = .ok (.iload_n 1, 1) := by decide +kernel
theorem dX8_next_61 : decode cX8_next 61 = .ok (.invokestatic 104, 3) := by decide +kernel
theorem dX8_next_64 : decode cX8_next 64 = .ok (.ifCond .eq 109, 3) := by decide +kernel
theorem dX8_next_67 : decode cX8_next 67 = .ok (.aload_n 0, 1) := by decide +kernel
theorem dX8_next_68 : decode cX8_next 68 = .ok (.aload_n 0, 1) := by decide +kernel
theorem dX8_next_69 : decode cX8_next 69 = .ok (.getfield 88, 3) := by decide +kernel
theorem dX8_next_72 : decode cX8_next 72 = .ok (.invokevirtual 91, 3) := by decide +kernel
theorem dX8_next_75 : decode cX8_next 75 = .ok (.invokestatic 104, 3) := by decide +kernel
theorem dX8_next_78 : decode cX8_next 78 = .ok (.ifCond .eq 55, 3) := by decide +kernel
theorem dX8_next_81 : decode cX8_next 81 = .ok (.aload_n 0, 1) := by decide +kernel
theorem dX8_next_82 : decode cX8_next 82 = .ok (.aload_n 0, 1) := by decide +kernel
theorem dX8_next_83 : decode cX8_next 83 = .ok (.getfield 98, 3) := by decide +kernel
theorem dX8_next_86 : decode cX8_next 86 = .ok (.bipush 99, 2) := by decide +kernel
theorem dX8_next_88 : decode cX8_next 88 = .ok (.if_icmp .le 10, 3) := by decide +kernel
theorem dX8_next_91 : decode cX8_next 91 = .ok (.aload_n 0, 1) := by decide +kernel
theorem dX8_next_92 : decode cX8_next 92 = .ok (.getfield 98, 3) := by decide +kernel
theorem dX8_next_95 : decode cX8_next 95 = .ok (.goto 22, 3) := by decide +kernel
theorem dX8_next_98 : decode cX8_next 98 = .ok (.bipush 10, 2) := by decide +kernel
theorem dX8_next_100 : decode cX8_next 100 = .ok (.aload_n 0, 1) := by decide +kernel
theorem dX8_next_101 : decode cX8_next 101 = .ok (.getfield 98, 3) := by decide +kernel
theorem dX8_next_104 : decode cX8_next 104 = .ok (.imul, 1) := by decide +kernel
theorem dX8_next_105 : decode cX8_next 105 = .ok (.aload_n 0, 1) := by decide +kernel
theorem dX8_next_106 : decode cX8_next 106 = .ok (.aload_n 0, 1) := by decide +kernel
theorem dX8_next_107 : decode cX8_next 107 = .ok (.getfield 88, 3) := by decide +kernel
theorem dX8_next_110 : decode cX8_next 110 = .ok (.invokevirtual 91, 3) := by decide +kernel
theorem dX8_next_113 : decode cX8_next 113 = .ok (.iadd, 1) := by decide +kernel
theorem dX8_next_114 : decode cX8_next 114 = .ok (.bipush 48, 2) := by decide +kernel
theorem dX8_next_116 : decode cX8_next 116 = .ok (.isub, 1) := by decide +kernel
theorem dX8_next_117 : decode cX8_next 117 = .ok (.putfield 98, 3) := by decide +kernel
theorem dX8_next_120 : decode cX8_next 120 = .ok (.aload_n 0, 1) := by decide +kernel
theorem dX8_next_121 : decode cX8_next 121 = .ok (.dup, 1) := by decide +kernel
theorem dX8_next_122 : decode cX8_next 122 = .ok (.getfield 88, 3) := by decide +kernel
theorem dX8_next_125 : decode cX8_next 125 = .ok (.iconst 1, 1) := by decide +kernel
theorem dX8_next_126 : decode cX8_next 126 = .ok (.iadd, 1) := by decide +kernel
theorem dX8_next_127 : decode cX8_next 127 = .ok (.putfield 88, 3) := by decide +kernel
theorem dX8_next_130 : decode cX8_next 130 = .ok (.goto (-63), 3) := by decide +kernel
theorem dX8_next_133 : decode cX8_next 133 = .ok (.aload_n 0, 1) := by decide +kernel
theorem dX8_next_134 : decode cX8_next 134 = .ok (.aload_n 0, 1) := by decide +kernel
theorem dX8_next_135 : decode cX8_next 135 = .ok (.getfield 98, 3) := by decide +kernel
theorem dX8_next_138 : decode cX8_next 138 = .ok (.bipush 99, 2) := by decide +kernel
theorem dX8_next_140 : decode cX8_next 140 = .ok (.if_icmp .gt 22, 3) := by decide +kernel
theorem dX8_next_143 : decode cX8_next 143 = .ok (.iload_n 1, 1) := by decide +kernel
theorem dX8_next_144 : decode cX8_next 144 = .ok (.bipush 48, 2) := by decide +kernel
theorem dX8_next_146 : decode cX8_next 146 = .ok (.if_icmp .ne 20, 3) := by decide +kernel
theorem dX8_next_149 : decode cX8_next 149 = .ok (.aload_n 0, 1) := by decide +kernel
theorem dX8_next_150 : decode cX8_next 150 = .ok (.getfield 88, 3) := by decide +kernel
theorem dX8_next_153 : decode cX8_next 153 = .ok (.aload_n 0, 1) := by decide +kernel
theorem dX8_next_154 : decode cX8_next 154 = .ok (.getfield 95, 3) := by decide +kernel
theorem dX8_next_157 : decode cX8_next 157 = .ok (.isub, 1) := by decide +kernel
theorem dX8_next_158 : decode cX8_next 158 = .ok (.iconst 1, 1) := by decide +kernel
theorem dX8_next_159 : decode cX8_next 159 = .ok (.if_icmp .le 7, 3) := by decide +kernel
theorem dX8_next_162 : decode cX8_next 162 = .ok (.iconst 4, 1) := by decide +kernel
theorem dX8_next_163 : decode cX8_next 163 = .ok (.goto 4, 3) := by decide +kernel
theorem dX8_next_166 : decode cX8_next 166 = .ok (.iconst 2, 1) := by decide +kernel
theorem dX8_next_167 : decode cX8_next 167 = .ok (.putfield 101, 3) := by decide +kernel
theorem dX8_next_170 : decode cX8_next 170 = .ok (.goto 92, 3) := by decide +kernel
theorem dX8_next_173 : decode cX8_next 173 = .ok (.iload_n 1, 1) := by decide +kernel
theorem dX8_next_174 : decode cX8_next 174 = .ok (.invokestatic 108, 3) := by decide +kernel
theorem dX8_next_177 : decode cX8_next 177 = .ok (.ifCond .eq 60, 3) := by decide +kernel
theorem dX8_next_180 : decode cX8_next 180 = .ok (.aload_n 0, 1) := by decide +kernel
theorem dX8_next_181 : decode cX8_next 181 = .ok (.aload_n 0, 1) := by decide +kernel
theorem dX8_next_182 : decode cX8_next 182 = .ok (.getfield 88, 3) := by decide +kernel
theorem dX8_next_185 : decode cX8_next 185 = .ok (.invokevirtual 91, 3) := by decide +kernel
theorem dX8_next_188 : decode cX8_next 188 = .ok (.invokestatic 108, 3) := by decide +kernel
theorem dX8_next_191 : decode cX8_next 191 = .ok (.ifCond .eq 16, 3) := by decide +kernel
theorem dX8_next_194 : decode cX8_next 194 = .ok (.aload_n 0, 1) := by decide +kernel
theorem dX8_next_195 : decode cX8_next 195 = .ok (.dup, 1) := by decide +kernel
theorem dX8_next_196 : decode cX8_next 196 = .ok (.getfield 88, 3) := by decide +kernel
theorem dX8_next_199 : decode cX8_next 199 = .ok (.iconst 1, 1) := by decide +kernel
theorem dX8_next_200 : decode cX8_next 200 = .ok (.iadd, 1) := by decide +kernel
theorem dX8_next_201 : decode cX8_next 201 = .ok (.putfield 88, 3) := by decide +kernel
theorem dX8_next_204 : decode cX8_next 204 = .ok (.goto (-24), 3) := by decide +kernel
theorem dX8_next_207 : decode cX8_next 207 = .ok (.aload_n 0, 1) := by decide +kernel
theorem dX8_next_208 : decode cX8_next 208 = .ok (.iconst 1, 1) := by decide +kernel
theorem dX8_next_209 : decode cX8_next 209 = .ok (.putfield 101, 3) := by decide +kernel
theorem dX8_next_212 : decode cX8_next 212 = .ok (.aload_n 0, 1) := by decide +kernel
theorem dX8_next_213 : decode cX8_next 213 = .ok (.aload_n 0, 1) := by decide +kernel
theorem dX8_next_214 : decode cX8_next 214 = .ok (.getfield 88, 3) := by decide +kernel
theorem dX8_next_217 : decode cX8_next 217 = .ok (.aload_n 0, 1) := by decide +kernel
theorem dX8_next_218 : decode cX8_next 218 = .ok (.getfield 95, 3) := by decide +kernel
theorem dX8_next_221 : decode cX8_next 221 = .ok (.isub, 1) := by decide +kernel
theorem dX8_next_222 : decode cX8_next 222 = .ok (.iconst 1, 1) := by decide +kernel
theorem dX8_next_223 : decode cX8_next 223 = .ok (.if_icmp .ne 7, 3) := by decide +kernel
theorem dX8_next_226 : decode cX8_next 226 = .ok (.iload_n 1, 1) := by decide +kernel
theorem dX8_next_227 : decode cX8_next 227 = .ok (.goto 4, 3) := by decide +kernel
theorem dX8_next_230 : decode cX8_next 230 = .ok (.iconst 0, 1) := by decide +kernel
theorem dX8_next_231 : decode cX8_next 231 = .ok (.putfield 98, 3) := by decide +kernel
theorem dX8_next_234 : decode cX8_next 234 = .ok (.goto 28, 3) := by decide +kernel
theorem dX8_next_237 : decode cX8_next 237 = .ok (.aload_n 0, 1) := by decide +kernel
theorem dX8_next_238 : decode cX8_next 238 = .ok (.iload_n 1, 1) := by decide +kernel
theorem dX8_next_239 : decode cX8_next 239 = .ok (.bipush 59, 2) := by decide +kernel
theorem dX8_next_241 : decode cX8_next 241 = .ok (.if_icmp .ne 7, 3) := by decide +kernel
theorem dX8_next_244 : decode cX8_next 244 = .ok (.iconst 3, 1) := by decide +kernel
theorem dX8_next_245 : decode cX8_next 245 = .ok (.goto 4, 3) := by decide +kernel
theorem dX8_next_248 : decode cX8_next 248 = .ok (.iconst 4, 1) := by decide +kernel
theorem dX8_next_249 : decode cX8_next 249 = .ok (.putfield 101, 3) := by decide +kernel
theorem dX8_next_252 : decode cX8_next 252 = .ok (.aload_n 0, 1) := by decide +kernel
theorem dX8_next_253 : decode cX8_next 253 = .ok (.dup, 1) := by decide +kernel
theorem dX8_next_254 : decode cX8_next 254 = .ok (.getfield 88, 3) := by decide +kernel
theorem dX8_next_257 : decode cX8_next 257 = .ok (.iconst 1, 1) := by decide +kernel
theorem dX8_next_258 : decode cX8_next 258 = .ok (.iadd, 1) := by decide +kernel
theorem dX8_next_259 : decode cX8_next 259 = .ok (.putfield 88, 3) := by decide +kernel
theorem dX8_next_262 : decode cX8_next 262 = .ok (.return_, 1) := by decide +kernel
theorem dX8_takesNumber_0 : decode cX8_takesNumber 0 = .ok (.aload_n 0, 1) := by decide +kernel
theorem dX8_takesNumber_1 : decode cX8_takesNumber 1 = .ok (.getfield 111, 3) := by decide +kernel
theorem dX8_takesNumber_4 : decode cX8_takesNumber 4 = .ok (.ifCond .ne 27, 3) := by decide +kernel
theorem dX8_takesNumber_7 : decode cX8_takesNumber 7 = .ok (.aload_n 0, 1) := by decide +kernel
theorem dX8_takesNumber_8 : decode cX8_takesNumber 8 = .ok (.getfield 101, 3) := by decide +kernel
theorem dX8_takesNumber_11 : decode cX8_takesNumber 11 = .ok (.iconst 2, 1) := by decide +kernel
theorem dX8_takesNumber_12 : decode cX8_takesNumber 12 = .ok (.if_icmp .ne 19, 3) := by decide +kernel
theorem dX8_takesNumber_15 : decode cX8_takesNumber 15 = .ok (.aload_n 0, 1) := by decide +kernel
theorem dX8_takesNumber_16 : decode cX8_takesNumber 16 = .ok (.getfield 98, 3) := by decide +kernel
theorem dX8_takesNumber_19 : decode cX8_takesNumber 19 = .ok (.iload_n 1, 1) := by decide +kernel
theorem dX8_takesNumber_20 : decode cX8_takesNumber 20 = .ok (.iload_n 2, 1) := by decide +kernel
theorem dX8_takesNumber_21 : decode cX8_takesNumber 21 = .ok (.invokestatic 78, 3) := by decide +kernel
theorem dX8_takesNumber_24 : decode cX8_takesNumber 24 = .ok (.ifCond .eq 7, 3) := by decide +kernel
theorem dX8_takesNumber_27 : decode cX8_takesNumber 27 = .ok (.iconst 1, 1) := by decide +kernel
theorem dX8_takesNumber_28 : decode cX8_takesNumber 28 = .ok (.goto 4, 3) := by decide +kernel
theorem dX8_takesNumber_31 : decode cX8_takesNumber 31 = .ok (.iconst 0, 1) := by decide +kernel
theorem dX8_takesNumber_32 : decode cX8_takesNumber 32 = .ok (.istore_n 3, 1) := by decide +kernel
theorem dX8_takesNumber_33 : decode cX8_takesNumber 33 = .ok (.aload_n 0, 1) := by decide +kernel
theorem dX8_takesNumber_34 : decode cX8_takesNumber 34 = .ok (.iload_n 3, 1) := by decide +kernel
theorem dX8_takesNumber_35 : decode cX8_takesNumber 35 = .ok (.ifCond .ne 7, 3) := by decide +kernel
theorem dX8_takesNumber_38 : decode cX8_takesNumber 38 = .ok (.iconst 1, 1) := by decide +kernel
theorem dX8_takesNumber_39 : decode cX8_takesNumber 39 = .ok (.goto 4, 3) := by decide +kernel
theorem dX8_takesNumber_42 : decode cX8_takesNumber 42 = .ok (.iconst 0, 1) := by decide +kernel
theorem dX8_takesNumber_43 : decode cX8_takesNumber 43 = .ok (.putfield 111, 3) := by decide +kernel
theorem dX8_takesNumber_46 : decode cX8_takesNumber 46 = .ok (.aload_n 0, 1) := by decide +kernel
theorem dX8_takesNumber_47 : decode cX8_takesNumber 47 = .ok (.getfield 98, 3) := by decide +kernel
theorem dX8_takesNumber_50 : decode cX8_takesNumber 50 = .ok (.istore 4, 2) := by decide +kernel
theorem dX8_takesNumber_52 : decode cX8_takesNumber 52 = .ok (.iload_n 3, 1) := by decide +kernel
theorem dX8_takesNumber_53 : decode cX8_takesNumber 53 = .ok (.ifCond .eq 7, 3) := by decide +kernel
theorem dX8_takesNumber_56 : decode cX8_takesNumber 56 = .ok (.aload_n 0, 1) := by decide +kernel
theorem dX8_takesNumber_57 : decode cX8_takesNumber 57 = .ok (.invokevirtual 115, 3) := by decide +kernel
theorem dX8_takesNumber_60 : decode cX8_takesNumber 60 = .ok (.iload_n 3, 1) := by decide +kernel
theorem dX8_takesNumber_61 : decode cX8_takesNumber 61 = .ok (.ifCond .eq 8, 3) := by decide +kernel
theorem dX8_takesNumber_64 : decode cX8_takesNumber 64 = .ok (.iload 4, 2) := by decide +kernel
theorem dX8_takesNumber_66 : decode cX8_takesNumber 66 = .ok (.goto 4, 3) := by decide +kernel
theorem dX8_takesNumber_69 : decode cX8_takesNumber 69 = .ok (.iconst 0, 1) := by decide +kernel
theorem dX8_takesNumber_70 : decode cX8_takesNumber 70 = .ok (.ireturn, 1) := by decide +kernel
theorem dX8_readRoof_0 : decode cX8_readRoof 0 = .ok (.aload_n 0, 1) := by decide +kernel
theorem dX8_readRoof_1 : decode cX8_readRoof 1 = .ok (.iconst 0, 1) := by decide +kernel
theorem dX8_readRoof_2 : decode cX8_readRoof 2 = .ok (.bipush 23, 2) := by decide +kernel
theorem dX8_readRoof_4 : decode cX8_readRoof 4 = .ok (.invokevirtual 118, 3) := by decide +kernel
theorem dX8_readRoof_7 : decode cX8_readRoof 7 = .ok (.istore_n 1, 1) := by decide +kernel
theorem dX8_readRoof_8 : decode cX8_readRoof 8 = .ok (.aload_n 0, 1) := by decide +kernel
theorem dX8_readRoof_9 : decode cX8_readRoof 9 = .ok (.getfield 50, 3) := by decide +kernel
theorem dX8_readRoof_12 : decode cX8_readRoof 12 = .ok (.iload_n 1, 1) := by decide +kernel
theorem dX8_readRoof_13 : decode cX8_readRoof 13 = .ok (.aload_n 0, 1) := by decide +kernel
theorem dX8_readRoof_14 : decode cX8_readRoof 14 = .ok (.iconst 0, 1) := by decide +kernel
theorem dX8_readRoof_15 : decode cX8_readRoof 15 = .ok (.bipush 9, 2) := by decide +kernel
theorem dX8_readRoof_17 : decode cX8_readRoof 17 = .ok (.invokevirtual 118, 3) := by decide +kernel
theorem dX8_readRoof_20 : decode cX8_readRoof 20 = .ok (.iastore, 1) := by decide +kernel
theorem dX8_readRoof_21 : decode cX8_readRoof 21 = .ok (.return_, 1) := by decide +kernel
theorem dX8_readCock_0 : decode cX8_readCock 0 = .ok (.aload_n 0, 1) := by decide +kernel
theorem dX8_readCock_1 : decode cX8_readCock 1 = .ok (.getfield 53, 3) := by decide +kernel
theorem dX8_readCock_4 : decode cX8_readCock 4 = .ok (.aload_n 0, 1) := by decide +kernel
theorem dX8_readCock_5 : decode cX8_readCock 5 = .ok (.getfield 122, 3) := by decide +kernel
theorem dX8_readCock_8 : decode cX8_readCock 8 = .ok (.aload_n 0, 1) := by decide +kernel
theorem dX8_readCock_9 : decode cX8_readCock 9 = .ok (.iconst 0, 1) := by decide +kernel
theorem dX8_readCock_10 : decode cX8_readCock 10 = .ok (.bipush 23, 2) := by decide +kernel
theorem dX8_readCock_12 : decode cX8_readCock 12 = .ok (.invokevirtual 118, 3) := by decide +kernel
theorem dX8_readCock_15 : decode cX8_readCock 15 = .ok (.iastore, 1) := by decide +kernel
theorem dX8_readCock_16 : decode cX8_readCock 16 = .ok (.aload_n 0, 1) := by decide +kernel
theorem dX8_readCock_17 : decode cX8_readCock 17 = .ok (.getfield 56, 3) := by decide +kernel
theorem dX8_readCock_20 : decode cX8_readCock 20 = .ok (.aload_n 0, 1) := by decide +kernel
theorem dX8_readCock_21 : decode cX8_readCock 21 = .ok (.getfield 122, 3) := by decide +kernel
theorem dX8_readCock_24 : decode cX8_readCock 24 = .ok (.aload_n 0, 1) := by decide +kernel
theorem dX8_readCock_25 : decode cX8_readCock 25 = .ok (.iconst 1, 1) := by decide +kernel
theorem dX8_readCock_26 : decode cX8_readCock 26 = .ok (.iconst 5, 1) := by decide +kernel
theorem dX8_readCock_27 : decode cX8_readCock 27 = .ok (.invokevirtual 118, 3) := by decide +kernel
theorem dX8_readCock_30 : decode cX8_readCock 30 = .ok (.iastore, 1) := by decide +kernel
theorem dX8_readCock_31 : decode cX8_readCock 31 = .ok (.aload_n 0, 1) := by decide +kernel
theorem dX8_readCock_32 : decode cX8_readCock 32 = .ok (.getfield 59, 3) := by decide +kernel
theorem dX8_readCock_35 : decode cX8_readCock 35 = .ok (.aload_n 0, 1) := by decide +kernel
theorem dX8_readCock_36 : decode cX8_readCock 36 = .ok (.getfield 122, 3) := by decide +kernel
theorem dX8_readCock_39 : decode cX8_readCock 39 = .ok (.aload_n 0, 1) := by decide +kernel
theorem dX8_readCock_40 : decode cX8_readCock 40 = .ok (.iconst 0, 1) := by decide +kernel
theorem dX8_readCock_41 : decode cX8_readCock 41 = .ok (.iconst 1, 1) := by decide +kernel
theorem dX8_readCock_42 : decode cX8_readCock 42 = .ok (.invokevirtual 118, 3) := by decide +kernel
theorem dX8_readCock_45 : decode cX8_readCock 45 = .ok (.iastore, 1) := by decide +kernel
theorem dX8_readCock_46 : decode cX8_readCock 46 = .ok (.aload_n 0, 1) := by decide +kernel
theorem dX8_readCock_47 : decode cX8_readCock 47 = .ok (.getfield 62, 3) := by decide +kernel
theorem dX8_readCock_50 : decode cX8_readCock 50 = .ok (.aload_n 0, 1) := by decide +kernel
theorem dX8_readCock_51 : decode cX8_readCock 51 = .ok (.getfield 122, 3) := by decide +kernel
theorem dX8_readCock_54 : decode cX8_readCock 54 = .ok (.aload_n 0, 1) := by decide +kernel
theorem dX8_readCock_55 : decode cX8_readCock 55 = .ok (.iconst 0, 1) := by decide +kernel
theorem dX8_readCock_56 : decode cX8_readCock 56 = .ok (.bipush 9, 2) := by decide +kernel
theorem dX8_readCock_58 : decode cX8_readCock 58 = .ok (.invokevirtual 118, 3) := by decide +kernel
theorem dX8_readCock_61 : decode cX8_readCock 61 = .ok (.iastore, 1) := by decide +kernel
theorem dX8_readCock_62 : decode cX8_readCock 62 = .ok (.aload_n 0, 1) := by decide +kernel
theorem dX8_readCock_63 : decode cX8_readCock 63 = .ok (.dup, 1) := by decide +kernel
theorem dX8_readCock_64 : decode cX8_readCock 64 = .ok (.getfield 122, 3) := by decide +kernel
theorem dX8_readCock_67 : decode cX8_readCock 67 = .ok (.iconst 1, 1) := by decide +kernel
theorem dX8_readCock_68 : decode cX8_readCock 68 = .ok (.iadd, 1) := by decide +kernel
theorem dX8_readCock_69 : decode cX8_readCock 69 = .ok (.putfield 122, 3) := by decide +kernel
theorem dX8_readCock_72 : decode cX8_readCock 72 = .ok (.return_, 1) := by decide +kernel
theorem dX8_readOne_0 : decode cX8_readOne 0 = .ok (.aload_n 0, 1) := by decide +kernel
theorem dX8_readOne_1 : decode cX8_readOne 1 = .ok (.getfield 65, 3) := by decide +kernel
theorem dX8_readOne_4 : decode cX8_readOne 4 = .ok (.aload_n 0, 1) := by decide +kernel
theorem dX8_readOne_5 : decode cX8_readOne 5 = .ok (.getfield 125, 3) := by decide +kernel
theorem dX8_readOne_8 : decode cX8_readOne 8 = .ok (.aload_n 0, 1) := by decide +kernel
theorem dX8_readOne_9 : decode cX8_readOne 9 = .ok (.iconst 0, 1) := by decide +kernel
theorem dX8_readOne_10 : decode cX8_readOne 10 = .ok (.bipush 23, 2) := by decide +kernel
theorem dX8_readOne_12 : decode cX8_readOne 12 = .ok (.invokevirtual 118, 3) := by decide +kernel
theorem dX8_readOne_15 : decode cX8_readOne 15 = .ok (.iastore, 1) := by decide +kernel
theorem dX8_readOne_16 : decode cX8_readOne 16 = .ok (.aload_n 0, 1) := by decide +kernel
theorem dX8_readOne_17 : decode cX8_readOne 17 = .ok (.getfield 68, 3) := by decide +kernel
theorem dX8_readOne_20 : decode cX8_readOne 20 = .ok (.aload_n 0, 1) := by decide +kernel
theorem dX8_readOne_21 : decode cX8_readOne 21 = .ok (.getfield 125, 3) := by decide +kernel
theorem dX8_readOne_24 : decode cX8_readOne 24 = .ok (.aload_n 0, 1) := by decide +kernel
theorem dX8_readOne_25 : decode cX8_readOne 25 = .ok (.iconst 0, 1) := by decide +kernel
theorem dX8_readOne_26 : decode cX8_readOne 26 = .ok (.bipush 6, 2) := by decide +kernel
theorem dX8_readOne_28 : decode cX8_readOne 28 = .ok (.invokevirtual 118, 3) := by decide +kernel
theorem dX8_readOne_31 : decode cX8_readOne 31 = .ok (.iconst 3, 1) := by decide +kernel
theorem dX8_readOne_32 : decode cX8_readOne 32 = .ok (.isub, 1) := by decide +kernel
theorem dX8_readOne_33 : decode cX8_readOne 33 = .ok (.iastore, 1) := by decide +kernel
theorem dX8_readOne_34 : decode cX8_readOne 34 = .ok (.aload_n 0, 1) := by decide +kernel
theorem dX8_readOne_35 : decode cX8_readOne 35 = .ok (.dup, 1) := by decide +kernel
theorem dX8_readOne_36 : decode cX8_readOne 36 = .ok (.getfield 125, 3) := by decide +kernel
theorem dX8_readOne_39 : decode cX8_readOne 39 = .ok (.iconst 1, 1) := by decide +kernel
theorem dX8_readOne_40 : decode cX8_readOne 40 = .ok (.iadd, 1) := by decide +kernel
theorem dX8_readOne_41 : decode cX8_readOne 41 = .ok (.putfield 125, 3) := by decide +kernel
theorem dX8_readOne_44 : decode cX8_readOne 44 = .ok (.return_, 1) := by decide +kernel
theorem dX8_readSmoke_0 : decode cX8_readSmoke 0 = .ok (.iconst 3, 1) := by decide +kernel
theorem dX8_readSmoke_1 : decode cX8_readSmoke 1 = .ok (.aload_n 0, 1) := by decide +kernel
theorem dX8_readSmoke_2 : decode cX8_readSmoke 2 = .ok (.getfield 128, 3) := by decide +kernel
theorem dX8_readSmoke_5 : decode cX8_readSmoke 5 = .ok (.imul, 1) := by decide +kernel
theorem dX8_readSmoke_6 : decode cX8_readSmoke 6 = .ok (.istore_n 1, 1) := by decide +kernel
theorem dX8_readSmoke_7 : decode cX8_readSmoke 7 = .ok (.aload_n 0, 1) := by decide +kernel
theorem dX8_readSmoke_8 : decode cX8_readSmoke 8 = .ok (.getfield 71, 3) := by decide +kernel
theorem dX8_readSmoke_11 : decode cX8_readSmoke 11 = .ok (.iload_n 1, 1) := by decide +kernel
theorem dX8_readSmoke_12 : decode cX8_readSmoke 12 = .ok (.aload_n 0, 1) := by decide +kernel
theorem dX8_readSmoke_13 : decode cX8_readSmoke 13 = .ok (.iconst 0, 1) := by decide +kernel
theorem dX8_readSmoke_14 : decode cX8_readSmoke 14 = .ok (.bipush 23, 2) := by decide +kernel
theorem dX8_readSmoke_16 : decode cX8_readSmoke 16 = .ok (.invokevirtual 118, 3) := by decide +kernel
theorem dX8_readSmoke_19 : decode cX8_readSmoke 19 = .ok (.iastore, 1) := by decide +kernel
theorem dX8_readSmoke_20 : decode cX8_readSmoke 20 = .ok (.aload_n 0, 1) := by decide +kernel
theorem dX8_readSmoke_21 : decode cX8_readSmoke 21 = .ok (.getfield 71, 3) := by decide +kernel
theorem dX8_readSmoke_24 : decode cX8_readSmoke 24 = .ok (.iload_n 1, 1) := by decide +kernel
theorem dX8_readSmoke_25 : decode cX8_readSmoke 25 = .ok (.iconst 1, 1) := by decide +kernel
theorem dX8_readSmoke_26 : decode cX8_readSmoke 26 = .ok (.iadd, 1) := by decide +kernel
theorem dX8_readSmoke_27 : decode cX8_readSmoke 27 = .ok (.aload_n 0, 1) := by decide +kernel
theorem dX8_readSmoke_28 : decode cX8_readSmoke 28 = .ok (.iconst 0, 1) := by decide +kernel
theorem dX8_readSmoke_29 : decode cX8_readSmoke 29 = .ok (.bipush 29, 2) := by decide +kernel
theorem dX8_readSmoke_31 : decode cX8_readSmoke 31 = .ok (.invokevirtual 118, 3) := by decide +kernel
theorem dX8_readSmoke_34 : decode cX8_readSmoke 34 = .ok (.iastore, 1) := by decide +kernel
theorem dX8_readSmoke_35 : decode cX8_readSmoke 35 = .ok (.aload_n 0, 1) := by decide +kernel
theorem dX8_readSmoke_36 : decode cX8_readSmoke 36 = .ok (.getfield 71, 3) := by decide +kernel
theorem dX8_readSmoke_39 : decode cX8_readSmoke 39 = .ok (.iload_n 1, 1) := by decide +kernel
theorem dX8_readSmoke_40 : decode cX8_readSmoke 40 = .ok (.iconst 2, 1) := by decide +kernel
theorem dX8_readSmoke_41 : decode cX8_readSmoke 41 = .ok (.iadd, 1) := by decide +kernel
theorem dX8_readSmoke_42 : decode cX8_readSmoke 42 = .ok (.aload_n 0, 1) := by decide +kernel
theorem dX8_readSmoke_43 : decode cX8_readSmoke 43 = .ok (.aload_n 0, 1) := by decide +kernel
theorem dX8_readSmoke_44 : decode cX8_readSmoke 44 = .ok (.getfield 71, 3) := by decide +kernel
theorem dX8_readSmoke_47 : decode cX8_readSmoke 47 = .ok (.iload_n 1, 1) := by decide +kernel
theorem dX8_readSmoke_48 : decode cX8_readSmoke 48 = .ok (.iconst 1, 1) := by decide +kernel
theorem dX8_readSmoke_49 : decode cX8_readSmoke 49 = .ok (.iadd, 1) := by decide +kernel
theorem dX8_readSmoke_50 : decode cX8_readSmoke 50 = .ok (.iaload, 1) := by decide +kernel
theorem dX8_readSmoke_51 : decode cX8_readSmoke 51 = .ok (.bipush 29, 2) := by decide +kernel
theorem dX8_readSmoke_53 : decode cX8_readSmoke 53 = .ok (.invokevirtual 118, 3) := by decide +kernel
theorem dX8_readSmoke_56 : decode cX8_readSmoke 56 = .ok (.iastore, 1) := by decide +kernel
theorem dX8_readSmoke_57 : decode cX8_readSmoke 57 = .ok (.aload_n 0, 1) := by decide +kernel
theorem dX8_readSmoke_58 : decode cX8_readSmoke 58 = .ok (.dup, 1) := by decide +kernel
theorem dX8_readSmoke_59 : decode cX8_readSmoke 59 = .ok (.getfield 128, 3) := by decide +kernel
theorem dX8_readSmoke_62 : decode cX8_readSmoke 62 = .ok (.iconst 1, 1) := by decide +kernel
theorem dX8_readSmoke_63 : decode cX8_readSmoke 63 = .ok (.iadd, 1) := by decide +kernel
theorem dX8_readSmoke_64 : decode cX8_readSmoke 64 = .ok (.putfield 128, 3) := by decide +kernel
theorem dX8_readSmoke_67 : decode cX8_readSmoke 67 = .ok (.return_, 1) := by decide +kernel
theorem dX8_mayBegin_0 : decode cX8_mayBegin 0 = .ok (.iload_n 1, 1) := by decide +kernel
theorem dX8_mayBegin_1 : decode cX8_mayBegin 1 = .ok (.lookupswitch 87 #[(99, 45), (112, 59), (114, 43), (115, 73)], 43) := by decide +kernel
theorem dX8_mayBegin_44 : decode cX8_mayBegin 44 = .ok (.iconst 1, 1) := by decide +kernel
theorem dX8_mayBegin_45 : decode cX8_mayBegin 45 = .ok (.ireturn, 1) := by decide +kernel
theorem dX8_mayBegin_46 : decode cX8_mayBegin 46 = .ok (.aload_n 0, 1) := by decide +kernel
theorem dX8_mayBegin_47 : decode cX8_mayBegin 47 = .ok (.getfield 122, 3) := by decide +kernel
theorem dX8_mayBegin_50 : decode cX8_mayBegin 50 = .ok (.iconst 5, 1) := by decide +kernel
theorem dX8_mayBegin_51 : decode cX8_mayBegin 51 = .ok (.if_icmp .ge 7, 3) := by decide +kernel
theorem dX8_mayBegin_54 : decode cX8_mayBegin 54 = .ok (.iconst 1, 1) := by decide +kernel
theorem dX8_mayBegin_55 : decode cX8_mayBegin 55 = .ok (.goto 4, 3) := by decide +kernel
theorem dX8_mayBegin_58 : decode cX8_mayBegin 58 = .ok (.iconst 0, 1) := by decide +kernel
theorem dX8_mayBegin_59 : decode cX8_mayBegin 59 = .ok (.ireturn, 1) := by decide +kernel
theorem dX8_mayBegin_60 : decode cX8_mayBegin 60 = .ok (.aload_n 0, 1) := by decide +kernel
theorem dX8_mayBegin_61 : decode cX8_mayBegin 61 = .ok (.getfield 125, 3) := by decide +kernel
theorem dX8_mayBegin_64 : decode cX8_mayBegin 64 = .ok (.iconst 4, 1) := by decide +kernel
theorem dX8_mayBegin_65 : decode cX8_mayBegin 65 = .ok (.if_icmp .ge 7, 3) := by decide +kernel
theorem dX8_mayBegin_68 : decode cX8_mayBegin 68 = .ok (.iconst 1, 1) := by decide +kernel
theorem dX8_mayBegin_69 : decode cX8_mayBegin 69 = .ok (.goto 4, 3) := by decide +kernel
theorem dX8_mayBegin_72 : decode cX8_mayBegin 72 = .ok (.iconst 0, 1) := by decide +kernel
theorem dX8_mayBegin_73 : decode cX8_mayBegin 73 = .ok (.ireturn, 1) := by decide +kernel
theorem dX8_mayBegin_74 : decode cX8_mayBegin 74 = .ok (.aload_n 0, 1) := by decide +kernel
theorem dX8_mayBegin_75 : decode cX8_mayBegin 75 = .ok (.getfield 128, 3) := by decide +kernel
theorem dX8_mayBegin_78 : decode cX8_mayBegin 78 = .ok (.iconst 4, 1) := by decide +kernel
theorem dX8_mayBegin_79 : decode cX8_mayBegin 79 = .ok (.if_icmp .ge 7, 3) := by decide +kernel
theorem dX8_mayBegin_82 : decode cX8_mayBegin 82 = .ok (.iconst 1, 1) := by decide +kernel
theorem dX8_mayBegin_83 : decode cX8_mayBegin 83 = .ok (.goto 4, 3) := by decide +kernel
theorem dX8_mayBegin_86 : decode cX8_mayBegin 86 = .ok (.iconst 0, 1) := by decide +kernel
theorem dX8_mayBegin_87 : decode cX8_mayBegin 87 = .ok (.ireturn, 1) := by decide +kernel
theorem dX8_mayBegin_88 : decode cX8_mayBegin 88 = .ok (.iconst 0, 1) := by decide +kernel
theorem dX8_mayBegin_89 : decode cX8_mayBegin 89 = .ok (.ireturn, 1) := by decide +kernel
theorem dX8_readBody_0 : decode cX8_readBody 0 = .ok (.iload_n 1, 1) := by decide +kernel
theorem dX8_readBody_1 : decode cX8_readBody 1 = .ok (.lookupswitch 56 #[(99, 42), (112, 49), (114, 35)], 35) := by decide +kernel
theorem dX8_readBody_36 : decode cX8_readBody 36 = .ok (.aload_n 0, 1) := by decide +kernel
theorem dX8_readBody_37 : decode cX8_readBody 37 = .ok (.invokevirtual 131, 3) := by decide +kernel
theorem dX8_readBody_40 : decode cX8_readBody 40 = .ok (.goto 21, 3) := by decide +kernel
theorem dX8_readBody_43 : decode cX8_readBody 43 = .ok (.aload_n 0, 1) := by decide +kernel
theorem dX8_readBody_44 : decode cX8_readBody 44 = .ok (.invokevirtual 134, 3) := by decide +kernel
theorem dX8_readBody_47 : decode cX8_readBody 47 = .ok (.goto 14, 3) := by decide +kernel
theorem dX8_readBody_50 : decode cX8_readBody 50 = .ok (.aload_n 0, 1) := by decide +kernel
theorem dX8_readBody_51 : decode cX8_readBody 51 = .ok (.invokevirtual 137, 3) := by decide +kernel
theorem dX8_readBody_54 : decode cX8_readBody 54 = .ok (.goto 7, 3) := by decide +kernel
theorem dX8_readBody_57 : decode cX8_readBody 57 = .ok (.aload_n 0, 1) := by decide +kernel
theorem dX8_readBody_58 : decode cX8_readBody 58 = .ok (.invokevirtual 140, 3) := by decide +kernel
theorem dX8_readBody_61 : decode cX8_readBody 61 = .ok (.return_, 1) := by decide +kernel
theorem dX8_readItem_0 : decode cX8_readItem 0 = .ok (.aload_n 0, 1) := by decide +kernel
theorem dX8_readItem_1 : decode cX8_readItem 1 = .ok (.getfield 98, 3) := by decide +kernel
theorem dX8_readItem_4 : decode cX8_readItem 4 = .ok (.istore_n 1, 1) := by decide +kernel
theorem dX8_readItem_5 : decode cX8_readItem 5 = .ok (.aload_n 0, 1) := by decide +kernel
theorem dX8_readItem_6 : decode cX8_readItem 6 = .ok (.getfield 101, 3) := by decide +kernel
theorem dX8_readItem_9 : decode cX8_readItem 9 = .ok (.iconst 1, 1) := by decide +kernel
theorem dX8_readItem_10 : decode cX8_readItem 10 = .ok (.if_icmp .ne 11, 3) := by decide +kernel
theorem dX8_readItem_13 : decode cX8_readItem 13 = .ok (.aload_n 0, 1) := by decide +kernel
theorem dX8_readItem_14 : decode cX8_readItem 14 = .ok (.iload_n 1, 1) := by decide +kernel
theorem dX8_readItem_15 : decode cX8_readItem 15 = .ok (.invokevirtual 143, 3) := by decide +kernel
theorem dX8_readItem_18 : decode cX8_readItem 18 = .ok (.ifCond .ne 9, 3) := by decide +kernel
theorem dX8_readItem_21 : decode cX8_readItem 21 = .ok (.aload_n 0, 1) := by decide +kernel
theorem dX8_readItem_22 : decode cX8_readItem 22 = .ok (.iconst 1, 1) := by decide +kernel
theorem dX8_readItem_23 : decode cX8_readItem 23 = .ok (.putfield 111, 3) := by decide +kernel
theorem dX8_readItem_26 : decode cX8_readItem 26 = .ok (.return_, 1) := by decide +kernel
theorem dX8_readItem_27 : decode cX8_readItem 27 = .ok (.aload_n 0, 1) := by decide +kernel
theorem dX8_readItem_28 : decode cX8_readItem 28 = .ok (.invokevirtual 115, 3) := by decide +kernel
theorem dX8_readItem_31 : decode cX8_readItem 31 = .ok (.aload_n 0, 1) := by decide +kernel
theorem dX8_readItem_32 : decode cX8_readItem 32 = .ok (.iload_n 1, 1) := by decide +kernel
theorem dX8_readItem_33 : decode cX8_readItem 33 = .ok (.invokevirtual 146, 3) := by decide +kernel
theorem dX8_readItem_36 : decode cX8_readItem 36 = .ok (.aload_n 0, 1) := by decide +kernel
theorem dX8_readItem_37 : decode cX8_readItem 37 = .ok (.aload_n 0, 1) := by decide +kernel
theorem dX8_readItem_38 : decode cX8_readItem 38 = .ok (.getfield 111, 3) := by decide +kernel
theorem dX8_readItem_41 : decode cX8_readItem 41 = .ok (.ifCond .ne 11, 3) := by decide +kernel
theorem dX8_readItem_44 : decode cX8_readItem 44 = .ok (.aload_n 0, 1) := by decide +kernel
theorem dX8_readItem_45 : decode cX8_readItem 45 = .ok (.getfield 101, 3) := by decide +kernel
theorem dX8_readItem_48 : decode cX8_readItem 48 = .ok (.iconst 3, 1) := by decide +kernel
theorem dX8_readItem_49 : decode cX8_readItem 49 = .ok (.if_icmp .eq 7, 3) := by decide +kernel
theorem dX8_readItem_52 : decode cX8_readItem 52 = .ok (.iconst 1, 1) := by decide +kernel
theorem dX8_readItem_53 : decode cX8_readItem 53 = .ok (.goto 4, 3) := by decide +kernel
theorem dX8_readItem_56 : decode cX8_readItem 56 = .ok (.iconst 0, 1) := by decide +kernel
theorem dX8_readItem_57 : decode cX8_readItem 57 = .ok (.putfield 111, 3) := by decide +kernel
theorem dX8_readItem_60 : decode cX8_readItem 60 = .ok (.aload_n 0, 1) := by decide +kernel
theorem dX8_readItem_61 : decode cX8_readItem 61 = .ok (.getfield 111, 3) := by decide +kernel
theorem dX8_readItem_64 : decode cX8_readItem 64 = .ok (.ifCond .ne 7, 3) := by decide +kernel
theorem dX8_readItem_67 : decode cX8_readItem 67 = .ok (.aload_n 0, 1) := by decide +kernel
theorem dX8_readItem_68 : decode cX8_readItem 68 = .ok (.invokevirtual 115, 3) := by decide +kernel
theorem dX8_readItem_71 : decode cX8_readItem 71 = .ok (.return_, 1) := by decide +kernel
theorem dX8_diocese_0 : decode cX8_diocese 0 = .ok (.aload_n 0, 1) := by decide +kernel
theorem dX8_diocese_1 : decode cX8_diocese 1 = .ok (.iconst 0, 1) := by decide +kernel
theorem dX8_diocese_2 : decode cX8_diocese 2 = .ok (.putfield 88, 3) := by decide +kernel
theorem dX8_diocese_5 : decode cX8_diocese 5 = .ok (.aload_n 0, 1) := by decide +kernel
theorem dX8_diocese_6 : decode cX8_diocese 6 = .ok (.iconst 0, 1) := by decide +kernel
theorem dX8_diocese_7 : decode cX8_diocese 7 = .ok (.putfield 111, 3) := by decide +kernel
theorem dX8_diocese_10 : decode cX8_diocese 10 = .ok (.aload_n 0, 1) := by decide +kernel
theorem dX8_diocese_11 : decode cX8_diocese 11 = .ok (.iconst 0, 1) := by decide +kernel
theorem dX8_diocese_12 : decode cX8_diocese 12 = .ok (.putfield 150, 3) := by decide +kernel
theorem dX8_diocese_15 : decode cX8_diocese 15 = .ok (.aload_n 0, 1) := by decide +kernel
theorem dX8_diocese_16 : decode cX8_diocese 16 = .ok (.iconst 0, 1) := by decide +kernel
theorem dX8_diocese_17 : decode cX8_diocese 17 = .ok (.putfield 122, 3) := by decide +kernel
theorem dX8_diocese_20 : decode cX8_diocese 20 = .ok (.aload_n 0, 1) := by decide +kernel
theorem dX8_diocese_21 : decode cX8_diocese 21 = .ok (.iconst 0, 1) := by decide +kernel
theorem dX8_diocese_22 : decode cX8_diocese 22 = .ok (.putfield 125, 3) := by decide +kernel
theorem dX8_diocese_25 : decode cX8_diocese 25 = .ok (.aload_n 0, 1) := by decide +kernel
theorem dX8_diocese_26 : decode cX8_diocese 26 = .ok (.iconst 0, 1) := by decide +kernel
theorem dX8_diocese_27 : decode cX8_diocese 27 = .ok (.putfield 128, 3) := by decide +kernel
theorem dX8_diocese_30 : decode cX8_diocese 30 = .ok (.iconst 0, 1) := by decide +kernel
theorem dX8_diocese_31 : decode cX8_diocese 31 = .ok (.istore_n 1, 1) := by decide +kernel
theorem dX8_diocese_32 : decode cX8_diocese 32 = .ok (.iload_n 1, 1) := by decide +kernel
theorem dX8_diocese_33 : decode cX8_diocese 33 = .ok (.bipush 24, 2) := by decide +kernel
theorem dX8_diocese_35 : decode cX8_diocese 35 = .ok (.if_icmp .ge 16, 3) := by decide +kernel
theorem dX8_diocese_38 : decode cX8_diocese 38 = .ok (.aload_n 0, 1) := by decide +kernel
theorem dX8_diocese_39 : decode cX8_diocese 39 = .ok (.getfield 50, 3) := by decide +kernel
theorem dX8_diocese_42 : decode cX8_diocese 42 = .ok (.iload_n 1, 1) := by decide +kernel
theorem dX8_diocese_43 : decode cX8_diocese 43 = .ok (.iconst 0, 1) := by decide +kernel
theorem dX8_diocese_44 : decode cX8_diocese 44 = .ok (.iastore, 1) := by decide +kernel
theorem dX8_diocese_45 : decode cX8_diocese 45 = .ok (.iinc 1 1, 3) := by decide +kernel
theorem dX8_diocese_48 : decode cX8_diocese 48 = .ok (.goto (-16), 3) := by decide +kernel
theorem dX8_diocese_51 : decode cX8_diocese 51 = .ok (.aload_n 0, 1) := by decide +kernel
theorem dX8_diocese_52 : decode cX8_diocese 52 = .ok (.invokevirtual 115, 3) := by decide +kernel
theorem dX8_diocese_55 : decode cX8_diocese 55 = .ok (.aload_n 0, 1) := by decide +kernel
theorem dX8_diocese_56 : decode cX8_diocese 56 = .ok (.getfield 101, 3) := by decide +kernel
theorem dX8_diocese_59 : decode cX8_diocese 59 = .ok (.ifCond .eq 27, 3) := by decide +kernel
theorem dX8_diocese_62 : decode cX8_diocese 62 = .ok (.aload_n 0, 1) := by decide +kernel
theorem dX8_diocese_63 : decode cX8_diocese 63 = .ok (.getfield 111, 3) := by decide +kernel
theorem dX8_diocese_66 : decode cX8_diocese 66 = .ok (.ifCond .ne 20, 3) := by decide +kernel
theorem dX8_diocese_69 : decode cX8_diocese 69 = .ok (.aload_n 0, 1) := by decide +kernel
theorem dX8_diocese_70 : decode cX8_diocese 70 = .ok (.invokevirtual 153, 3) := by decide +kernel
theorem dX8_diocese_73 : decode cX8_diocese 73 = .ok (.aload_n 0, 1) := by decide +kernel
theorem dX8_diocese_74 : decode cX8_diocese 74 = .ok (.dup, 1) := by decide +kernel
theorem dX8_diocese_75 : decode cX8_diocese 75 = .ok (.getfield 150, 3) := by decide +kernel
theorem dX8_diocese_78 : decode cX8_diocese 78 = .ok (.iconst 1, 1) := by decide +kernel
theorem dX8_diocese_79 : decode cX8_diocese 79 = .ok (.iadd, 1) := by decide +kernel
theorem dX8_diocese_80 : decode cX8_diocese 80 = .ok (.putfield 150, 3) := by decide +kernel
theorem dX8_diocese_83 : decode cX8_diocese 83 = .ok (.goto (-28), 3) := by decide +kernel
theorem dX8_diocese_86 : decode cX8_diocese 86 = .ok (.aload_n 0, 1) := by decide +kernel
theorem dX8_diocese_87 : decode cX8_diocese 87 = .ok (.getfield 111, 3) := by decide +kernel
theorem dX8_diocese_90 : decode cX8_diocese 90 = .ok (.ifCond .eq 11, 3) := by decide +kernel
theorem dX8_diocese_93 : decode cX8_diocese 93 = .ok (.bipush (-10), 2) := by decide +kernel
theorem dX8_diocese_95 : decode cX8_diocese 95 = .ok (.aload_n 0, 1) := by decide +kernel
theorem dX8_diocese_96 : decode cX8_diocese 96 = .ok (.getfield 95, 3) := by decide +kernel
theorem dX8_diocese_99 : decode cX8_diocese 99 = .ok (.isub, 1) := by decide +kernel
theorem dX8_diocese_100 : decode cX8_diocese 100 = .ok (.ireturn, 1) := by decide +kernel
theorem dX8_diocese_101 : decode cX8_diocese 101 = .ok (.aload_n 0, 1) := by decide +kernel
theorem dX8_diocese_102 : decode cX8_diocese 102 = .ok (.invokevirtual 156, 3) := by decide +kernel
theorem dX8_diocese_105 : decode cX8_diocese 105 = .ok (.aload_n 0, 1) := by decide +kernel
theorem dX8_diocese_106 : decode cX8_diocese 106 = .ok (.getfield 150, 3) := by decide +kernel
theorem dX8_diocese_109 : decode cX8_diocese 109 = .ok (.ireturn, 1) := by decide +kernel
theorem dX8_settles_0 : decode cX8_settles 0 = .ok (.aload_n 0, 1) := by decide +kernel
theorem dX8_settles_1 : decode cX8_settles 1 = .ok (.aload_n 0, 1) := by decide +kernel
theorem dX8_settles_2 : decode cX8_settles 2 = .ok (.getfield 122, 3) := by decide +kernel
theorem dX8_settles_5 : decode cX8_settles 5 = .ok (.putfield 74, 3) := by decide +kernel
theorem dX8_settles_8 : decode cX8_settles 8 = .ok (.aload_n 0, 1) := by decide +kernel
theorem dX8_settles_9 : decode cX8_settles 9 = .ok (.aload_n 0, 1) := by decide +kernel
theorem dX8_settles_10 : decode cX8_settles 10 = .ok (.getfield 125, 3) := by decide +kernel
theorem dX8_settles_13 : decode cX8_settles 13 = .ok (.putfield 82, 3) := by decide +kernel
theorem dX8_settles_16 : decode cX8_settles 16 = .ok (.aload_n 0, 1) := by decide +kernel
theorem dX8_settles_17 : decode cX8_settles 17 = .ok (.aload_n 0, 1) := by decide +kernel
theorem dX8_settles_18 : decode cX8_settles 18 = .ok (.getfield 128, 3) := by decide +kernel
theorem dX8_settles_21 : decode cX8_settles 21 = .ok (.putfield 159, 3) := by decide +kernel
theorem dX8_settles_24 : decode cX8_settles 24 = .ok (.iconst 0, 1) := by decide +kernel
theorem dX8_settles_25 : decode cX8_settles 25 = .ok (.istore_n 1, 1) := by decide +kernel
theorem dX8_settles_26 : decode cX8_settles 26 = .ok (.iload_n 1, 1) := by decide +kernel
theorem dX8_settles_27 : decode cX8_settles 27 = .ok (.iconst 5, 1) := by decide +kernel
theorem dX8_settles_28 : decode cX8_settles 28 = .ok (.if_icmp .ge 57, 3) := by decide +kernel
theorem dX8_settles_31 : decode cX8_settles 31 = .ok (.aload_n 0, 1) := by decide +kernel
theorem dX8_settles_32 : decode cX8_settles 32 = .ok (.getfield 7, 3) := by decide +kernel
theorem dX8_settles_35 : decode cX8_settles 35 = .ok (.iload_n 1, 1) := by decide +kernel
theorem dX8_settles_36 : decode cX8_settles 36 = .ok (.aload_n 0, 1) := by decide +kernel
theorem dX8_settles_37 : decode cX8_settles 37 = .ok (.getfield 53, 3) := by decide +kernel
theorem dX8_settles_40 : decode cX8_settles 40 = .ok (.iload_n 1, 1) := by decide +kernel
theorem dX8_settles_41 : decode cX8_settles 41 = .ok (.iaload, 1) := by decide +kernel
theorem dX8_settles_42 : decode cX8_settles 42 = .ok (.iastore, 1) := by decide +kernel
theorem dX8_settles_43 : decode cX8_settles 43 = .ok (.aload_n 0, 1) := by decide +kernel
theorem dX8_settles_44 : decode cX8_settles 44 = .ok (.getfield 13, 3) := by decide +kernel
theorem dX8_settles_47 : decode cX8_settles 47 = .ok (.iload_n 1, 1) := by decide +kernel
theorem dX8_settles_48 : decode cX8_settles 48 = .ok (.aload_n 0, 1) := by decide +kernel
theorem dX8_settles_49 : decode cX8_settles 49 = .ok (.getfield 56, 3) := by decide +kernel
theorem dX8_settles_52 : decode cX8_settles 52 = .ok (.iload_n 1, 1) := by decide +kernel
theorem dX8_settles_53 : decode cX8_settles 53 = .ok (.iaload, 1) := by decide +kernel
theorem dX8_settles_54 : decode cX8_settles 54 = .ok (.iastore, 1) := by decide +kernel
theorem dX8_settles_55 : decode cX8_settles 55 = .ok (.aload_n 0, 1) := by decide +kernel
theorem dX8_settles_56 : decode cX8_settles 56 = .ok (.getfield 16, 3) := by decide +kernel
theorem dX8_settles_59 : decode cX8_settles 59 = .ok (.iload_n 1, 1) := by decide +kernel
theorem dX8_settles_60 : decode cX8_settles 60 = .ok (.aload_n 0, 1) := by decide +kernel
theorem dX8_settles_61 : decode cX8_settles 61 = .ok (.getfield 59, 3) := by decide +kernel
theorem dX8_settles_64 : decode cX8_settles 64 = .ok (.iload_n 1, 1) := by decide +kernel
theorem dX8_settles_65 : decode cX8_settles 65 = .ok (.iaload, 1) := by decide +kernel
theorem dX8_settles_66 : decode cX8_settles 66 = .ok (.iastore, 1) := by decide +kernel
theorem dX8_settles_67 : decode cX8_settles 67 = .ok (.aload_n 0, 1) := by decide +kernel
theorem dX8_settles_68 : decode cX8_settles 68 = .ok (.getfield 19, 3) := by decide +kernel
theorem dX8_settles_71 : decode cX8_settles 71 = .ok (.iload_n 1, 1) := by decide +kernel
theorem dX8_settles_72 : decode cX8_settles 72 = .ok (.aload_n 0, 1) := by decide +kernel
theorem dX8_settles_73 : decode cX8_settles 73 = .ok (.getfield 62, 3) := by decide +kernel
theorem dX8_settles_76 : decode cX8_settles 76 = .ok (.iload_n 1, 1) := by decide +kernel
theorem dX8_settles_77 : decode cX8_settles 77 = .ok (.iaload, 1) := by decide +kernel
theorem dX8_settles_78 : decode cX8_settles 78 = .ok (.iastore, 1) := by decide +kernel
theorem dX8_settles_79 : decode cX8_settles 79 = .ok (.iinc 1 1, 3) := by decide +kernel
theorem dX8_settles_82 : decode cX8_settles 82 = .ok (.goto (-56), 3) := by decide +kernel
theorem dX8_settles_85 : decode cX8_settles 85 = .ok (.iconst 0, 1) := by decide +kernel
theorem dX8_settles_86 : decode cX8_settles 86 = .ok (.istore_n 1, 1) := by decide +kernel
theorem dX8_settles_87 : decode cX8_settles 87 = .ok (.iload_n 1, 1) := by decide +kernel
theorem dX8_settles_88 : decode cX8_settles 88 = .ok (.iconst 4, 1) := by decide +kernel
theorem dX8_settles_89 : decode cX8_settles 89 = .ok (.if_icmp .ge 33, 3) := by decide +kernel
theorem dX8_settles_92 : decode cX8_settles 92 = .ok (.aload_n 0, 1) := by decide +kernel
theorem dX8_settles_93 : decode cX8_settles 93 = .ok (.getfield 22, 3) := by decide +kernel
theorem dX8_settles_96 : decode cX8_settles 96 = .ok (.iload_n 1, 1) := by decide +kernel
theorem dX8_settles_97 : decode cX8_settles 97 = .ok (.aload_n 0, 1) := by decide +kernel
theorem dX8_settles_98 : decode cX8_settles 98 = .ok (.getfield 65, 3) := by decide +kernel
theorem dX8_settles_101 : decode cX8_settles 101 = .ok (.iload_n 1, 1) := by decide +kernel
theorem dX8_settles_102 : decode cX8_settles 102 = .ok (.iaload, 1) := by decide +kernel
theorem dX8_settles_103 : decode cX8_settles 103 = .ok (.iastore, 1) := by decide +kernel
theorem dX8_settles_104 : decode cX8_settles 104 = .ok (.aload_n 0, 1) := by decide +kernel
theorem dX8_settles_105 : decode cX8_settles 105 = .ok (.getfield 25, 3) := by decide +kernel
theorem dX8_settles_108 : decode cX8_settles 108 = .ok (.iload_n 1, 1) := by decide +kernel
theorem dX8_settles_109 : decode cX8_settles 109 = .ok (.aload_n 0, 1) := by decide +kernel
theorem dX8_settles_110 : decode cX8_settles 110 = .ok (.getfield 68, 3) := by decide +kernel
theorem dX8_settles_113 : decode cX8_settles 113 = .ok (.iload_n 1, 1) := by decide +kernel
theorem dX8_settles_114 : decode cX8_settles 114 = .ok (.iaload, 1) := by decide +kernel
theorem dX8_settles_115 : decode cX8_settles 115 = .ok (.iastore, 1) := by decide +kernel
theorem dX8_settles_116 : decode cX8_settles 116 = .ok (.iinc 1 1, 3) := by decide +kernel
theorem dX8_settles_119 : decode cX8_settles 119 = .ok (.goto (-32), 3) := by decide +kernel
theorem dX8_settles_122 : decode cX8_settles 122 = .ok (.iconst 0, 1) := by decide +kernel
theorem dX8_settles_123 : decode cX8_settles 123 = .ok (.istore_n 1, 1) := by decide +kernel
theorem dX8_settles_124 : decode cX8_settles 124 = .ok (.iload_n 1, 1) := by decide +kernel
theorem dX8_settles_125 : decode cX8_settles 125 = .ok (.bipush 12, 2) := by decide +kernel
theorem dX8_settles_127 : decode cX8_settles 127 = .ok (.if_icmp .ge 21, 3) := by decide +kernel
theorem dX8_settles_130 : decode cX8_settles 130 = .ok (.aload_n 0, 1) := by decide +kernel
theorem dX8_settles_131 : decode cX8_settles 131 = .ok (.getfield 28, 3) := by decide +kernel
theorem dX8_settles_134 : decode cX8_settles 134 = .ok (.iload_n 1, 1) := by decide +kernel
theorem dX8_settles_135 : decode cX8_settles 135 = .ok (.aload_n 0, 1) := by decide +kernel
theorem dX8_settles_136 : decode cX8_settles 136 = .ok (.getfield 71, 3) := by decide +kernel
theorem dX8_settles_139 : decode cX8_settles 139 = .ok (.iload_n 1, 1) := by decide +kernel
theorem dX8_settles_140 : decode cX8_settles 140 = .ok (.iaload, 1) := by decide +kernel
theorem dX8_settles_141 : decode cX8_settles 141 = .ok (.iastore, 1) := by decide +kernel
theorem dX8_settles_142 : decode cX8_settles 142 = .ok (.iinc 1 1, 3) := by decide +kernel
theorem dX8_settles_145 : decode cX8_settles 145 = .ok (.goto (-21), 3) := by decide +kernel
theorem dX8_settles_148 : decode cX8_settles 148 = .ok (.iconst 0, 1) := by decide +kernel
theorem dX8_settles_149 : decode cX8_settles 149 = .ok (.istore_n 1, 1) := by decide +kernel
theorem dX8_settles_150 : decode cX8_settles 150 = .ok (.iload_n 1, 1) := by decide +kernel
theorem dX8_settles_151 : decode cX8_settles 151 = .ok (.sipush 507, 3) := by decide +kernel
theorem dX8_settles_154 : decode cX8_settles 154 = .ok (.if_icmp .ge 16, 3) := by decide +kernel
theorem dX8_settles_157 : decode cX8_settles 157 = .ok (.aload_n 0, 1) := by decide +kernel
theorem dX8_settles_158 : decode cX8_settles 158 = .ok (.getfield 31, 3) := by decide +kernel
theorem dX8_settles_161 : decode cX8_settles 161 = .ok (.iload_n 1, 1) := by decide +kernel
theorem dX8_settles_162 : decode cX8_settles 162 = .ok (.iconst 0, 1) := by decide +kernel
theorem dX8_settles_163 : decode cX8_settles 163 = .ok (.iastore, 1) := by decide +kernel
theorem dX8_settles_164 : decode cX8_settles 164 = .ok (.iinc 1 1, 3) := by decide +kernel
theorem dX8_settles_167 : decode cX8_settles 167 = .ok (.goto (-17), 3) := by decide +kernel
theorem dX8_settles_170 : decode cX8_settles 170 = .ok (.iconst 0, 1) := by decide +kernel
theorem dX8_settles_171 : decode cX8_settles 171 = .ok (.istore_n 1, 1) := by decide +kernel
theorem dX8_settles_172 : decode cX8_settles 172 = .ok (.iload_n 1, 1) := by decide +kernel
theorem dX8_settles_173 : decode cX8_settles 173 = .ok (.bipush 24, 2) := by decide +kernel
theorem dX8_settles_175 : decode cX8_settles 175 = .ok (.if_icmp .ge 23, 3) := by decide +kernel
theorem dX8_settles_178 : decode cX8_settles 178 = .ok (.aload_n 0, 1) := by decide +kernel
theorem dX8_settles_179 : decode cX8_settles 179 = .ok (.getfield 31, 3) := by decide +kernel
theorem dX8_settles_182 : decode cX8_settles 182 = .ok (.iconst 1, 1) := by decide +kernel
theorem dX8_settles_183 : decode cX8_settles 183 = .ok (.iload_n 1, 1) := by decide +kernel
theorem dX8_settles_184 : decode cX8_settles 184 = .ok (.iadd, 1) := by decide +kernel
theorem dX8_settles_185 : decode cX8_settles 185 = .ok (.aload_n 0, 1) := by decide +kernel
theorem dX8_settles_186 : decode cX8_settles 186 = .ok (.getfield 50, 3) := by decide +kernel
theorem dX8_settles_189 : decode cX8_settles 189 = .ok (.iload_n 1, 1) := by decide +kernel
theorem dX8_settles_190 : decode cX8_settles 190 = .ok (.iaload, 1) := by decide +kernel
theorem dX8_settles_191 : decode cX8_settles 191 = .ok (.iastore, 1) := by decide +kernel
theorem dX8_settles_192 : decode cX8_settles 192 = .ok (.iinc 1 1, 3) := by decide +kernel
theorem dX8_settles_195 : decode cX8_settles 195 = .ok (.goto (-23), 3) := by decide +kernel
theorem dX8_settles_198 : decode cX8_settles 198 = .ok (.aload_n 0, 1) := by decide +kernel
theorem dX8_settles_199 : decode cX8_settles 199 = .ok (.iconst 0, 1) := by decide +kernel
theorem dX8_settles_200 : decode cX8_settles 200 = .ok (.putfield 162, 3) := by decide +kernel
theorem dX8_settles_203 : decode cX8_settles 203 = .ok (.aload_n 0, 1) := by decide +kernel
theorem dX8_settles_204 : decode cX8_settles 204 = .ok (.iconst 0, 1) := by decide +kernel
theorem dX8_settles_205 : decode cX8_settles 205 = .ok (.putfield 165, 3) := by decide +kernel
theorem dX8_settles_208 : decode cX8_settles 208 = .ok (.aload_n 0, 1) := by decide +kernel
theorem dX8_settles_209 : decode cX8_settles 209 = .ok (.getfield 37, 3) := by decide +kernel
theorem dX8_settles_212 : decode cX8_settles 212 = .ok (.iconst 0, 1) := by decide +kernel
theorem dX8_settles_213 : decode cX8_settles 213 = .ok (.iconst 0, 1) := by decide +kernel
theorem dX8_settles_214 : decode cX8_settles 214 = .ok (.bastore, 1) := by decide +kernel
theorem dX8_settles_215 : decode cX8_settles 215 = .ok (.aload_n 0, 1) := by decide +kernel
theorem dX8_settles_216 : decode cX8_settles 216 = .ok (.getfield 37, 3) := by decide +kernel
theorem dX8_settles_219 : decode cX8_settles 219 = .ok (.iconst 1, 1) := by decide +kernel
theorem dX8_settles_220 : decode cX8_settles 220 = .ok (.iconst 0, 1) := by decide +kernel
theorem dX8_settles_221 : decode cX8_settles 221 = .ok (.bastore, 1) := by decide +kernel
theorem dX8_settles_222 : decode cX8_settles 222 = .ok (.aload_n 0, 1) := by decide +kernel
theorem dX8_settles_223 : decode cX8_settles 223 = .ok (.iconst 0, 1) := by decide +kernel
theorem dX8_settles_224 : decode cX8_settles 224 = .ok (.putfield 85, 3) := by decide +kernel
theorem dX8_settles_227 : decode cX8_settles 227 = .ok (.return_, 1) := by decide +kernel
theorem dX8_eye_0 : decode cX8_eye 0 = .ok (.aload_n 0, 1) := by decide +kernel
theorem dX8_eye_1 : decode cX8_eye 1 = .ok (.getfield 31, 3) := by decide +kernel
theorem dX8_eye_4 : decode cX8_eye 4 = .ok (.iconst 1, 1) := by decide +kernel
theorem dX8_eye_5 : decode cX8_eye 5 = .ok (.aload_n 0, 1) := by decide +kernel
theorem dX8_eye_6 : decode cX8_eye 6 = .ok (.getfield 7, 3) := by decide +kernel
theorem dX8_eye_9 : decode cX8_eye 9 = .ok (.iload_n 1, 1) := by decide +kernel
theorem dX8_eye_10 : decode cX8_eye 10 = .ok (.iaload, 1) := by decide +kernel
theorem dX8_eye_11 : decode cX8_eye 11 = .ok (.iadd, 1) := by decide +kernel
theorem dX8_eye_12 : decode cX8_eye 12 = .ok (.iaload, 1) := by decide +kernel
theorem dX8_eye_13 : decode cX8_eye 13 = .ok (.aload_n 0, 1) := by decide +kernel
theorem dX8_eye_14 : decode cX8_eye 14 = .ok (.getfield 13, 3) := by decide +kernel
theorem dX8_eye_17 : decode cX8_eye 17 = .ok (.iload_n 1, 1) := by decide +kernel
theorem dX8_eye_18 : decode cX8_eye 18 = .ok (.iaload, 1) := by decide +kernel
theorem dX8_eye_19 : decode cX8_eye 19 = .ok (.iadd, 1) := by decide +kernel
theorem dX8_eye_20 : decode cX8_eye 20 = .ok (.ireturn, 1) := by decide +kernel
theorem dX8_sideBy_0 : decode cX8_sideBy 0 = .ok (.iload_n 1, 1) := by decide +kernel
theorem dX8_sideBy_1 : decode cX8_sideBy 1 = .ok (.ifCond .le 18, 3) := by decide +kernel
theorem dX8_sideBy_4 : decode cX8_sideBy 4 = .ok (.iload_n 2, 1) := by decide +kernel
theorem dX8_sideBy_5 : decode cX8_sideBy 5 = .ok (.iload_n 1, 1) := by decide +kernel
theorem dX8_sideBy_6 : decode cX8_sideBy 6 = .ok (.idiv, 1) := by decide +kernel
theorem dX8_sideBy_7 : decode cX8_sideBy 7 = .ok (.iconst 2, 1) := by decide +kernel
theorem dX8_sideBy_8 : decode cX8_sideBy 8 = .ok (.irem, 1) := by decide +kernel
theorem dX8_sideBy_9 : decode cX8_sideBy 9 = .ok (.iconst 1, 1) := by decide +kernel
theorem dX8_sideBy_10 : decode cX8_sideBy 10 = .ok (.if_icmp .ne 9, 3) := by decide +kernel
theorem dX8_sideBy_13 : decode cX8_sideBy 13 = .ok (.iconst 1, 1) := by decide +kernel
theorem dX8_sideBy_14 : decode cX8_sideBy 14 = .ok (.iload_n 0, 1) := by decide +kernel
theorem dX8_sideBy_15 : decode cX8_sideBy 15 = .ok (.isub, 1) := by decide +kernel
theorem dX8_sideBy_16 : decode cX8_sideBy 16 = .ok (.goto 4, 3) := by decide +kernel
theorem dX8_sideBy_19 : decode cX8_sideBy 19 = .ok (.iload_n 0, 1) := by decide +kernel
theorem dX8_sideBy_20 : decode cX8_sideBy 20 = .ok (.ireturn, 1) := by decide +kernel
theorem dX8_isAsked_0 : decode cX8_isAsked 0 = .ok (.aload_n 0, 1) := by decide +kernel
theorem dX8_isAsked_1 : decode cX8_isAsked 1 = .ok (.getfield 31, 3) := by decide +kernel
theorem dX8_isAsked_4 : decode cX8_isAsked 4 = .ok (.bipush 45, 2) := by decide +kernel
theorem dX8_isAsked_6 : decode cX8_isAsked 6 = .ok (.iaload, 1) := by decide +kernel
theorem dX8_isAsked_7 : decode cX8_isAsked 7 = .ok (.iload_n 1, 1) := by decide +kernel
theorem dX8_isAsked_8 : decode cX8_isAsked 8 = .ok (.invokestatic 168, 3) := by decide +kernel
theorem dX8_isAsked_11 : decode cX8_isAsked 11 = .ok (.ireturn, 1) := by decide +kernel
theorem dX8_isClear_0 : decode cX8_isClear 0 = .ok (.iload_n 2, 1) := by decide +kernel
theorem dX8_isClear_1 : decode cX8_isClear 1 = .ok (.aload_n 0, 1) := by decide +kernel
theorem dX8_isClear_2 : decode cX8_isClear 2 = .ok (.getfield 7, 3) := by decide +kernel
theorem dX8_isClear_5 : decode cX8_isClear 5 = .ok (.iload_n 1, 1) := by decide +kernel
theorem dX8_isClear_6 : decode cX8_isClear 6 = .ok (.iaload, 1) := by decide +kernel
theorem dX8_isClear_7 : decode cX8_isClear 7 = .ok (.if_icmp .le 7, 3) := by decide +kernel
theorem dX8_isClear_10 : decode cX8_isClear 10 = .ok (.iconst 1, 1) := by decide +kernel
theorem dX8_isClear_11 : decode cX8_isClear 11 = .ok (.goto 4, 3) := by decide +kernel
theorem dX8_isClear_14 : decode cX8_isClear 14 = .ok (.iconst (-1), 1) := by decide +kernel
theorem dX8_isClear_15 : decode cX8_isClear 15 = .ok (.istore_n 3, 1) := by decide +kernel
theorem dX8_isClear_16 : decode cX8_isClear 16 = .ok (.iload_n 2, 1) := by decide +kernel
theorem dX8_isClear_17 : decode cX8_isClear 17 = .ok (.aload_n 0, 1) := by decide +kernel
theorem dX8_isClear_18 : decode cX8_isClear 18 = .ok (.getfield 7, 3) := by decide +kernel
theorem dX8_isClear_21 : decode cX8_isClear 21 = .ok (.iload_n 1, 1) := by decide +kernel
theorem dX8_isClear_22 : decode cX8_isClear 22 = .ok (.iaload, 1) := by decide +kernel
theorem dX8_isClear_23 : decode cX8_isClear 23 = .ok (.isub, 1) := by decide +kernel
theorem dX8_isClear_24 : decode cX8_isClear 24 = .ok (.iload_n 3, 1) := by decide +kernel
theorem dX8_isClear_25 : decode cX8_isClear 25 = .ok (.imul, 1) := by decide +kernel
theorem dX8_isClear_26 : decode cX8_isClear 26 = .ok (.istore 4, 2) := by decide +kernel
theorem dX8_isClear_28 : decode cX8_isClear 28 = .ok (.iconst 1, 1) := by decide +kernel
theorem dX8_isClear_29 : decode cX8_isClear 29 = .ok (.istore 5, 2) := by decide +kernel
theorem dX8_isClear_31 : decode cX8_isClear 31 = .ok (.iconst 1, 1) := by decide +kernel
theorem dX8_isClear_32 : decode cX8_isClear 32 = .ok (.istore 6, 2) := by decide +kernel
theorem dX8_isClear_34 : decode cX8_isClear 34 = .ok (.iload 6, 2) := by decide +kernel
theorem dX8_isClear_36 : decode cX8_isClear 36 = .ok (.iload 4, 2) := by decide +kernel
theorem dX8_isClear_38 : decode cX8_isClear 38 = .ok (.if_icmp .ge 72, 3) := by decide +kernel
theorem dX8_isClear_41 : decode cX8_isClear 41 = .ok (.aload_n 0, 1) := by decide +kernel
theorem dX8_isClear_42 : decode cX8_isClear 42 = .ok (.getfield 31, 3) := by decide +kernel
theorem dX8_isClear_45 : decode cX8_isClear 45 = .ok (.iconst 1, 1) := by decide +kernel
theorem dX8_isClear_46 : decode cX8_isClear 46 = .ok (.aload_n 0, 1) := by decide +kernel
theorem dX8_isClear_47 : decode cX8_isClear 47 = .ok (.getfield 7, 3) := by decide +kernel
theorem dX8_isClear_50 : decode cX8_isClear 50 = .ok (.iload_n 1, 1) := by decide +kernel
theorem dX8_isClear_51 : decode cX8_isClear 51 = .ok (.iaload, 1) := by decide +kernel
theorem dX8_isClear_52 : decode cX8_isClear 52 = .ok (.iadd, 1) := by decide +kernel
theorem dX8_isClear_53 : decode cX8_isClear 53 = .ok (.iload_n 3, 1) := by decide +kernel
theorem dX8_isClear_54 : decode cX8_isClear 54 = .ok (.iload 6, 2) := by decide +kernel
theorem dX8_isClear_56 : decode cX8_isClear 56 = .ok (.imul, 1) := by decide +kernel
theorem dX8_isClear_57 : decode cX8_isClear 57 = .ok (.iadd, 1) := by decide +kernel
theorem dX8_isClear_58 : decode cX8_isClear 58 = .ok (.iaload, 1) := by decide +kernel
theorem dX8_isClear_59 : decode cX8_isClear 59 = .ok (.istore 7, 2) := by decide +kernel
theorem dX8_isClear_61 : decode cX8_isClear 61 = .ok (.iload 5, 2) := by decide +kernel
theorem dX8_isClear_63 : decode cX8_isClear 63 = .ok (.ifCond .eq 38, 3) := by decide +kernel
theorem dX8_isClear_66 : decode cX8_isClear 66 = .ok (.iload 7, 2) := by decide +kernel
theorem dX8_isClear_68 : decode cX8_isClear 68 = .ok (.iload 4, 2) := by decide +kernel
theorem dX8_isClear_70 : decode cX8_isClear 70 = .ok (.imul, 1) := by decide +kernel
theorem dX8_isClear_71 : decode cX8_isClear 71 = .ok (.aload_n 0, 1) := by decide +kernel
theorem dX8_isClear_72 : decode cX8_isClear 72 = .ok (.iload_n 1, 1) := by decide +kernel
theorem dX8_isClear_73 : decode cX8_isClear 73 = .ok (.invokevirtual 172, 3) := by decide +kernel
theorem dX8_isClear_76 : decode cX8_isClear 76 = .ok (.iload 4, 2) := by decide +kernel
theorem dX8_isClear_78 : decode cX8_isClear 78 = .ok (.iload 6, 2) := by decide +kernel
theorem dX8_isClear_80 : decode cX8_isClear 80 = .ok (.isub, 1) := by decide +kernel
theorem dX8_isClear_81 : decode cX8_isClear 81 = .ok (.imul, 1) := by decide +kernel
theorem dX8_isClear_82 : decode cX8_isClear 82 = .ok (.aload_n 0, 1) := by decide +kernel
theorem dX8_isClear_83 : decode cX8_isClear 83 = .ok (.getfield 31, 3) := by decide +kernel
theorem dX8_isClear_86 : decode cX8_isClear 86 = .ok (.iconst 1, 1) := by decide +kernel
theorem dX8_isClear_87 : decode cX8_isClear 87 = .ok (.iload_n 2, 1) := by decide +kernel
theorem dX8_isClear_88 : decode cX8_isClear 88 = .ok (.iadd, 1) := by decide +kernel
theorem dX8_isClear_89 : decode cX8_isClear 89 = .ok (.iaload, 1) := by decide +kernel
theorem dX8_isClear_90 : decode cX8_isClear 90 = .ok (.iload 6, 2) := by decide +kernel
theorem dX8_isClear_92 : decode cX8_isClear 92 = .ok (.imul, 1) := by decide +kernel
theorem dX8_isClear_93 : decode cX8_isClear 93 = .ok (.iadd, 1) := by decide +kernel
theorem dX8_isClear_94 : decode cX8_isClear 94 = .ok (.if_icmp .gt 7, 3) := by decide +kernel
theorem dX8_isClear_97 : decode cX8_isClear 97 = .ok (.iconst 1, 1) := by decide +kernel
theorem dX8_isClear_98 : decode cX8_isClear 98 = .ok (.goto 4, 3) := by decide +kernel
theorem dX8_isClear_101 : decode cX8_isClear 101 = .ok (.iconst 0, 1) := by decide +kernel
theorem dX8_isClear_102 : decode cX8_isClear 102 = .ok (.istore 5, 2) := by decide +kernel
theorem dX8_isClear_104 : decode cX8_isClear 104 = .ok (.iinc 6 1, 3) := by decide +kernel
theorem dX8_isClear_107 : decode cX8_isClear 107 = .ok (.goto (-73), 3) := by decide +kernel
theorem dX8_isClear_110 : decode cX8_isClear 110 = .ok (.iload 5, 2) := by decide +kernel
theorem dX8_isClear_112 : decode cX8_isClear 112 = .ok (.ireturn, 1) := by decide +kernel
theorem dX8_sees_0 : decode cX8_sees 0 = .ok (.aload_n 0, 1) := by decide +kernel
theorem dX8_sees_1 : decode cX8_sees 1 = .ok (.getfield 16, 3) := by decide +kernel
theorem dX8_sees_4 : decode cX8_sees 4 = .ok (.iload_n 1, 1) := by decide +kernel
theorem dX8_sees_5 : decode cX8_sees 5 = .ok (.iaload, 1) := by decide +kernel
theorem dX8_sees_6 : decode cX8_sees 6 = .ok (.aload_n 0, 1) := by decide +kernel
theorem dX8_sees_7 : decode cX8_sees 7 = .ok (.getfield 19, 3) := by decide +kernel
theorem dX8_sees_10 : decode cX8_sees 10 = .ok (.iload_n 1, 1) := by decide +kernel
theorem dX8_sees_11 : decode cX8_sees 11 = .ok (.iaload, 1) := by decide +kernel
theorem dX8_sees_12 : decode cX8_sees 12 = .ok (.iload_n 3, 1) := by decide +kernel
theorem dX8_sees_13 : decode cX8_sees 13 = .ok (.invokestatic 175, 3) := by decide +kernel
theorem dX8_sees_16 : decode cX8_sees 16 = .ok (.istore 4, 2) := by decide +kernel
theorem dX8_sees_18 : decode cX8_sees 18 = .ok (.iload_n 2, 1) := by decide +kernel
theorem dX8_sees_19 : decode cX8_sees 19 = .ok (.aload_n 0, 1) := by decide +kernel
theorem dX8_sees_20 : decode cX8_sees 20 = .ok (.getfield 7, 3) := by decide +kernel
theorem dX8_sees_23 : decode cX8_sees 23 = .ok (.iload_n 1, 1) := by decide +kernel
theorem dX8_sees_24 : decode cX8_sees 24 = .ok (.iaload, 1) := by decide +kernel
theorem dX8_sees_25 : decode cX8_sees 25 = .ok (.if_icmp .eq 45, 3) := by decide +kernel
theorem dX8_sees_28 : decode cX8_sees 28 = .ok (.iload 4, 2) := by decide +kernel
theorem dX8_sees_30 : decode cX8_sees 30 = .ok (.iconst 1, 1) := by decide +kernel
theorem dX8_sees_31 : decode cX8_sees 31 = .ok (.if_icmp .ne 7, 3) := by decide +kernel
theorem dX8_sees_34 : decode cX8_sees 34 = .ok (.iconst 1, 1) := by decide +kernel
theorem dX8_sees_35 : decode cX8_sees 35 = .ok (.goto 4, 3) := by decide +kernel
theorem dX8_sees_38 : decode cX8_sees 38 = .ok (.iconst 0, 1) := by decide +kernel
theorem dX8_sees_39 : decode cX8_sees 39 = .ok (.iload_n 2, 1) := by decide +kernel
theorem dX8_sees_40 : decode cX8_sees 40 = .ok (.aload_n 0, 1) := by decide +kernel
theorem dX8_sees_41 : decode cX8_sees 41 = .ok (.getfield 7, 3) := by decide +kernel
theorem dX8_sees_44 : decode cX8_sees 44 = .ok (.iload_n 1, 1) := by decide +kernel
theorem dX8_sees_45 : decode cX8_sees 45 = .ok (.iaload, 1) := by decide +kernel
theorem dX8_sees_46 : decode cX8_sees 46 = .ok (.if_icmp .le 7, 3) := by decide +kernel
theorem dX8_sees_49 : decode cX8_sees 49 = .ok (.iconst 1, 1) := by decide +kernel
theorem dX8_sees_50 : decode cX8_sees 50 = .ok (.goto 4, 3) := by decide +kernel
theorem dX8_sees_53 : decode cX8_sees 53 = .ok (.iconst 0, 1) := by decide +kernel
theorem dX8_sees_54 : decode cX8_sees 54 = .ok (.if_icmp .ne 16, 3) := by decide +kernel
theorem dX8_sees_57 : decode cX8_sees 57 = .ok (.aload_n 0, 1) := by decide +kernel
theorem dX8_sees_58 : decode cX8_sees 58 = .ok (.iload_n 1, 1) := by decide +kernel
theorem dX8_sees_59 : decode cX8_sees 59 = .ok (.iload_n 2, 1) := by decide +kernel
theorem dX8_sees_60 : decode cX8_sees 60 = .ok (.invokevirtual 179, 3) := by decide +kernel
theorem dX8_sees_63 : decode cX8_sees 63 = .ok (.ifCond .eq 7, 3) := by decide +kernel
theorem dX8_sees_66 : decode cX8_sees 66 = .ok (.iconst 1, 1) := by decide +kernel
theorem dX8_sees_67 : decode cX8_sees 67 = .ok (.goto 4, 3) := by decide +kernel
theorem dX8_sees_70 : decode cX8_sees 70 = .ok (.iconst 0, 1) := by decide +kernel
theorem dX8_sees_71 : decode cX8_sees 71 = .ok (.ireturn, 1) := by decide +kernel
theorem dX8_isSmoke_0 : decode cX8_isSmoke 0 = .ok (.iconst 0, 1) := by decide +kernel
theorem dX8_isSmoke_1 : decode cX8_isSmoke 1 = .ok (.istore_n 3, 1) := by decide +kernel
theorem dX8_isSmoke_2 : decode cX8_isSmoke 2 = .ok (.iconst 0, 1) := by decide +kernel
theorem dX8_isSmoke_3 : decode cX8_isSmoke 3 = .ok (.istore 4, 2) := by decide +kernel
theorem dX8_isSmoke_5 : decode cX8_isSmoke 5 = .ok (.iload 4, 2) := by decide +kernel
theorem dX8_isSmoke_7 : decode cX8_isSmoke 7 = .ok (.aload_n 0, 1) := by decide +kernel
theorem dX8_isSmoke_8 : decode cX8_isSmoke 8 = .ok (.getfield 159, 3) := by decide +kernel
theorem dX8_isSmoke_11 : decode cX8_isSmoke 11 = .ok (.if_icmp .ge 61, 3) := by decide +kernel
theorem dX8_isSmoke_14 : decode cX8_isSmoke 14 = .ok (.iload_n 3, 1) := by decide +kernel
theorem dX8_isSmoke_15 : decode cX8_isSmoke 15 = .ok (.ifCond .ne 45, 3) := by decide +kernel
theorem dX8_isSmoke_18 : decode cX8_isSmoke 18 = .ok (.aload_n 0, 1) := by decide +kernel
theorem dX8_isSmoke_19 : decode cX8_isSmoke 19 = .ok (.getfield 28, 3) := by decide +kernel
theorem dX8_isSmoke_22 : decode cX8_isSmoke 22 = .ok (.iconst 3, 1) := by decide +kernel
theorem dX8_isSmoke_23 : decode cX8_isSmoke 23 = .ok (.iload 4, 2) := by decide +kernel
theorem dX8_isSmoke_25 : decode cX8_isSmoke 25 = .ok (.imul, 1) := by decide +kernel
theorem dX8_isSmoke_26 : decode cX8_isSmoke 26 = .ok (.iaload, 1) := by decide +kernel
theorem dX8_isSmoke_27 : decode cX8_isSmoke 27 = .ok (.iload_n 1, 1) := by decide +kernel
theorem dX8_isSmoke_28 : decode cX8_isSmoke 28 = .ok (.if_icmp .ne 36, 3) := by decide +kernel
theorem dX8_isSmoke_31 : decode cX8_isSmoke 31 = .ok (.iload_n 2, 1) := by decide +kernel
theorem dX8_isSmoke_32 : decode cX8_isSmoke 32 = .ok (.aload_n 0, 1) := by decide +kernel
theorem dX8_isSmoke_33 : decode cX8_isSmoke 33 = .ok (.getfield 28, 3) := by decide +kernel
theorem dX8_isSmoke_36 : decode cX8_isSmoke 36 = .ok (.iconst 3, 1) := by decide +kernel
theorem dX8_isSmoke_37 : decode cX8_isSmoke 37 = .ok (.iload 4, 2) := by decide +kernel
theorem dX8_isSmoke_39 : decode cX8_isSmoke 39 = .ok (.imul, 1) := by decide +kernel
theorem dX8_isSmoke_40 : decode cX8_isSmoke 40 = .ok (.iconst 1, 1) := by decide +kernel
theorem dX8_isSmoke_41 : decode cX8_isSmoke 41 = .ok (.iadd, 1) := by decide +kernel
theorem dX8_isSmoke_42 : decode cX8_isSmoke 42 = .ok (.iaload, 1) := by decide +kernel
theorem dX8_isSmoke_43 : decode cX8_isSmoke 43 = .ok (.aload_n 0, 1) := by decide +kernel
theorem dX8_isSmoke_44 : decode cX8_isSmoke 44 = .ok (.getfield 28, 3) := by decide +kernel
theorem dX8_isSmoke_47 : decode cX8_isSmoke 47 = .ok (.iconst 3, 1) := by decide +kernel
theorem dX8_isSmoke_48 : decode cX8_isSmoke 48 = .ok (.iload 4, 2) := by decide +kernel
theorem dX8_isSmoke_50 : decode cX8_isSmoke 50 = .ok (.imul, 1) := by decide +kernel
theorem dX8_isSmoke_51 : decode cX8_isSmoke 51 = .ok (.iconst 2, 1) := by decide +kernel
theorem dX8_isSmoke_52 : decode cX8_isSmoke 52 = .ok (.iadd, 1) := by decide +kernel
theorem dX8_isSmoke_53 : decode cX8_isSmoke 53 = .ok (.iaload, 1) := by decide +kernel
theorem dX8_isSmoke_54 : decode cX8_isSmoke 54 = .ok (.invokestatic 78, 3) := by decide +kernel
theorem dX8_isSmoke_57 : decode cX8_isSmoke 57 = .ok (.ifCond .eq 7, 3) := by decide +kernel
theorem dX8_isSmoke_60 : decode cX8_isSmoke 60 = .ok (.iconst 1, 1) := by decide +kernel
theorem dX8_isSmoke_61 : decode cX8_isSmoke 61 = .ok (.goto 4, 3) := by decide +kernel
theorem dX8_isSmoke_64 : decode cX8_isSmoke 64 = .ok (.iconst 0, 1) := by decide +kernel
theorem dX8_isSmoke_65 : decode cX8_isSmoke 65 = .ok (.istore_n 3, 1) := by decide +kernel
theorem dX8_isSmoke_66 : decode cX8_isSmoke 66 = .ok (.iinc 4 1, 3) := by decide +kernel
theorem dX8_isSmoke_69 : decode cX8_isSmoke 69 = .ok (.goto (-64), 3) := by decide +kernel
theorem dX8_isSmoke_72 : decode cX8_isSmoke 72 = .ok (.iload_n 3, 1) := by decide +kernel
theorem dX8_isSmoke_73 : decode cX8_isSmoke 73 = .ok (.ireturn, 1) := by decide +kernel
theorem dX8_walks_0 : decode cX8_walks 0 = .ok (.aload_n 0, 1) := by decide +kernel
theorem dX8_walks_1 : decode cX8_walks 1 = .ok (.getfield 22, 3) := by decide +kernel
theorem dX8_walks_4 : decode cX8_walks 4 = .ok (.iload_n 1, 1) := by decide +kernel
theorem dX8_walks_5 : decode cX8_walks 5 = .ok (.iaload, 1) := by decide +kernel
theorem dX8_walks_6 : decode cX8_walks 6 = .ok (.iload_n 2, 1) := by decide +kernel
theorem dX8_walks_7 : decode cX8_walks 7 = .ok (.aload_n 0, 1) := by decide +kernel
theorem dX8_walks_8 : decode cX8_walks 8 = .ok (.getfield 25, 3) := by decide +kernel
theorem dX8_walks_11 : decode cX8_walks 11 = .ok (.iload_n 1, 1) := by decide +kernel
theorem dX8_walks_12 : decode cX8_walks 12 = .ok (.iaload, 1) := by decide +kernel
theorem dX8_walks_13 : decode cX8_walks 13 = .ok (.imul, 1) := by decide +kernel
theorem dX8_walks_14 : decode cX8_walks 14 = .ok (.iadd, 1) := by decide +kernel
theorem dX8_walks_15 : decode cX8_walks 15 = .ok (.istore_n 3, 1) := by decide +kernel
theorem dX8_walks_16 : decode cX8_walks 16 = .ok (.iload_n 3, 1) := by decide +kernel
theorem dX8_walks_17 : decode cX8_walks 17 = .ok (.invokestatic 182, 3) := by decide +kernel
theorem dX8_walks_20 : decode cX8_walks 20 = .ok (.ifCond .eq 7, 3) := by decide +kernel
theorem dX8_walks_23 : decode cX8_walks 23 = .ok (.iload_n 3, 1) := by decide +kernel
theorem dX8_walks_24 : decode cX8_walks 24 = .ok (.goto 5, 3) := by decide +kernel
theorem dX8_walks_27 : decode cX8_walks 27 = .ok (.bipush (-9), 2) := by decide +kernel
theorem dX8_walks_29 : decode cX8_walks 29 = .ok (.ireturn, 1) := by decide +kernel
theorem dX8_sawOf_0 : decode cX8_sawOf 0 = .ok (.aload_n 0, 1) := by decide +kernel
theorem dX8_sawOf_1 : decode cX8_sawOf 1 = .ok (.getfield 31, 3) := by decide +kernel
theorem dX8_sawOf_4 : decode cX8_sawOf 4 = .ok (.bipush 25, 2) := by decide +kernel
theorem dX8_sawOf_6 : decode cX8_sawOf 6 = .ok (.iconst 4, 1) := by decide +kernel
theorem dX8_sawOf_7 : decode cX8_sawOf 7 = .ok (.iload_n 1, 1) := by decide +kernel
theorem dX8_sawOf_8 : decode cX8_sawOf 8 = .ok (.imul, 1) := by decide +kernel
theorem dX8_sawOf_9 : decode cX8_sawOf 9 = .ok (.iadd, 1) := by decide +kernel
theorem dX8_sawOf_10 : decode cX8_sawOf 10 = .ok (.iload_n 2, 1) := by decide +kernel
theorem dX8_sawOf_11 : decode cX8_sawOf 11 = .ok (.iadd, 1) := by decide +kernel
theorem dX8_sawOf_12 : decode cX8_sawOf 12 = .ok (.iaload, 1) := by decide +kernel
theorem dX8_sawOf_13 : decode cX8_sawOf 13 = .ok (.ireturn, 1) := by decide +kernel
theorem dX8_sawBy_0 : decode cX8_sawBy 0 = .ok (.iconst 0, 1) := by decide +kernel
theorem dX8_sawBy_1 : decode cX8_sawBy 1 = .ok (.istore_n 2, 1) := by decide +kernel
theorem dX8_sawBy_2 : decode cX8_sawBy 2 = .ok (.iconst 0, 1) := by decide +kernel
theorem dX8_sawBy_3 : decode cX8_sawBy 3 = .ok (.istore_n 3, 1) := by decide +kernel
theorem dX8_sawBy_4 : decode cX8_sawBy 4 = .ok (.iload_n 3, 1) := by decide +kernel
theorem dX8_sawBy_5 : decode cX8_sawBy 5 = .ok (.aload_n 0, 1) := by decide +kernel
theorem dX8_sawBy_6 : decode cX8_sawBy 6 = .ok (.getfield 82, 3) := by decide +kernel
theorem dX8_sawBy_9 : decode cX8_sawBy 9 = .ok (.if_icmp .ge 63, 3) := by decide +kernel
theorem dX8_sawBy_12 : decode cX8_sawBy 12 = .ok (.iconst 0, 1) := by decide +kernel
theorem dX8_sawBy_13 : decode cX8_sawBy 13 = .ok (.istore 4, 2) := by decide +kernel
theorem dX8_sawBy_15 : decode cX8_sawBy 15 = .ok (.iconst 0, 1) := by decide +kernel
theorem dX8_sawBy_16 : decode cX8_sawBy 16 = .ok (.istore 5, 2) := by decide +kernel
theorem dX8_sawBy_18 : decode cX8_sawBy 18 = .ok (.iload 5, 2) := by decide +kernel
theorem dX8_sawBy_20 : decode cX8_sawBy 20 = .ok (.aload_n 0, 1) := by decide +kernel
theorem dX8_sawBy_21 : decode cX8_sawBy 21 = .ok (.getfield 74, 3) := by decide +kernel
theorem dX8_sawBy_24 : decode cX8_sawBy 24 = .ok (.if_icmp .ge 34, 3) := by decide +kernel
theorem dX8_sawBy_27 : decode cX8_sawBy 27 = .ok (.iload 4, 2) := by decide +kernel
theorem dX8_sawBy_29 : decode cX8_sawBy 29 = .ok (.iload_n 1, 1) := by decide +kernel
theorem dX8_sawBy_30 : decode cX8_sawBy 30 = .ok (.iload 5, 2) := by decide +kernel
theorem dX8_sawBy_32 : decode cX8_sawBy 32 = .ok (.invokestatic 168, 3) := by decide +kernel
theorem dX8_sawBy_35 : decode cX8_sawBy 35 = .ok (.ifCond .eq 13, 3) := by decide +kernel
theorem dX8_sawBy_38 : decode cX8_sawBy 38 = .ok (.aload_n 0, 1) := by decide +kernel
theorem dX8_sawBy_39 : decode cX8_sawBy 39 = .ok (.iload 5, 2) := by decide +kernel
theorem dX8_sawBy_41 : decode cX8_sawBy 41 = .ok (.iload_n 3, 1) := by decide +kernel
theorem dX8_sawBy_42 : decode cX8_sawBy 42 = .ok (.invokevirtual 185, 3) := by decide +kernel
theorem dX8_sawBy_45 : decode cX8_sawBy 45 = .ok (.goto 4, 3) := by decide +kernel
theorem dX8_sawBy_48 : decode cX8_sawBy 48 = .ok (.iconst 0, 1) := by decide +kernel
theorem dX8_sawBy_49 : decode cX8_sawBy 49 = .ok (.ior, 1) := by decide +kernel
theorem dX8_sawBy_50 : decode cX8_sawBy 50 = .ok (.istore 4, 2) := by decide +kernel
theorem dX8_sawBy_52 : decode cX8_sawBy 52 = .ok (.iinc 5 1, 3) := by decide +kernel
theorem dX8_sawBy_55 : decode cX8_sawBy 55 = .ok (.goto (-37), 3) := by decide +kernel
theorem dX8_sawBy_58 : decode cX8_sawBy 58 = .ok (.iload_n 2, 1) := by decide +kernel
theorem dX8_sawBy_59 : decode cX8_sawBy 59 = .ok (.iload 4, 2) := by decide +kernel
theorem dX8_sawBy_61 : decode cX8_sawBy 61 = .ok (.invokestatic 188, 3) := by decide +kernel
theorem dX8_sawBy_64 : decode cX8_sawBy 64 = .ok (.iadd, 1) := by decide +kernel
theorem dX8_sawBy_65 : decode cX8_sawBy 65 = .ok (.istore_n 2, 1) := by decide +kernel
theorem dX8_sawBy_66 : decode cX8_sawBy 66 = .ok (.iinc 3 1, 3) := by decide +kernel
theorem dX8_sawBy_69 : decode cX8_sawBy 69 = .ok (.goto (-65), 3) := by decide +kernel
theorem dX8_sawBy_72 : decode cX8_sawBy 72 = .ok (.iload_n 2, 1) := by decide +kernel
theorem dX8_sawBy_73 : decode cX8_sawBy 73 = .ok (.ireturn, 1) := by decide +kernel
theorem dX8_all_0 : decode cX8_all 0 = .ok (.iconst 1, 1) := by decide +kernel
theorem dX8_all_1 : decode cX8_all 1 = .ok (.aload_n 0, 1) := by decide +kernel
theorem dX8_all_2 : decode cX8_all 2 = .ok (.getfield 74, 3) := by decide +kernel
theorem dX8_all_5 : decode cX8_all 5 = .ok (.ishl, 1) := by decide +kernel
theorem dX8_all_6 : decode cX8_all 6 = .ok (.iconst 1, 1) := by decide +kernel
theorem dX8_all_7 : decode cX8_all 7 = .ok (.isub, 1) := by decide +kernel
theorem dX8_all_8 : decode cX8_all 8 = .ok (.ireturn, 1) := by decide +kernel
theorem dX8_knownMuch_0 : decode cX8_knownMuch 0 = .ok (.aload_n 0, 1) := by decide +kernel
theorem dX8_knownMuch_1 : decode cX8_knownMuch 1 = .ok (.aload_n 0, 1) := by decide +kernel
theorem dX8_knownMuch_2 : decode cX8_knownMuch 2 = .ok (.getfield 31, 3) := by decide +kernel
theorem dX8_knownMuch_5 : decode cX8_knownMuch 5 = .ok (.bipush 45, 2) := by decide +kernel
theorem dX8_knownMuch_7 : decode cX8_knownMuch 7 = .ok (.iaload, 1) := by decide +kernel
theorem dX8_knownMuch_8 : decode cX8_knownMuch 8 = .ok (.invokevirtual 191, 3) := by decide +kernel
theorem dX8_knownMuch_11 : decode cX8_knownMuch 11 = .ok (.ireturn, 1) := by decide +kernel
theorem dX8_isLess_0 : decode cX8_isLess 0 = .ok (.iload_n 0, 1) := by decide +kernel
theorem dX8_isLess_1 : decode cX8_isLess 1 = .ok (.invokestatic 188, 3) := by decide +kernel
theorem dX8_isLess_4 : decode cX8_isLess 4 = .ok (.iload_n 1, 1) := by decide +kernel
theorem dX8_isLess_5 : decode cX8_isLess 5 = .ok (.invokestatic 188, 3) := by decide +kernel
theorem dX8_isLess_8 : decode cX8_isLess 8 = .ok (.if_icmp .lt 19, 3) := by decide +kernel
theorem dX8_isLess_11 : decode cX8_isLess 11 = .ok (.iload_n 0, 1) := by decide +kernel
theorem dX8_isLess_12 : decode cX8_isLess 12 = .ok (.invokestatic 188, 3) := by decide +kernel
theorem dX8_isLess_15 : decode cX8_isLess 15 = .ok (.iload_n 1, 1) := by decide +kernel
theorem dX8_isLess_16 : decode cX8_isLess 16 = .ok (.invokestatic 188, 3) := by decide +kernel
theorem dX8_isLess_19 : decode cX8_isLess 19 = .ok (.if_icmp .ne 12, 3) := by decide +kernel
theorem dX8_isLess_22 : decode cX8_isLess 22 = .ok (.iload_n 0, 1) := by decide +kernel
theorem dX8_isLess_23 : decode cX8_isLess 23 = .ok (.iload_n 1, 1) := by decide +kernel
theorem dX8_isLess_24 : decode cX8_isLess 24 = .ok (.if_icmp .ge 7, 3) := by decide +kernel
theorem dX8_isLess_27 : decode cX8_isLess 27 = .ok (.iconst 1, 1) := by decide +kernel
theorem dX8_isLess_28 : decode cX8_isLess 28 = .ok (.goto 4, 3) := by decide +kernel
theorem dX8_isLess_31 : decode cX8_isLess 31 = .ok (.iconst 0, 1) := by decide +kernel
theorem dX8_isLess_32 : decode cX8_isLess 32 = .ok (.ireturn, 1) := by decide +kernel
theorem dX8_cover_0 : decode cX8_cover 0 = .ok (.aload_n 0, 1) := by decide +kernel
theorem dX8_cover_1 : decode cX8_cover 1 = .ok (.invokevirtual 194, 3) := by decide +kernel
theorem dX8_cover_4 : decode cX8_cover 4 = .ok (.istore_n 1, 1) := by decide +kernel
theorem dX8_cover_5 : decode cX8_cover 5 = .ok (.iconst 0, 1) := by decide +kernel
theorem dX8_cover_6 : decode cX8_cover 6 = .ok (.istore_n 2, 1) := by decide +kernel
theorem dX8_cover_7 : decode cX8_cover 7 = .ok (.iload_n 2, 1) := by decide +kernel
theorem dX8_cover_8 : decode cX8_cover 8 = .ok (.aload_n 0, 1) := by decide +kernel
theorem dX8_cover_9 : decode cX8_cover 9 = .ok (.invokevirtual 194, 3) := by decide +kernel
theorem dX8_cover_12 : decode cX8_cover 12 = .ok (.if_icmp .gt 81, 3) := by decide +kernel
theorem dX8_cover_15 : decode cX8_cover 15 = .ok (.iload_n 2, 1) := by decide +kernel
theorem dX8_cover_16 : decode cX8_cover 16 = .ok (.aload_n 0, 1) := by decide +kernel
theorem dX8_cover_17 : decode cX8_cover 17 = .ok (.getfield 31, 3) := by decide +kernel
theorem dX8_cover_20 : decode cX8_cover 20 = .ok (.bipush 45, 2) := by decide +kernel
theorem dX8_cover_22 : decode cX8_cover 22 = .ok (.iaload, 1) := by decide +kernel
theorem dX8_cover_23 : decode cX8_cover 23 = .ok (.iand, 1) := by decide +kernel
theorem dX8_cover_24 : decode cX8_cover 24 = .ok (.ifCond .ne 31, 3) := by decide +kernel
theorem dX8_cover_27 : decode cX8_cover 27 = .ok (.aload_n 0, 1) := by decide +kernel
theorem dX8_cover_28 : decode cX8_cover 28 = .ok (.iload_n 2, 1) := by decide +kernel
theorem dX8_cover_29 : decode cX8_cover 29 = .ok (.aload_n 0, 1) := by decide +kernel
theorem dX8_cover_30 : decode cX8_cover 30 = .ok (.getfield 31, 3) := by decide +kernel
theorem dX8_cover_33 : decode cX8_cover 33 = .ok (.bipush 45, 2) := by decide +kernel
theorem dX8_cover_35 : decode cX8_cover 35 = .ok (.iaload, 1) := by decide +kernel
theorem dX8_cover_36 : decode cX8_cover 36 = .ok (.ior, 1) := by decide +kernel
theorem dX8_cover_37 : decode cX8_cover 37 = .ok (.invokevirtual 191, 3) := by decide +kernel
theorem dX8_cover_40 : decode cX8_cover 40 = .ok (.aload_n 0, 1) := by decide +kernel
theorem dX8_cover_41 : decode cX8_cover 41 = .ok (.aload_n 0, 1) := by decide +kernel
theorem dX8_cover_42 : decode cX8_cover 42 = .ok (.invokevirtual 194, 3) := by decide +kernel
theorem dX8_cover_45 : decode cX8_cover 45 = .ok (.invokevirtual 191, 3) := by decide +kernel
theorem dX8_cover_48 : decode cX8_cover 48 = .ok (.if_icmp .ne 7, 3) := by decide +kernel
theorem dX8_cover_51 : decode cX8_cover 51 = .ok (.iconst 1, 1) := by decide +kernel
theorem dX8_cover_52 : decode cX8_cover 52 = .ok (.goto 4, 3) := by decide +kernel
theorem dX8_cover_55 : decode cX8_cover 55 = .ok (.iconst 0, 1) := by decide +kernel
theorem dX8_cover_56 : decode cX8_cover 56 = .ok (.istore_n 3, 1) := by decide +kernel
theorem dX8_cover_57 : decode cX8_cover 57 = .ok (.iload_n 3, 1) := by decide +kernel
theorem dX8_cover_58 : decode cX8_cover 58 = .ok (.ifCond .eq 27, 3) := by decide +kernel
theorem dX8_cover_61 : decode cX8_cover 61 = .ok (.iload_n 2, 1) := by decide +kernel
theorem dX8_cover_62 : decode cX8_cover 62 = .ok (.iload_n 1, 1) := by decide +kernel
theorem dX8_cover_63 : decode cX8_cover 63 = .ok (.invokestatic 198, 3) := by decide +kernel
theorem dX8_cover_66 : decode cX8_cover 66 = .ok (.ifCond .ne 15, 3) := by decide +kernel
theorem dX8_cover_69 : decode cX8_cover 69 = .ok (.iload_n 1, 1) := by decide +kernel
theorem dX8_cover_70 : decode cX8_cover 70 = .ok (.aload_n 0, 1) := by decide +kernel
theorem dX8_cover_71 : decode cX8_cover 71 = .ok (.getfield 31, 3) := by decide +kernel
theorem dX8_cover_74 : decode cX8_cover 74 = .ok (.bipush 45, 2) := by decide +kernel
theorem dX8_cover_76 : decode cX8_cover 76 = .ok (.iaload, 1) := by decide +kernel
theorem dX8_cover_77 : decode cX8_cover 77 = .ok (.iand, 1) := by decide +kernel
theorem dX8_cover_78 : decode cX8_cover 78 = .ok (.ifCond .eq 7, 3) := by decide +kernel
theorem dX8_cover_81 : decode cX8_cover 81 = .ok (.iload_n 2, 1) := by decide +kernel
theorem dX8_cover_82 : decode cX8_cover 82 = .ok (.goto 4, 3) := by decide +kernel
theorem dX8_cover_85 : decode cX8_cover 85 = .ok (.iload_n 1, 1) := by decide +kernel
theorem dX8_cover_86 : decode cX8_cover 86 = .ok (.istore_n 1, 1) := by decide +kernel
theorem dX8_cover_87 : decode cX8_cover 87 = .ok (.iinc 2 1, 3) := by decide +kernel
theorem dX8_cover_90 : decode cX8_cover 90 = .ok (.goto (-83), 3) := by decide +kernel
theorem dX8_cover_93 : decode cX8_cover 93 = .ok (.iload_n 1, 1) := by decide +kernel
theorem dX8_cover_94 : decode cX8_cover 94 = .ok (.ireturn, 1) := by decide +kernel
theorem dX8_roof_0 : decode cX8_roof 0 = .ok (.iload_n 1, 1) := by decide +kernel
theorem dX8_roof_1 : decode cX8_roof 1 = .ok (.invokestatic 182, 3) := by decide +kernel
theorem dX8_roof_4 : decode cX8_roof 4 = .ok (.ifCond .eq 14, 3) := by decide +kernel
theorem dX8_roof_7 : decode cX8_roof 7 = .ok (.aload_n 0, 1) := by decide +kernel
theorem dX8_roof_8 : decode cX8_roof 8 = .ok (.getfield 31, 3) := by decide +kernel
theorem dX8_roof_11 : decode cX8_roof 11 = .ok (.iconst 1, 1) := by decide +kernel
theorem dX8_roof_12 : decode cX8_roof 12 = .ok (.iload_n 1, 1) := by decide +kernel
theorem dX8_roof_13 : decode cX8_roof 13 = .ok (.iadd, 1) := by decide +kernel
theorem dX8_roof_14 : decode cX8_roof 14 = .ok (.iaload, 1) := by decide +kernel
theorem dX8_roof_15 : decode cX8_roof 15 = .ok (.goto 4, 3) := by decide +kernel
theorem dX8_roof_18 : decode cX8_roof 18 = .ok (.iconst (-1), 1) := by decide +kernel
theorem dX8_roof_19 : decode cX8_roof 19 = .ok (.ireturn, 1) := by decide +kernel
theorem dX8_cock_0 : decode cX8_cock 0 = .ok (.aload_n 0, 1) := by decide +kernel
theorem dX8_cock_1 : decode cX8_cock 1 = .ok (.iload_n 1, 1) := by decide +kernel
theorem dX8_cock_2 : decode cX8_cock 2 = .ok (.invokevirtual 201, 3) := by decide +kernel
theorem dX8_cock_5 : decode cX8_cock 5 = .ok (.ifCond .ne 5, 3) := by decide +kernel
theorem dX8_cock_8 : decode cX8_cock 8 = .ok (.iconst (-1), 1) := by decide +kernel
theorem dX8_cock_9 : decode cX8_cock 9 = .ok (.ireturn, 1) := by decide +kernel
theorem dX8_cock_10 : decode cX8_cock 10 = .ok (.iload_n 2, 1) := by decide +kernel
theorem dX8_cock_11 : decode cX8_cock 11 = .ok (.tableswitch 123 0 7 #[45, 52, 59, 66, 73, 79, 101, 115], 45) := by decide +kernel
theorem dX8_cock_56 : decode cX8_cock 56 = .ok (.aload_n 0, 1) := by decide +kernel
theorem dX8_cock_57 : decode cX8_cock 57 = .ok (.getfield 7, 3) := by decide +kernel
theorem dX8_cock_60 : decode cX8_cock 60 = .ok (.iload_n 1, 1) := by decide +kernel
theorem dX8_cock_61 : decode cX8_cock 61 = .ok (.iaload, 1) := by decide +kernel
theorem dX8_cock_62 : decode cX8_cock 62 = .ok (.ireturn, 1) := by decide +kernel
theorem dX8_cock_63 : decode cX8_cock 63 = .ok (.aload_n 0, 1) := by decide +kernel
theorem dX8_cock_64 : decode cX8_cock 64 = .ok (.getfield 13, 3) := by decide +kernel
theorem dX8_cock_67 : decode cX8_cock 67 = .ok (.iload_n 1, 1) := by decide +kernel
theorem dX8_cock_68 : decode cX8_cock 68 = .ok (.iaload, 1) := by decide +kernel
theorem dX8_cock_69 : decode cX8_cock 69 = .ok (.ireturn, 1) := by decide +kernel
theorem dX8_cock_70 : decode cX8_cock 70 = .ok (.aload_n 0, 1) := by decide +kernel
theorem dX8_cock_71 : decode cX8_cock 71 = .ok (.getfield 16, 3) := by decide +kernel
theorem dX8_cock_74 : decode cX8_cock 74 = .ok (.iload_n 1, 1) := by decide +kernel
theorem dX8_cock_75 : decode cX8_cock 75 = .ok (.iaload, 1) := by decide +kernel
theorem dX8_cock_76 : decode cX8_cock 76 = .ok (.ireturn, 1) := by decide +kernel
theorem dX8_cock_77 : decode cX8_cock 77 = .ok (.aload_n 0, 1) := by decide +kernel
theorem dX8_cock_78 : decode cX8_cock 78 = .ok (.getfield 19, 3) := by decide +kernel
theorem dX8_cock_81 : decode cX8_cock 81 = .ok (.iload_n 1, 1) := by decide +kernel
theorem dX8_cock_82 : decode cX8_cock 82 = .ok (.iaload, 1) := by decide +kernel
theorem dX8_cock_83 : decode cX8_cock 83 = .ok (.ireturn, 1) := by decide +kernel
theorem dX8_cock_84 : decode cX8_cock 84 = .ok (.aload_n 0, 1) := by decide +kernel
theorem dX8_cock_85 : decode cX8_cock 85 = .ok (.iload_n 1, 1) := by decide +kernel
theorem dX8_cock_86 : decode cX8_cock 86 = .ok (.invokevirtual 172, 3) := by decide +kernel
theorem dX8_cock_89 : decode cX8_cock 89 = .ok (.ireturn, 1) := by decide +kernel
theorem dX8_cock_90 : decode cX8_cock 90 = .ok (.aload_n 0, 1) := by decide +kernel
theorem dX8_cock_91 : decode cX8_cock 91 = .ok (.getfield 16, 3) := by decide +kernel
theorem dX8_cock_94 : decode cX8_cock 94 = .ok (.iload_n 1, 1) := by decide +kernel
theorem dX8_cock_95 : decode cX8_cock 95 = .ok (.iaload, 1) := by decide +kernel
theorem dX8_cock_96 : decode cX8_cock 96 = .ok (.aload_n 0, 1) := by decide +kernel
theorem dX8_cock_97 : decode cX8_cock 97 = .ok (.getfield 19, 3) := by decide +kernel
theorem dX8_cock_100 : decode cX8_cock 100 = .ok (.iload_n 1, 1) := by decide +kernel
theorem dX8_cock_101 : decode cX8_cock 101 = .ok (.iaload, 1) := by decide +kernel
theorem dX8_cock_102 : decode cX8_cock 102 = .ok (.aload_n 0, 1) := by decide +kernel
theorem dX8_cock_103 : decode cX8_cock 103 = .ok (.getfield 31, 3) := by decide +kernel
theorem dX8_cock_106 : decode cX8_cock 106 = .ok (.iconst 0, 1) := by decide +kernel
theorem dX8_cock_107 : decode cX8_cock 107 = .ok (.iaload, 1) := by decide +kernel
theorem dX8_cock_108 : decode cX8_cock 108 = .ok (.invokestatic 175, 3) := by decide +kernel
theorem dX8_cock_111 : decode cX8_cock 111 = .ok (.ireturn, 1) := by decide +kernel
theorem dX8_cock_112 : decode cX8_cock 112 = .ok (.aload_n 0, 1) := by decide +kernel
theorem dX8_cock_113 : decode cX8_cock 113 = .ok (.iload_n 1, 1) := by decide +kernel
theorem dX8_cock_114 : decode cX8_cock 114 = .ok (.invokevirtual 204, 3) := by decide +kernel
theorem dX8_cock_117 : decode cX8_cock 117 = .ok (.ifCond .eq 7, 3) := by decide +kernel
theorem dX8_cock_120 : decode cX8_cock 120 = .ok (.iconst 1, 1) := by decide +kernel
theorem dX8_cock_121 : decode cX8_cock 121 = .ok (.goto 4, 3) := by decide +kernel
theorem dX8_cock_124 : decode cX8_cock 124 = .ok (.iconst 0, 1) := by decide +kernel
theorem dX8_cock_125 : decode cX8_cock 125 = .ok (.ireturn, 1) := by decide +kernel
theorem dX8_cock_126 : decode cX8_cock 126 = .ok (.aload_n 0, 1) := by decide +kernel
theorem dX8_cock_127 : decode cX8_cock 127 = .ok (.iconst 1, 1) := by decide +kernel
theorem dX8_cock_128 : decode cX8_cock 128 = .ok (.iload_n 1, 1) := by decide +kernel
theorem dX8_cock_129 : decode cX8_cock 129 = .ok (.ishl, 1) := by decide +kernel
theorem dX8_cock_130 : decode cX8_cock 130 = .ok (.invokevirtual 191, 3) := by decide +kernel
theorem dX8_cock_133 : decode cX8_cock 133 = .ok (.ireturn, 1) := by decide +kernel
theorem dX8_cock_134 : decode cX8_cock 134 = .ok (.iconst (-1), 1) := by decide +kernel
theorem dX8_cock_135 : decode cX8_cock 135 = .ok (.ireturn, 1) := by decide +kernel
theorem dX8_one_0 : decode cX8_one 0 = .ok (.aload_n 0, 1) := by decide +kernel
theorem dX8_one_1 : decode cX8_one 1 = .ok (.iload_n 1, 1) := by decide +kernel
theorem dX8_one_2 : decode cX8_one 2 = .ok (.invokevirtual 207, 3) := by decide +kernel
theorem dX8_one_5 : decode cX8_one 5 = .ok (.ifCond .ne 6, 3) := by decide +kernel
theorem dX8_one_8 : decode cX8_one 8 = .ok (.ldc 210, 2) := by decide +kernel
theorem dX8_one_10 : decode cX8_one 10 = .ok (.ireturn, 1) := by decide +kernel
theorem dX8_one_11 : decode cX8_one 11 = .ok (.iload_n 2, 1) := by decide +kernel
theorem dX8_one_12 : decode cX8_one 12 = .ok (.ifCond .ne 12, 3) := by decide +kernel
theorem dX8_one_15 : decode cX8_one 15 = .ok (.aload_n 0, 1) := by decide +kernel
theorem dX8_one_16 : decode cX8_one 16 = .ok (.getfield 22, 3) := by decide +kernel
theorem dX8_one_19 : decode cX8_one 19 = .ok (.iload_n 1, 1) := by decide +kernel
theorem dX8_one_20 : decode cX8_one 20 = .ok (.iaload, 1) := by decide +kernel
theorem dX8_one_21 : decode cX8_one 21 = .ok (.goto 38, 3) := by decide +kernel
theorem dX8_one_24 : decode cX8_one 24 = .ok (.iload_n 2, 1) := by decide +kernel
theorem dX8_one_25 : decode cX8_one 25 = .ok (.iconst 1, 1) := by decide +kernel
theorem dX8_one_26 : decode cX8_one 26 = .ok (.if_icmp .ne 12, 3) := by decide +kernel
theorem dX8_one_29 : decode cX8_one 29 = .ok (.aload_n 0, 1) := by decide +kernel
theorem dX8_one_30 : decode cX8_one 30 = .ok (.getfield 25, 3) := by decide +kernel
theorem dX8_one_33 : decode cX8_one 33 = .ok (.iload_n 1, 1) := by decide +kernel
theorem dX8_one_34 : decode cX8_one 34 = .ok (.iaload, 1) := by decide +kernel
theorem dX8_one_35 : decode cX8_one 35 = .ok (.goto 24, 3) := by decide +kernel
theorem dX8_one_38 : decode cX8_one 38 = .ok (.iload_n 2, 1) := by decide +kernel
theorem dX8_one_39 : decode cX8_one 39 = .ok (.iconst 2, 1) := by decide +kernel
theorem dX8_one_40 : decode cX8_one 40 = .ok (.if_icmp .ne 17, 3) := by decide +kernel
theorem dX8_one_43 : decode cX8_one 43 = .ok (.aload_n 0, 1) := by decide +kernel
theorem dX8_one_44 : decode cX8_one 44 = .ok (.iload_n 1, 1) := by decide +kernel
theorem dX8_one_45 : decode cX8_one 45 = .ok (.aload_n 0, 1) := by decide +kernel
theorem dX8_one_46 : decode cX8_one 46 = .ok (.getfield 31, 3) := by decide +kernel
theorem dX8_one_49 : decode cX8_one 49 = .ok (.iconst 0, 1) := by decide +kernel
theorem dX8_one_50 : decode cX8_one 50 = .ok (.iaload, 1) := by decide +kernel
theorem dX8_one_51 : decode cX8_one 51 = .ok (.invokevirtual 211, 3) := by decide +kernel
theorem dX8_one_54 : decode cX8_one 54 = .ok (.goto 5, 3) := by decide +kernel
theorem dX8_one_57 : decode cX8_one 57 = .ok (.ldc 210, 2) := by decide +kernel
theorem dX8_one_59 : decode cX8_one 59 = .ok (.ireturn, 1) := by decide +kernel
theorem dX8_saw_0 : decode cX8_saw 0 = .ok (.aload_n 0, 1) := by decide +kernel
theorem dX8_saw_1 : decode cX8_saw 1 = .ok (.iload_n 1, 1) := by decide +kernel
theorem dX8_saw_2 : decode cX8_saw 2 = .ok (.invokevirtual 201, 3) := by decide +kernel
theorem dX8_saw_5 : decode cX8_saw 5 = .ok (.ifCond .eq 20, 3) := by decide +kernel
theorem dX8_saw_8 : decode cX8_saw 8 = .ok (.aload_n 0, 1) := by decide +kernel
theorem dX8_saw_9 : decode cX8_saw 9 = .ok (.iload_n 2, 1) := by decide +kernel
theorem dX8_saw_10 : decode cX8_saw 10 = .ok (.invokevirtual 207, 3) := by decide +kernel
theorem dX8_saw_13 : decode cX8_saw 13 = .ok (.ifCond .eq 12, 3) := by decide +kernel
theorem dX8_saw_16 : decode cX8_saw 16 = .ok (.aload_n 0, 1) := by decide +kernel
theorem dX8_saw_17 : decode cX8_saw 17 = .ok (.iload_n 1, 1) := by decide +kernel
theorem dX8_saw_18 : decode cX8_saw 18 = .ok (.iload_n 2, 1) := by decide +kernel
theorem dX8_saw_19 : decode cX8_saw 19 = .ok (.invokevirtual 185, 3) := by decide +kernel
theorem dX8_saw_22 : decode cX8_saw 22 = .ok (.goto 4, 3) := by decide +kernel
theorem dX8_saw_25 : decode cX8_saw 25 = .ok (.iconst (-1), 1) := by decide +kernel
theorem dX8_saw_26 : decode cX8_saw 26 = .ok (.ireturn, 1) := by decide +kernel
theorem dX8_known_0 : decode cX8_known 0 = .ok (.aload_n 0, 1) := by decide +kernel
theorem dX8_known_1 : decode cX8_known 1 = .ok (.iload_n 1, 1) := by decide +kernel
theorem dX8_known_2 : decode cX8_known 2 = .ok (.invokevirtual 207, 3) := by decide +kernel
theorem dX8_known_5 : decode cX8_known 5 = .ok (.ifCond .ne 5, 3) := by decide +kernel
theorem dX8_known_8 : decode cX8_known 8 = .ok (.iconst (-1), 1) := by decide +kernel
theorem dX8_known_9 : decode cX8_known 9 = .ok (.ireturn, 1) := by decide +kernel
theorem dX8_known_10 : decode cX8_known 10 = .ok (.iconst 0, 1) := by decide +kernel
theorem dX8_known_11 : decode cX8_known 11 = .ok (.istore_n 2, 1) := by decide +kernel
theorem dX8_known_12 : decode cX8_known 12 = .ok (.iconst 0, 1) := by decide +kernel
theorem dX8_known_13 : decode cX8_known 13 = .ok (.istore_n 3, 1) := by decide +kernel
theorem dX8_known_14 : decode cX8_known 14 = .ok (.iload_n 3, 1) := by decide +kernel
theorem dX8_known_15 : decode cX8_known 15 = .ok (.aload_n 0, 1) := by decide +kernel
theorem dX8_known_16 : decode cX8_known 16 = .ok (.getfield 74, 3) := by decide +kernel
theorem dX8_known_19 : decode cX8_known 19 = .ok (.if_icmp .ge 30, 3) := by decide +kernel
theorem dX8_known_22 : decode cX8_known 22 = .ok (.iload_n 2, 1) := by decide +kernel
theorem dX8_known_23 : decode cX8_known 23 = .ok (.aload_n 0, 1) := by decide +kernel
theorem dX8_known_24 : decode cX8_known 24 = .ok (.iload_n 3, 1) := by decide +kernel
theorem dX8_known_25 : decode cX8_known 25 = .ok (.invokevirtual 204, 3) := by decide +kernel
theorem dX8_known_28 : decode cX8_known 28 = .ok (.ifCond .eq 12, 3) := by decide +kernel
theorem dX8_known_31 : decode cX8_known 31 = .ok (.aload_n 0, 1) := by decide +kernel
theorem dX8_known_32 : decode cX8_known 32 = .ok (.iload_n 3, 1) := by decide +kernel
theorem dX8_known_33 : decode cX8_known 33 = .ok (.iload_n 1, 1) := by decide +kernel
theorem dX8_known_34 : decode cX8_known 34 = .ok (.invokevirtual 185, 3) := by decide +kernel
theorem dX8_known_37 : decode cX8_known 37 = .ok (.goto 4, 3) := by decide +kernel
theorem dX8_known_40 : decode cX8_known 40 = .ok (.iconst 0, 1) := by decide +kernel
theorem dX8_known_41 : decode cX8_known 41 = .ok (.ior, 1) := by decide +kernel
theorem dX8_known_42 : decode cX8_known 42 = .ok (.istore_n 2, 1) := by decide +kernel
theorem dX8_known_43 : decode cX8_known 43 = .ok (.iinc 3 1, 3) := by decide +kernel
theorem dX8_known_46 : decode cX8_known 46 = .ok (.goto (-32), 3) := by decide +kernel
theorem dX8_known_49 : decode cX8_known 49 = .ok (.iload_n 2, 1) := by decide +kernel
theorem dX8_known_50 : decode cX8_known 50 = .ok (.ireturn, 1) := by decide +kernel
theorem dX8_remembers_0 : decode cX8_remembers 0 = .ok (.aload_n 0, 1) := by decide +kernel
theorem dX8_remembers_1 : decode cX8_remembers 1 = .ok (.getfield 31, 3) := by decide +kernel
theorem dX8_remembers_4 : decode cX8_remembers 4 = .ok (.bipush 46, 2) := by decide +kernel
theorem dX8_remembers_6 : decode cX8_remembers 6 = .ok (.iaload, 1) := by decide +kernel
theorem dX8_remembers_7 : decode cX8_remembers 7 = .ok (.bipush 10, 2) := by decide +kernel
theorem dX8_remembers_9 : decode cX8_remembers 9 = .ok (.if_icmp .ne 45, 3) := by decide +kernel
theorem dX8_remembers_12 : decode cX8_remembers 12 = .ok (.bipush 47, 2) := by decide +kernel
theorem dX8_remembers_14 : decode cX8_remembers 14 = .ok (.istore_n 1, 1) := by decide +kernel
theorem dX8_remembers_15 : decode cX8_remembers 15 = .ok (.iload_n 1, 1) := by decide +kernel
theorem dX8_remembers_16 : decode cX8_remembers 16 = .ok (.sipush 461, 3) := by decide +kernel
theorem dX8_remembers_19 : decode cX8_remembers 19 = .ok (.if_icmp .ge 24, 3) := by decide +kernel
theorem dX8_remembers_22 : decode cX8_remembers 22 = .ok (.aload_n 0, 1) := by decide +kernel
theorem dX8_remembers_23 : decode cX8_remembers 23 = .ok (.getfield 31, 3) := by decide +kernel
theorem dX8_remembers_26 : decode cX8_remembers 26 = .ok (.iload_n 1, 1) := by decide +kernel
theorem dX8_remembers_27 : decode cX8_remembers 27 = .ok (.aload_n 0, 1) := by decide +kernel
theorem dX8_remembers_28 : decode cX8_remembers 28 = .ok (.getfield 31, 3) := by decide +kernel
theorem dX8_remembers_31 : decode cX8_remembers 31 = .ok (.iload_n 1, 1) := by decide +kernel
theorem dX8_remembers_32 : decode cX8_remembers 32 = .ok (.bipush 46, 2) := by decide +kernel
theorem dX8_remembers_34 : decode cX8_remembers 34 = .ok (.iadd, 1) := by decide +kernel
theorem dX8_remembers_35 : decode cX8_remembers 35 = .ok (.iaload, 1) := by decide +kernel
theorem dX8_remembers_36 : decode cX8_remembers 36 = .ok (.iastore, 1) := by decide +kernel
theorem dX8_remembers_37 : decode cX8_remembers 37 = .ok (.iinc 1 1, 3) := by decide +kernel
theorem dX8_remembers_40 : decode cX8_remembers 40 = .ok (.goto (-25), 3) := by decide +kernel
theorem dX8_remembers_43 : decode cX8_remembers 43 = .ok (.aload_n 0, 1) := by decide +kernel
theorem dX8_remembers_44 : decode cX8_remembers 44 = .ok (.getfield 31, 3) := by decide +kernel
theorem dX8_remembers_47 : decode cX8_remembers 47 = .ok (.bipush 46, 2) := by decide +kernel
theorem dX8_remembers_49 : decode cX8_remembers 49 = .ok (.dup2, 1) := by decide +kernel
theorem dX8_remembers_50 : decode cX8_remembers 50 = .ok (.iaload, 1) := by decide +kernel
theorem dX8_remembers_51 : decode cX8_remembers 51 = .ok (.iconst 1, 1) := by decide +kernel
theorem dX8_remembers_52 : decode cX8_remembers 52 = .ok (.isub, 1) := by decide +kernel
theorem dX8_remembers_53 : decode cX8_remembers 53 = .ok (.iastore, 1) := by decide +kernel
theorem dX8_remembers_54 : decode cX8_remembers 54 = .ok (.bipush 47, 2) := by decide +kernel
theorem dX8_remembers_56 : decode cX8_remembers 56 = .ok (.bipush 46, 2) := by decide +kernel
theorem dX8_remembers_58 : decode cX8_remembers 58 = .ok (.aload_n 0, 1) := by decide +kernel
theorem dX8_remembers_59 : decode cX8_remembers 59 = .ok (.getfield 31, 3) := by decide +kernel
theorem dX8_remembers_62 : decode cX8_remembers 62 = .ok (.bipush 46, 2) := by decide +kernel
theorem dX8_remembers_64 : decode cX8_remembers 64 = .ok (.iaload, 1) := by decide +kernel
theorem dX8_remembers_65 : decode cX8_remembers 65 = .ok (.imul, 1) := by decide +kernel
theorem dX8_remembers_66 : decode cX8_remembers 66 = .ok (.iadd, 1) := by decide +kernel
theorem dX8_remembers_67 : decode cX8_remembers 67 = .ok (.istore_n 1, 1) := by decide +kernel
theorem dX8_remembers_68 : decode cX8_remembers 68 = .ok (.iconst 0, 1) := by decide +kernel
theorem dX8_remembers_69 : decode cX8_remembers 69 = .ok (.istore_n 2, 1) := by decide +kernel
theorem dX8_remembers_70 : decode cX8_remembers 70 = .ok (.iload_n 2, 1) := by decide +kernel
theorem dX8_remembers_71 : decode cX8_remembers 71 = .ok (.bipush 46, 2) := by decide +kernel
theorem dX8_remembers_73 : decode cX8_remembers 73 = .ok (.if_icmp .ge 23, 3) := by decide +kernel
theorem dX8_remembers_76 : decode cX8_remembers 76 = .ok (.aload_n 0, 1) := by decide +kernel
theorem dX8_remembers_77 : decode cX8_remembers 77 = .ok (.getfield 31, 3) := by decide +kernel
theorem dX8_remembers_80 : decode cX8_remembers 80 = .ok (.iload_n 1, 1) := by decide +kernel
theorem dX8_remembers_81 : decode cX8_remembers 81 = .ok (.iload_n 2, 1) := by decide +kernel
theorem dX8_remembers_82 : decode cX8_remembers 82 = .ok (.iadd, 1) := by decide +kernel
theorem dX8_remembers_83 : decode cX8_remembers 83 = .ok (.aload_n 0, 1) := by decide +kernel
theorem dX8_remembers_84 : decode cX8_remembers 84 = .ok (.getfield 31, 3) := by decide +kernel
theorem dX8_remembers_87 : decode cX8_remembers 87 = .ok (.iload_n 2, 1) := by decide +kernel
theorem dX8_remembers_88 : decode cX8_remembers 88 = .ok (.iaload, 1) := by decide +kernel
theorem dX8_remembers_89 : decode cX8_remembers 89 = .ok (.iastore, 1) := by decide +kernel
theorem dX8_remembers_90 : decode cX8_remembers 90 = .ok (.iinc 2 1, 3) := by decide +kernel
theorem dX8_remembers_93 : decode cX8_remembers 93 = .ok (.goto (-23), 3) := by decide +kernel
theorem dX8_remembers_96 : decode cX8_remembers 96 = .ok (.aload_n 0, 1) := by decide +kernel
theorem dX8_remembers_97 : decode cX8_remembers 97 = .ok (.getfield 31, 3) := by decide +kernel
theorem dX8_remembers_100 : decode cX8_remembers 100 = .ok (.bipush 46, 2) := by decide +kernel
theorem dX8_remembers_102 : decode cX8_remembers 102 = .ok (.dup2, 1) := by decide +kernel
theorem dX8_remembers_103 : decode cX8_remembers 103 = .ok (.iaload, 1) := by decide +kernel
theorem dX8_remembers_104 : decode cX8_remembers 104 = .ok (.iconst 1, 1) := by decide +kernel
theorem dX8_remembers_105 : decode cX8_remembers 105 = .ok (.iadd, 1) := by decide +kernel
theorem dX8_remembers_106 : decode cX8_remembers 106 = .ok (.iastore, 1) := by decide +kernel
theorem dX8_remembers_107 : decode cX8_remembers 107 = .ok (.return_, 1) := by decide +kernel
theorem dX8_hourGoes_0 : decode cX8_hourGoes 0 = .ok (.aload_n 0, 1) := by decide +kernel
theorem dX8_hourGoes_1 : decode cX8_hourGoes 1 = .ok (.getfield 31, 3) := by decide +kernel
theorem dX8_hourGoes_4 : decode cX8_hourGoes 4 = .ok (.iconst 0, 1) := by decide +kernel
theorem dX8_hourGoes_5 : decode cX8_hourGoes 5 = .ok (.iaload, 1) := by decide +kernel
theorem dX8_hourGoes_6 : decode cX8_hourGoes 6 = .ok (.istore_n 1, 1) := by decide +kernel
theorem dX8_hourGoes_7 : decode cX8_hourGoes 7 = .ok (.iconst 0, 1) := by decide +kernel
theorem dX8_hourGoes_8 : decode cX8_hourGoes 8 = .ok (.istore_n 2, 1) := by decide +kernel
theorem dX8_hourGoes_9 : decode cX8_hourGoes 9 = .ok (.iload_n 2, 1) := by decide +kernel
theorem dX8_hourGoes_10 : decode cX8_hourGoes 10 = .ok (.aload_n 0, 1) := by decide +kernel
theorem dX8_hourGoes_11 : decode cX8_hourGoes 11 = .ok (.getfield 74, 3) := by decide +kernel
theorem dX8_hourGoes_14 : decode cX8_hourGoes 14 = .ok (.if_icmp .ge 104, 3) := by decide +kernel
theorem dX8_hourGoes_17 : decode cX8_hourGoes 17 = .ok (.iconst 0, 1) := by decide +kernel
theorem dX8_hourGoes_18 : decode cX8_hourGoes 18 = .ok (.istore_n 3, 1) := by decide +kernel
theorem dX8_hourGoes_19 : decode cX8_hourGoes 19 = .ok (.iload_n 3, 1) := by decide +kernel
theorem dX8_hourGoes_20 : decode cX8_hourGoes 20 = .ok (.aload_n 0, 1) := by decide +kernel
theorem dX8_hourGoes_21 : decode cX8_hourGoes 21 = .ok (.getfield 82, 3) := by decide +kernel
theorem dX8_hourGoes_24 : decode cX8_hourGoes 24 = .ok (.if_icmp .ge 88, 3) := by decide +kernel
theorem dX8_hourGoes_27 : decode cX8_hourGoes 27 = .ok (.aload_n 0, 1) := by decide +kernel
theorem dX8_hourGoes_28 : decode cX8_hourGoes 28 = .ok (.iload_n 3, 1) := by decide +kernel
theorem dX8_hourGoes_29 : decode cX8_hourGoes 29 = .ok (.iload_n 1, 1) := by decide +kernel
theorem dX8_hourGoes_30 : decode cX8_hourGoes 30 = .ok (.invokevirtual 211, 3) := by decide +kernel
theorem dX8_hourGoes_33 : decode cX8_hourGoes 33 = .ok (.istore 4, 2) := by decide +kernel
theorem dX8_hourGoes_35 : decode cX8_hourGoes 35 = .ok (.iload 4, 2) := by decide +kernel
theorem dX8_hourGoes_37 : decode cX8_hourGoes 37 = .ok (.bipush (-9), 2) := by decide +kernel
theorem dX8_hourGoes_39 : decode cX8_hourGoes 39 = .ok (.if_icmp .eq 36, 3) := by decide +kernel
theorem dX8_hourGoes_42 : decode cX8_hourGoes 42 = .ok (.aload_n 0, 1) := by decide +kernel
theorem dX8_hourGoes_43 : decode cX8_hourGoes 43 = .ok (.iload_n 2, 1) := by decide +kernel
theorem dX8_hourGoes_44 : decode cX8_hourGoes 44 = .ok (.invokevirtual 204, 3) := by decide +kernel
theorem dX8_hourGoes_47 : decode cX8_hourGoes 47 = .ok (.ifCond .ne 28, 3) := by decide +kernel
theorem dX8_hourGoes_50 : decode cX8_hourGoes 50 = .ok (.aload_n 0, 1) := by decide +kernel
theorem dX8_hourGoes_51 : decode cX8_hourGoes 51 = .ok (.iload_n 2, 1) := by decide +kernel
theorem dX8_hourGoes_52 : decode cX8_hourGoes 52 = .ok (.iload 4, 2) := by decide +kernel
theorem dX8_hourGoes_54 : decode cX8_hourGoes 54 = .ok (.iload_n 1, 1) := by decide +kernel
theorem dX8_hourGoes_55 : decode cX8_hourGoes 55 = .ok (.invokevirtual 214, 3) := by decide +kernel
theorem dX8_hourGoes_58 : decode cX8_hourGoes 58 = .ok (.ifCond .eq 17, 3) := by decide +kernel
theorem dX8_hourGoes_61 : decode cX8_hourGoes 61 = .ok (.aload_n 0, 1) := by decide +kernel
theorem dX8_hourGoes_62 : decode cX8_hourGoes 62 = .ok (.iload 4, 2) := by decide +kernel
theorem dX8_hourGoes_64 : decode cX8_hourGoes 64 = .ok (.iload_n 1, 1) := by decide +kernel
theorem dX8_hourGoes_65 : decode cX8_hourGoes 65 = .ok (.invokevirtual 217, 3) := by decide +kernel
theorem dX8_hourGoes_68 : decode cX8_hourGoes 68 = .ok (.ifCond .ne 7, 3) := by decide +kernel
theorem dX8_hourGoes_71 : decode cX8_hourGoes 71 = .ok (.iconst 1, 1) := by decide +kernel
theorem dX8_hourGoes_72 : decode cX8_hourGoes 72 = .ok (.goto 4, 3) := by decide +kernel
theorem dX8_hourGoes_75 : decode cX8_hourGoes 75 = .ok (.iconst 0, 1) := by decide +kernel
theorem dX8_hourGoes_76 : decode cX8_hourGoes 76 = .ok (.istore 5, 2) := by decide +kernel
theorem dX8_hourGoes_78 : decode cX8_hourGoes 78 = .ok (.aload_n 0, 1) := by decide +kernel
theorem dX8_hourGoes_79 : decode cX8_hourGoes 79 = .ok (.getfield 31, 3) := by decide +kernel
theorem dX8_hourGoes_82 : decode cX8_hourGoes 82 = .ok (.bipush 25, 2) := by decide +kernel
theorem dX8_hourGoes_84 : decode cX8_hourGoes 84 = .ok (.iconst 4, 1) := by decide +kernel
theorem dX8_hourGoes_85 : decode cX8_hourGoes 85 = .ok (.iload_n 2, 1) := by decide +kernel
theorem dX8_hourGoes_86 : decode cX8_hourGoes 86 = .ok (.imul, 1) := by decide +kernel
theorem dX8_hourGoes_87 : decode cX8_hourGoes 87 = .ok (.iadd, 1) := by decide +kernel
theorem dX8_hourGoes_88 : decode cX8_hourGoes 88 = .ok (.iload_n 3, 1) := by decide +kernel
theorem dX8_hourGoes_89 : decode cX8_hourGoes 89 = .ok (.iadd, 1) := by decide +kernel
theorem dX8_hourGoes_90 : decode cX8_hourGoes 90 = .ok (.dup2, 1) := by decide +kernel
theorem dX8_hourGoes_91 : decode cX8_hourGoes 91 = .ok (.iaload, 1) := by decide +kernel
theorem dX8_hourGoes_92 : decode cX8_hourGoes 92 = .ok (.iload 5, 2) := by decide +kernel
theorem dX8_hourGoes_94 : decode cX8_hourGoes 94 = .ok (.ifCond .eq 9, 3) := by decide +kernel
theorem dX8_hourGoes_97 : decode cX8_hourGoes 97 = .ok (.iconst 1, 1) := by decide +kernel
theorem dX8_hourGoes_98 : decode cX8_hourGoes 98 = .ok (.iload_n 1, 1) := by decide +kernel
theorem dX8_hourGoes_99 : decode cX8_hourGoes 99 = .ok (.ishl, 1) := by decide +kernel
theorem dX8_hourGoes_100 : decode cX8_hourGoes 100 = .ok (.goto 4, 3) := by decide +kernel
theorem dX8_hourGoes_103 : decode cX8_hourGoes 103 = .ok (.iconst 0, 1) := by decide +kernel
theorem dX8_hourGoes_104 : decode cX8_hourGoes 104 = .ok (.ior, 1) := by decide +kernel
theorem dX8_hourGoes_105 : decode cX8_hourGoes 105 = .ok (.iastore, 1) := by decide +kernel
theorem dX8_hourGoes_106 : decode cX8_hourGoes 106 = .ok (.iinc 3 1, 3) := by decide +kernel
theorem dX8_hourGoes_109 : decode cX8_hourGoes 109 = .ok (.goto (-90), 3) := by decide +kernel
theorem dX8_hourGoes_112 : decode cX8_hourGoes 112 = .ok (.iinc 2 1, 3) := by decide +kernel
theorem dX8_hourGoes_115 : decode cX8_hourGoes 115 = .ok (.goto (-106), 3) := by decide +kernel
theorem dX8_hourGoes_118 : decode cX8_hourGoes 118 = .ok (.aload_n 0, 1) := by decide +kernel
theorem dX8_hourGoes_119 : decode cX8_hourGoes 119 = .ok (.getfield 31, 3) := by decide +kernel
theorem dX8_hourGoes_122 : decode cX8_hourGoes 122 = .ok (.iconst 0, 1) := by decide +kernel
theorem dX8_hourGoes_123 : decode cX8_hourGoes 123 = .ok (.dup2, 1) := by decide +kernel
theorem dX8_hourGoes_124 : decode cX8_hourGoes 124 = .ok (.iaload, 1) := by decide +kernel
theorem dX8_hourGoes_125 : decode cX8_hourGoes 125 = .ok (.iconst 1, 1) := by decide +kernel
theorem dX8_hourGoes_126 : decode cX8_hourGoes 126 = .ok (.iadd, 1) := by decide +kernel
theorem dX8_hourGoes_127 : decode cX8_hourGoes 127 = .ok (.iastore, 1) := by decide +kernel
theorem dX8_hourGoes_128 : decode cX8_hourGoes 128 = .ok (.return_, 1) := by decide +kernel
theorem dX8_hours_0 : decode cX8_hours 0 = .ok (.iload_n 1, 1) := by decide +kernel
theorem dX8_hours_1 : decode cX8_hours 1 = .ok (.iconst 1, 1) := by decide +kernel
theorem dX8_hours_2 : decode cX8_hours 2 = .ok (.bipush 9, 2) := by decide +kernel
theorem dX8_hours_4 : decode cX8_hours 4 = .ok (.invokestatic 78, 3) := by decide +kernel
theorem dX8_hours_7 : decode cX8_hours 7 = .ok (.ifCond .ne 5, 3) := by decide +kernel
theorem dX8_hours_10 : decode cX8_hours 10 = .ok (.iconst (-1), 1) := by decide +kernel
theorem dX8_hours_11 : decode cX8_hours 11 = .ok (.ireturn, 1) := by decide +kernel
theorem dX8_hours_12 : decode cX8_hours 12 = .ok (.aload_n 0, 1) := by decide +kernel
theorem dX8_hours_13 : decode cX8_hours 13 = .ok (.getfield 31, 3) := by decide +kernel
theorem dX8_hours_16 : decode cX8_hours 16 = .ok (.iconst 0, 1) := by decide +kernel
theorem dX8_hours_17 : decode cX8_hours 17 = .ok (.iaload, 1) := by decide +kernel
theorem dX8_hours_18 : decode cX8_hours 18 = .ok (.bipush 30, 2) := by decide +kernel
theorem dX8_hours_20 : decode cX8_hours 20 = .ok (.if_icmp .ne 6, 3) := by decide +kernel
theorem dX8_hours_23 : decode cX8_hours 23 = .ok (.bipush (-2), 2) := by decide +kernel
theorem dX8_hours_25 : decode cX8_hours 25 = .ok (.ireturn, 1) := by decide +kernel
theorem dX8_hours_26 : decode cX8_hours 26 = .ok (.aload_n 0, 1) := by decide +kernel
theorem dX8_hours_27 : decode cX8_hours 27 = .ok (.invokevirtual 220, 3) := by decide +kernel
theorem dX8_hours_30 : decode cX8_hours 30 = .ok (.iconst 0, 1) := by decide +kernel
theorem dX8_hours_31 : decode cX8_hours 31 = .ok (.istore_n 2, 1) := by decide +kernel
theorem dX8_hours_32 : decode cX8_hours 32 = .ok (.iload_n 2, 1) := by decide +kernel
theorem dX8_hours_33 : decode cX8_hours 33 = .ok (.iload_n 1, 1) := by decide +kernel
theorem dX8_hours_34 : decode cX8_hours 34 = .ok (.if_icmp .ge 24, 3) := by decide +kernel
theorem dX8_hours_37 : decode cX8_hours 37 = .ok (.aload_n 0, 1) := by decide +kernel
theorem dX8_hours_38 : decode cX8_hours 38 = .ok (.getfield 31, 3) := by decide +kernel
theorem dX8_hours_41 : decode cX8_hours 41 = .ok (.iconst 0, 1) := by decide +kernel
theorem dX8_hours_42 : decode cX8_hours 42 = .ok (.iaload, 1) := by decide +kernel
theorem dX8_hours_43 : decode cX8_hours 43 = .ok (.bipush 30, 2) := by decide +kernel
theorem dX8_hours_45 : decode cX8_hours 45 = .ok (.if_icmp .ge 13, 3) := by decide +kernel
theorem dX8_hours_48 : decode cX8_hours 48 = .ok (.aload_n 0, 1) := by decide +kernel
theorem dX8_hours_49 : decode cX8_hours 49 = .ok (.invokevirtual 223, 3) := by decide +kernel
theorem dX8_hours_52 : decode cX8_hours 52 = .ok (.iinc 2 1, 3) := by decide +kernel
theorem dX8_hours_55 : decode cX8_hours 55 = .ok (.goto (-23), 3) := by decide +kernel
theorem dX8_hours_58 : decode cX8_hours 58 = .ok (.aload_n 0, 1) := by decide +kernel
theorem dX8_hours_59 : decode cX8_hours 59 = .ok (.getfield 31, 3) := by decide +kernel
theorem dX8_hours_62 : decode cX8_hours 62 = .ok (.iconst 0, 1) := by decide +kernel
theorem dX8_hours_63 : decode cX8_hours 63 = .ok (.iaload, 1) := by decide +kernel
theorem dX8_hours_64 : decode cX8_hours 64 = .ok (.ireturn, 1) := by decide +kernel
theorem dX8_builds_0 : decode cX8_builds 0 = .ok (.iload_n 1, 1) := by decide +kernel
theorem dX8_builds_1 : decode cX8_builds 1 = .ok (.invokestatic 182, 3) := by decide +kernel
theorem dX8_builds_4 : decode cX8_builds 4 = .ok (.ifCond .eq 13, 3) := by decide +kernel
theorem dX8_builds_7 : decode cX8_builds 7 = .ok (.iload_n 2, 1) := by decide +kernel
theorem dX8_builds_8 : decode cX8_builds 8 = .ok (.iconst 0, 1) := by decide +kernel
theorem dX8_builds_9 : decode cX8_builds 9 = .ok (.bipush 9, 2) := by decide +kernel
theorem dX8_builds_11 : decode cX8_builds 11 = .ok (.invokestatic 78, 3) := by decide +kernel
theorem dX8_builds_14 : decode cX8_builds 14 = .ok (.ifCond .ne 5, 3) := by decide +kernel
theorem dX8_builds_17 : decode cX8_builds 17 = .ok (.iconst (-1), 1) := by decide +kernel
theorem dX8_builds_18 : decode cX8_builds 18 = .ok (.ireturn, 1) := by decide +kernel
theorem dX8_builds_19 : decode cX8_builds 19 = .ok (.aload_n 0, 1) := by decide +kernel
theorem dX8_builds_20 : decode cX8_builds 20 = .ok (.getfield 31, 3) := by decide +kernel
theorem dX8_builds_23 : decode cX8_builds 23 = .ok (.iconst 1, 1) := by decide +kernel
theorem dX8_builds_24 : decode cX8_builds 24 = .ok (.iload_n 1, 1) := by decide +kernel
theorem dX8_builds_25 : decode cX8_builds 25 = .ok (.iadd, 1) := by decide +kernel
theorem dX8_builds_26 : decode cX8_builds 26 = .ok (.iaload, 1) := by decide +kernel
theorem dX8_builds_27 : decode cX8_builds 27 = .ok (.istore_n 3, 1) := by decide +kernel
theorem dX8_builds_28 : decode cX8_builds 28 = .ok (.iload_n 3, 1) := by decide +kernel
theorem dX8_builds_29 : decode cX8_builds 29 = .ok (.iload_n 2, 1) := by decide +kernel
theorem dX8_builds_30 : decode cX8_builds 30 = .ok (.if_icmp .ne 6, 3) := by decide +kernel
theorem dX8_builds_33 : decode cX8_builds 33 = .ok (.bipush (-2), 2) := by decide +kernel
theorem dX8_builds_35 : decode cX8_builds 35 = .ok (.ireturn, 1) := by decide +kernel
theorem dX8_builds_36 : decode cX8_builds 36 = .ok (.aload_n 0, 1) := by decide +kernel
theorem dX8_builds_37 : decode cX8_builds 37 = .ok (.invokevirtual 220, 3) := by decide +kernel
theorem dX8_builds_40 : decode cX8_builds 40 = .ok (.aload_n 0, 1) := by decide +kernel
theorem dX8_builds_41 : decode cX8_builds 41 = .ok (.getfield 31, 3) := by decide +kernel
theorem dX8_builds_44 : decode cX8_builds 44 = .ok (.iconst 1, 1) := by decide +kernel
theorem dX8_builds_45 : decode cX8_builds 45 = .ok (.iload_n 1, 1) := by decide +kernel
theorem dX8_builds_46 : decode cX8_builds 46 = .ok (.iadd, 1) := by decide +kernel
theorem dX8_builds_47 : decode cX8_builds 47 = .ok (.iload_n 2, 1) := by decide +kernel
theorem dX8_builds_48 : decode cX8_builds 48 = .ok (.iastore, 1) := by decide +kernel
theorem dX8_builds_49 : decode cX8_builds 49 = .ok (.iload_n 3, 1) := by decide +kernel
theorem dX8_builds_50 : decode cX8_builds 50 = .ok (.ireturn, 1) := by decide +kernel
theorem dX8_asks_0 : decode cX8_asks 0 = .ok (.aload_n 0, 1) := by decide +kernel
theorem dX8_asks_1 : decode cX8_asks 1 = .ok (.iload_n 1, 1) := by decide +kernel
theorem dX8_asks_2 : decode cX8_asks 2 = .ok (.invokevirtual 201, 3) := by decide +kernel
theorem dX8_asks_5 : decode cX8_asks 5 = .ok (.ifCond .ne 5, 3) := by decide +kernel
theorem dX8_asks_8 : decode cX8_asks 8 = .ok (.iconst (-1), 1) := by decide +kernel
theorem dX8_asks_9 : decode cX8_asks 9 = .ok (.ireturn, 1) := by decide +kernel
theorem dX8_asks_10 : decode cX8_asks 10 = .ok (.aload_n 0, 1) := by decide +kernel
theorem dX8_asks_11 : decode cX8_asks 11 = .ok (.iload_n 1, 1) := by decide +kernel
theorem dX8_asks_12 : decode cX8_asks 12 = .ok (.invokevirtual 204, 3) := by decide +kernel
theorem dX8_asks_15 : decode cX8_asks 15 = .ok (.ifCond .eq 6, 3) := by decide +kernel
theorem dX8_asks_18 : decode cX8_asks 18 = .ok (.bipush (-2), 2) := by decide +kernel
theorem dX8_asks_20 : decode cX8_asks 20 = .ok (.ireturn, 1) := by decide +kernel
theorem dX8_asks_21 : decode cX8_asks 21 = .ok (.aload_n 0, 1) := by decide +kernel
theorem dX8_asks_22 : decode cX8_asks 22 = .ok (.invokevirtual 220, 3) := by decide +kernel
theorem dX8_asks_25 : decode cX8_asks 25 = .ok (.aload_n 0, 1) := by decide +kernel
theorem dX8_asks_26 : decode cX8_asks 26 = .ok (.invokevirtual 226, 3) := by decide +kernel
theorem dX8_asks_29 : decode cX8_asks 29 = .ok (.istore_n 2, 1) := by decide +kernel
theorem dX8_asks_30 : decode cX8_asks 30 = .ok (.aload_n 0, 1) := by decide +kernel
theorem dX8_asks_31 : decode cX8_asks 31 = .ok (.getfield 31, 3) := by decide +kernel
theorem dX8_asks_34 : decode cX8_asks 34 = .ok (.bipush 45, 2) := by decide +kernel
theorem dX8_asks_36 : decode cX8_asks 36 = .ok (.dup2, 1) := by decide +kernel
theorem dX8_asks_37 : decode cX8_asks 37 = .ok (.iaload, 1) := by decide +kernel
theorem dX8_asks_38 : decode cX8_asks 38 = .ok (.iconst 1, 1) := by decide +kernel
theorem dX8_asks_39 : decode cX8_asks 39 = .ok (.iload_n 1, 1) := by decide +kernel
theorem dX8_asks_40 : decode cX8_asks 40 = .ok (.ishl, 1) := by decide +kernel
theorem dX8_asks_41 : decode cX8_asks 41 = .ok (.ior, 1) := by decide +kernel
theorem dX8_asks_42 : decode cX8_asks 42 = .ok (.iastore, 1) := by decide +kernel
theorem dX8_asks_43 : decode cX8_asks 43 = .ok (.aload_n 0, 1) := by decide +kernel
theorem dX8_asks_44 : decode cX8_asks 44 = .ok (.invokevirtual 226, 3) := by decide +kernel
theorem dX8_asks_47 : decode cX8_asks 47 = .ok (.iload_n 2, 1) := by decide +kernel
theorem dX8_asks_48 : decode cX8_asks 48 = .ok (.isub, 1) := by decide +kernel
theorem dX8_asks_49 : decode cX8_asks 49 = .ok (.ireturn, 1) := by decide +kernel
theorem dX8_undo_0 : decode cX8_undo 0 = .ok (.aload_n 0, 1) := by decide +kernel
theorem dX8_undo_1 : decode cX8_undo 1 = .ok (.getfield 31, 3) := by decide +kernel
theorem dX8_undo_4 : decode cX8_undo 4 = .ok (.bipush 46, 2) := by decide +kernel
theorem dX8_undo_6 : decode cX8_undo 6 = .ok (.iaload, 1) := by decide +kernel
theorem dX8_undo_7 : decode cX8_undo 7 = .ok (.ifCond .ne 6, 3) := by decide +kernel
theorem dX8_undo_10 : decode cX8_undo 10 = .ok (.bipush (-2), 2) := by decide +kernel
theorem dX8_undo_12 : decode cX8_undo 12 = .ok (.ireturn, 1) := by decide +kernel
theorem dX8_undo_13 : decode cX8_undo 13 = .ok (.aload_n 0, 1) := by decide +kernel
theorem dX8_undo_14 : decode cX8_undo 14 = .ok (.getfield 31, 3) := by decide +kernel
theorem dX8_undo_17 : decode cX8_undo 17 = .ok (.bipush 46, 2) := by decide +kernel
theorem dX8_undo_19 : decode cX8_undo 19 = .ok (.dup2, 1) := by decide +kernel
theorem dX8_undo_20 : decode cX8_undo 20 = .ok (.iaload, 1) := by decide +kernel
theorem dX8_undo_21 : decode cX8_undo 21 = .ok (.iconst 1, 1) := by decide +kernel
theorem dX8_undo_22 : decode cX8_undo 22 = .ok (.isub, 1) := by decide +kernel
theorem dX8_undo_23 : decode cX8_undo 23 = .ok (.iastore, 1) := by decide +kernel
theorem dX8_undo_24 : decode cX8_undo 24 = .ok (.bipush 47, 2) := by decide +kernel
theorem dX8_undo_26 : decode cX8_undo 26 = .ok (.bipush 46, 2) := by decide +kernel
theorem dX8_undo_28 : decode cX8_undo 28 = .ok (.aload_n 0, 1) := by decide +kernel
theorem dX8_undo_29 : decode cX8_undo 29 = .ok (.getfield 31, 3) := by decide +kernel
theorem dX8_undo_32 : decode cX8_undo 32 = .ok (.bipush 46, 2) := by decide +kernel
theorem dX8_undo_34 : decode cX8_undo 34 = .ok (.iaload, 1) := by decide +kernel
theorem dX8_undo_35 : decode cX8_undo 35 = .ok (.imul, 1) := by decide +kernel
theorem dX8_undo_36 : decode cX8_undo 36 = .ok (.iadd, 1) := by decide +kernel
theorem dX8_undo_37 : decode cX8_undo 37 = .ok (.istore_n 1, 1) := by decide +kernel
theorem dX8_undo_38 : decode cX8_undo 38 = .ok (.iconst 0, 1) := by decide +kernel
theorem dX8_undo_39 : decode cX8_undo 39 = .ok (.istore_n 2, 1) := by decide +kernel
theorem dX8_undo_40 : decode cX8_undo 40 = .ok (.iload_n 2, 1) := by decide +kernel
theorem dX8_undo_41 : decode cX8_undo 41 = .ok (.bipush 46, 2) := by decide +kernel
theorem dX8_undo_43 : decode cX8_undo 43 = .ok (.if_icmp .ge 23, 3) := by decide +kernel
theorem dX8_undo_46 : decode cX8_undo 46 = .ok (.aload_n 0, 1) := by decide +kernel
theorem dX8_undo_47 : decode cX8_undo 47 = .ok (.getfield 31, 3) := by decide +kernel
theorem dX8_undo_50 : decode cX8_undo 50 = .ok (.iload_n 2, 1) := by decide +kernel
theorem dX8_undo_51 : decode cX8_undo 51 = .ok (.aload_n 0, 1) := by decide +kernel
theorem dX8_undo_52 : decode cX8_undo 52 = .ok (.getfield 31, 3) := by decide +kernel
theorem dX8_undo_55 : decode cX8_undo 55 = .ok (.iload_n 1, 1) := by decide +kernel
theorem dX8_undo_56 : decode cX8_undo 56 = .ok (.iload_n 2, 1) := by decide +kernel
theorem dX8_undo_57 : decode cX8_undo 57 = .ok (.iadd, 1) := by decide +kernel
theorem dX8_undo_58 : decode cX8_undo 58 = .ok (.iaload, 1) := by decide +kernel
theorem dX8_undo_59 : decode cX8_undo 59 = .ok (.iastore, 1) := by decide +kernel
theorem dX8_undo_60 : decode cX8_undo 60 = .ok (.iinc 2 1, 3) := by decide +kernel
theorem dX8_undo_63 : decode cX8_undo 63 = .ok (.goto (-23), 3) := by decide +kernel
theorem dX8_undo_66 : decode cX8_undo 66 = .ok (.aload_n 0, 1) := by decide +kernel
theorem dX8_undo_67 : decode cX8_undo 67 = .ok (.getfield 31, 3) := by decide +kernel
theorem dX8_undo_70 : decode cX8_undo 70 = .ok (.bipush 46, 2) := by decide +kernel
theorem dX8_undo_72 : decode cX8_undo 72 = .ok (.iaload, 1) := by decide +kernel
theorem dX8_undo_73 : decode cX8_undo 73 = .ok (.ireturn, 1) := by decide +kernel
theorem dX8_now_0 : decode cX8_now 0 = .ok (.iload_n 1, 1) := by decide +kernel
theorem dX8_now_1 : decode cX8_now 1 = .ok (.tableswitch 69 0 4 #[35, 42, 50, 55, 64], 35) := by decide +kernel
theorem dX8_now_36 : decode cX8_now 36 = .ok (.aload_n 0, 1) := by decide +kernel
theorem dX8_now_37 : decode cX8_now 37 = .ok (.getfield 31, 3) := by decide +kernel
theorem dX8_now_40 : decode cX8_now 40 = .ok (.iconst 0, 1) := by decide +kernel
theorem dX8_now_41 : decode cX8_now 41 = .ok (.iaload, 1) := by decide +kernel
theorem dX8_now_42 : decode cX8_now 42 = .ok (.ireturn, 1) := by decide +kernel
theorem dX8_now_43 : decode cX8_now 43 = .ok (.aload_n 0, 1) := by decide +kernel
theorem dX8_now_44 : decode cX8_now 44 = .ok (.getfield 31, 3) := by decide +kernel
theorem dX8_now_47 : decode cX8_now 47 = .ok (.bipush 45, 2) := by decide +kernel
theorem dX8_now_49 : decode cX8_now 49 = .ok (.iaload, 1) := by decide +kernel
theorem dX8_now_50 : decode cX8_now 50 = .ok (.ireturn, 1) := by decide +kernel
theorem dX8_now_51 : decode cX8_now 51 = .ok (.aload_n 0, 1) := by decide +kernel
theorem dX8_now_52 : decode cX8_now 52 = .ok (.invokevirtual 226, 3) := by decide +kernel
theorem dX8_now_55 : decode cX8_now 55 = .ok (.ireturn, 1) := by decide +kernel
theorem dX8_now_56 : decode cX8_now 56 = .ok (.aload_n 0, 1) := by decide +kernel
theorem dX8_now_57 : decode cX8_now 57 = .ok (.aload_n 0, 1) := by decide +kernel
theorem dX8_now_58 : decode cX8_now 58 = .ok (.invokevirtual 194, 3) := by decide +kernel
theorem dX8_now_61 : decode cX8_now 61 = .ok (.invokevirtual 191, 3) := by decide +kernel
theorem dX8_now_64 : decode cX8_now 64 = .ok (.ireturn, 1) := by decide +kernel
theorem dX8_now_65 : decode cX8_now 65 = .ok (.aload_n 0, 1) := by decide +kernel
theorem dX8_now_66 : decode cX8_now 66 = .ok (.invokevirtual 229, 3) := by decide +kernel
theorem dX8_now_69 : decode cX8_now 69 = .ok (.ireturn, 1) := by decide +kernel
theorem dX8_now_70 : decode cX8_now 70 = .ok (.iconst (-1), 1) := by decide +kernel
theorem dX8_now_71 : decode cX8_now 71 = .ok (.ireturn, 1) := by decide +kernel
theorem dX8_viewOf_0 : decode cX8_viewOf 0 = .ok (.iconst 0, 1) := by decide +kernel
theorem dX8_viewOf_1 : decode cX8_viewOf 1 = .ok (.istore_n 3, 1) := by decide +kernel
theorem dX8_viewOf_2 : decode cX8_viewOf 2 = .ok (.iconst 0, 1) := by decide +kernel
theorem dX8_viewOf_3 : decode cX8_viewOf 3 = .ok (.istore 4, 2) := by decide +kernel
theorem dX8_viewOf_5 : decode cX8_viewOf 5 = .ok (.iload 4, 2) := by decide +kernel
theorem dX8_viewOf_7 : decode cX8_viewOf 7 = .ok (.bipush 24, 2) := by decide +kernel
theorem dX8_viewOf_9 : decode cX8_viewOf 9 = .ok (.if_icmp .ge 31, 3) := by decide +kernel
theorem dX8_viewOf_12 : decode cX8_viewOf 12 = .ok (.iload_n 3, 1) := by decide +kernel
theorem dX8_viewOf_13 : decode cX8_viewOf 13 = .ok (.aload_n 0, 1) := by decide +kernel
theorem dX8_viewOf_14 : decode cX8_viewOf 14 = .ok (.iload_n 1, 1) := by decide +kernel
theorem dX8_viewOf_15 : decode cX8_viewOf 15 = .ok (.iload 4, 2) := by decide +kernel
theorem dX8_viewOf_17 : decode cX8_viewOf 17 = .ok (.iload_n 2, 1) := by decide +kernel
theorem dX8_viewOf_18 : decode cX8_viewOf 18 = .ok (.invokevirtual 214, 3) := by decide +kernel
theorem dX8_viewOf_21 : decode cX8_viewOf 21 = .ok (.ifCond .eq 10, 3) := by decide +kernel
theorem dX8_viewOf_24 : decode cX8_viewOf 24 = .ok (.iconst 1, 1) := by decide +kernel
theorem dX8_viewOf_25 : decode cX8_viewOf 25 = .ok (.iload 4, 2) := by decide +kernel
theorem dX8_viewOf_27 : decode cX8_viewOf 27 = .ok (.ishl, 1) := by decide +kernel
theorem dX8_viewOf_28 : decode cX8_viewOf 28 = .ok (.goto 4, 3) := by decide +kernel
theorem dX8_viewOf_31 : decode cX8_viewOf 31 = .ok (.iconst 0, 1) := by decide +kernel
theorem dX8_viewOf_32 : decode cX8_viewOf 32 = .ok (.ior, 1) := by decide +kernel
theorem dX8_viewOf_33 : decode cX8_viewOf 33 = .ok (.istore_n 3, 1) := by decide +kernel
theorem dX8_viewOf_34 : decode cX8_viewOf 34 = .ok (.iinc 4 1, 3) := by decide +kernel
theorem dX8_viewOf_37 : decode cX8_viewOf 37 = .ok (.goto (-32), 3) := by decide +kernel
theorem dX8_viewOf_40 : decode cX8_viewOf 40 = .ok (.iload_n 3, 1) := by decide +kernel
theorem dX8_viewOf_41 : decode cX8_viewOf 41 = .ok (.ireturn, 1) := by decide +kernel
theorem dX8_view_0 : decode cX8_view 0 = .ok (.aload_n 0, 1) := by decide +kernel
theorem dX8_view_1 : decode cX8_view 1 = .ok (.iload_n 1, 1) := by decide +kernel
theorem dX8_view_2 : decode cX8_view 2 = .ok (.invokevirtual 201, 3) := by decide +kernel
theorem dX8_view_5 : decode cX8_view 5 = .ok (.ifCond .eq 19, 3) := by decide +kernel
theorem dX8_view_8 : decode cX8_view 8 = .ok (.iload_n 2, 1) := by decide +kernel
theorem dX8_view_9 : decode cX8_view 9 = .ok (.invokestatic 232, 3) := by decide +kernel
theorem dX8_view_12 : decode cX8_view 12 = .ok (.ifCond .eq 12, 3) := by decide +kernel
theorem dX8_view_15 : decode cX8_view 15 = .ok (.aload_n 0, 1) := by decide +kernel
theorem dX8_view_16 : decode cX8_view 16 = .ok (.iload_n 1, 1) := by decide +kernel
theorem dX8_view_17 : decode cX8_view 17 = .ok (.iload_n 2, 1) := by decide +kernel
theorem dX8_view_18 : decode cX8_view 18 = .ok (.invokevirtual 235, 3) := by decide +kernel
theorem dX8_view_21 : decode cX8_view 21 = .ok (.goto 4, 3) := by decide +kernel
theorem dX8_view_24 : decode cX8_view 24 = .ok (.iconst (-1), 1) := by decide +kernel
theorem dX8_view_25 : decode cX8_view 25 = .ok (.ireturn, 1) := by decide +kernel
theorem dX8_blind_0 : decode cX8_blind 0 = .ok (.iload_n 1, 1) := by decide +kernel
theorem dX8_blind_1 : decode cX8_blind 1 = .ok (.invokestatic 232, 3) := by decide +kernel
theorem dX8_blind_4 : decode cX8_blind 4 = .ok (.ifCond .ne 5, 3) := by decide +kernel
theorem dX8_blind_7 : decode cX8_blind 7 = .ok (.iconst (-1), 1) := by decide +kernel
theorem dX8_blind_8 : decode cX8_blind 8 = .ok (.ireturn, 1) := by decide +kernel
theorem dX8_blind_9 : decode cX8_blind 9 = .ok (.ldc 238, 2) := by decide +kernel
theorem dX8_blind_11 : decode cX8_blind 11 = .ok (.istore_n 2, 1) := by decide +kernel
theorem dX8_blind_12 : decode cX8_blind 12 = .ok (.iconst 0, 1) := by decide +kernel
theorem dX8_blind_13 : decode cX8_blind 13 = .ok (.istore_n 3, 1) := by decide +kernel
theorem dX8_blind_14 : decode cX8_blind 14 = .ok (.iload_n 3, 1) := by decide +kernel
theorem dX8_blind_15 : decode cX8_blind 15 = .ok (.aload_n 0, 1) := by decide +kernel
theorem dX8_blind_16 : decode cX8_blind 16 = .ok (.getfield 74, 3) := by decide +kernel
theorem dX8_blind_19 : decode cX8_blind 19 = .ok (.if_icmp .ge 32, 3) := by decide +kernel
theorem dX8_blind_22 : decode cX8_blind 22 = .ok (.iload_n 2, 1) := by decide +kernel
theorem dX8_blind_23 : decode cX8_blind 23 = .ok (.aload_n 0, 1) := by decide +kernel
theorem dX8_blind_24 : decode cX8_blind 24 = .ok (.iload_n 3, 1) := by decide +kernel
theorem dX8_blind_25 : decode cX8_blind 25 = .ok (.invokevirtual 204, 3) := by decide +kernel
theorem dX8_blind_28 : decode cX8_blind 28 = .ok (.ifCond .eq 7, 3) := by decide +kernel
theorem dX8_blind_31 : decode cX8_blind 31 = .ok (.iload_n 2, 1) := by decide +kernel
theorem dX8_blind_32 : decode cX8_blind 32 = .ok (.goto 11, 3) := by decide +kernel
theorem dX8_blind_35 : decode cX8_blind 35 = .ok (.aload_n 0, 1) := by decide +kernel
theorem dX8_blind_36 : decode cX8_blind 36 = .ok (.iload_n 3, 1) := by decide +kernel
theorem dX8_blind_37 : decode cX8_blind 37 = .ok (.iload_n 1, 1) := by decide +kernel
theorem dX8_blind_38 : decode cX8_blind 38 = .ok (.invokevirtual 235, 3) := by decide +kernel
theorem dX8_blind_41 : decode cX8_blind 41 = .ok (.iconst (-1), 1) := by decide +kernel
theorem dX8_blind_42 : decode cX8_blind 42 = .ok (.ixor, 1) := by decide +kernel
theorem dX8_blind_43 : decode cX8_blind 43 = .ok (.iand, 1) := by decide +kernel
theorem dX8_blind_44 : decode cX8_blind 44 = .ok (.istore_n 2, 1) := by decide +kernel
theorem dX8_blind_45 : decode cX8_blind 45 = .ok (.iinc 3 1, 3) := by decide +kernel
theorem dX8_blind_48 : decode cX8_blind 48 = .ok (.goto (-34), 3) := by decide +kernel
theorem dX8_blind_51 : decode cX8_blind 51 = .ok (.iload_n 2, 1) := by decide +kernel
theorem dX8_blind_52 : decode cX8_blind 52 = .ok (.ireturn, 1) := by decide +kernel
theorem dX8_takes_0 : decode cX8_takes 0 = .ok (.iconst 0, 1) := by decide +kernel
theorem dX8_takes_1 : decode cX8_takes 1 = .ok (.istore_n 2, 1) := by decide +kernel
theorem dX8_takes_2 : decode cX8_takes 2 = .ok (.iconst 0, 1) := by decide +kernel
