abbrev cX12_isIn : ByteArray := prog_14_method_22_code
def yX12_isIn : MethodName := ⟨RX12, "isIn", "(JJJ)Z"⟩
abbrev cX12_byteAt : ByteArray := prog_14_method_23_code
def yX12_byteAt : MethodName := ⟨RX12, "byteAt", "(I)I"⟩
abbrev cX12_scan : ByteArray := prog_14_method_28_code
def yX12_scan : MethodName := ⟨RX12, "scan", "()V"⟩
abbrev cX12_feed : ByteArray := prog_14_method_92_code
def yX12_feed : MethodName := ⟨RX12, "feed", "(JJJJJ)I"⟩
abbrev cX12_end : ByteArray := prog_14_method_93_code
def yX12_end : MethodName := ⟨RX12, "end", "(I)I"⟩
abbrev cX12_run : ByteArray := prog_14_method_94_code
def yX12_run : MethodName := ⟨RX12, "run", "()I"⟩
abbrev cX12_wrong : ByteArray := prog_14_method_96_code
def yX12_wrong : MethodName := ⟨RX12, "wrong", "()I"⟩
abbrev cX12_outputs : ByteArray := prog_14_method_97_code
def yX12_outputs : MethodName := ⟨RX12, "outputs", "()I"⟩
abbrev cX12_out : ByteArray := prog_14_method_98_code
def yX12_out : MethodName := ⟨RX12, "out", "(I)I"⟩
abbrev cX12_steps : ByteArray := prog_14_method_99_code
def yX12_steps : MethodName := ⟨RX12, "steps", "()I"⟩
abbrev cX12_hypotheses : ByteArray := prog_14_method_100_code
def yX12_hypotheses : MethodName := ⟨RX12, "hypotheses", "(I)I"⟩
abbrev cX12_facts : ByteArray := prog_14_method_101_code
def yX12_facts : MethodName := ⟨RX12, "facts", "()I"⟩
abbrev cX12_leans : ByteArray := prog_14_method_102_code
def yX12_leans : MethodName := ⟨RX12, "leans", "(II)I"⟩
abbrev cX12_inductive : ByteArray := prog_14_method_103_code
def yX12_inductive : MethodName := ⟨RX12, "inductive", "(I)I"⟩
abbrev cX12_refusals : ByteArray := prog_14_method_104_code
def yX12_refusals : MethodName := ⟨RX12, "refusals", "(I)I"⟩
theorem dX12_isIn_0 : decode cX12_isIn 0 = .ok (.lload_n 0, 1) := by decide +kernel
theorem dX12_isIn_1 : decode cX12_isIn 1 = .ok (.lload_n 2, 1) := by decide +kernel
theorem dX12_isIn_2 : decode cX12_isIn 2 = .ok (.lcmp, 1) := by decide +kernel
theorem dX12_isIn_3 : decode cX12_isIn 3 = .ok (.ifCond .lt 14, 3) := by decide +kernel
theorem dX12_isIn_6 : decode cX12_isIn 6 = .ok (.lload_n 0, 1) := by decide +kernel
theorem dX12_isIn_7 : decode cX12_isIn 7 = .ok (.lload 4, 2) := by decide +kernel
theorem dX12_isIn_9 : decode cX12_isIn 9 = .ok (.lcmp, 1) := by decide +kernel
theorem dX12_isIn_10 : decode cX12_isIn 10 = .ok (.ifCond .gt 7, 3) := by decide +kernel
theorem dX12_isIn_13 : decode cX12_isIn 13 = .ok (.iconst 1, 1) := by decide +kernel
theorem dX12_isIn_14 : decode cX12_isIn 14 = .ok (.goto 4, 3) := by decide +kernel
theorem dX12_isIn_17 : decode cX12_isIn 17 = .ok (.iconst 0, 1) := by decide +kernel
theorem dX12_isIn_18 : decode cX12_isIn 18 = .ok (.ireturn, 1) := by decide +kernel
theorem dX12_byteAt_0 : decode cX12_byteAt 0 = .ok (.iload_n 1, 1) := by decide +kernel
theorem dX12_byteAt_1 : decode cX12_byteAt 1 = .ok (.aload_n 0, 1) := by decide +kernel
theorem dX12_byteAt_2 : decode cX12_byteAt 2 = .ok (.getfield 128, 3) := by decide +kernel
theorem dX12_byteAt_5 : decode cX12_byteAt 5 = .ok (.if_icmp .ge 12, 3) := by decide +kernel
theorem dX12_byteAt_8 : decode cX12_byteAt 8 = .ok (.aload_n 0, 1) := by decide +kernel
theorem dX12_byteAt_9 : decode cX12_byteAt 9 = .ok (.getfield 17, 3) := by decide +kernel
theorem dX12_byteAt_12 : decode cX12_byteAt 12 = .ok (.iload_n 1, 1) := by decide +kernel
theorem dX12_byteAt_13 : decode cX12_byteAt 13 = .ok (.iaload, 1) := by decide +kernel
theorem dX12_byteAt_14 : decode cX12_byteAt 14 = .ok (.goto 4, 3) := by decide +kernel
theorem dX12_byteAt_17 : decode cX12_byteAt 17 = .ok (.iconst (-1), 1) := by decide +kernel
theorem dX12_byteAt_18 : decode cX12_byteAt 18 = .ok (.ireturn, 1) := by decide +kernel
theorem dX12_scan_0 : decode cX12_scan 0 = .ok (.aload_n 0, 1) := by decide +kernel
theorem dX12_scan_1 : decode cX12_scan 1 = .ok (.aload_n 0, 1) := by decide +kernel
theorem dX12_scan_2 : decode cX12_scan 2 = .ok (.getfield 147, 3) := by decide +kernel
theorem dX12_scan_5 : decode cX12_scan 5 = .ok (.invokevirtual 150, 3) := by decide +kernel
theorem dX12_scan_8 : decode cX12_scan 8 = .ok (.bipush 32, 2) := by decide +kernel
theorem dX12_scan_10 : decode cX12_scan 10 = .ok (.if_icmp .eq 16, 3) := by decide +kernel
theorem dX12_scan_13 : decode cX12_scan 13 = .ok (.aload_n 0, 1) := by decide +kernel
theorem dX12_scan_14 : decode cX12_scan 14 = .ok (.aload_n 0, 1) := by decide +kernel
theorem dX12_scan_15 : decode cX12_scan 15 = .ok (.getfield 147, 3) := by decide +kernel
theorem dX12_scan_18 : decode cX12_scan 18 = .ok (.invokevirtual 150, 3) := by decide +kernel
theorem dX12_scan_21 : decode cX12_scan 21 = .ok (.bipush 10, 2) := by decide +kernel
theorem dX12_scan_23 : decode cX12_scan 23 = .ok (.if_icmp .ne 16, 3) := by decide +kernel
theorem dX12_scan_26 : decode cX12_scan 26 = .ok (.aload_n 0, 1) := by decide +kernel
theorem dX12_scan_27 : decode cX12_scan 27 = .ok (.dup, 1) := by decide +kernel
theorem dX12_scan_28 : decode cX12_scan 28 = .ok (.getfield 147, 3) := by decide +kernel
theorem dX12_scan_31 : decode cX12_scan 31 = .ok (.iconst 1, 1) := by decide +kernel
theorem dX12_scan_32 : decode cX12_scan 32 = .ok (.iadd, 1) := by decide +kernel
theorem dX12_scan_33 : decode cX12_scan 33 = .ok (.putfield 147, 3) := by decide +kernel
theorem dX12_scan_36 : decode cX12_scan 36 = .ok (.goto (-36), 3) := by decide +kernel
theorem dX12_scan_39 : decode cX12_scan 39 = .ok (.aload_n 0, 1) := by decide +kernel
theorem dX12_scan_40 : decode cX12_scan 40 = .ok (.aload_n 0, 1) := by decide +kernel
theorem dX12_scan_41 : decode cX12_scan 41 = .ok (.getfield 147, 3) := by decide +kernel
theorem dX12_scan_44 : decode cX12_scan 44 = .ok (.putfield 153, 3) := by decide +kernel
theorem dX12_scan_47 : decode cX12_scan 47 = .ok (.aload_n 0, 1) := by decide +kernel
theorem dX12_scan_48 : decode cX12_scan 48 = .ok (.iconst 0, 1) := by decide +kernel
theorem dX12_scan_49 : decode cX12_scan 49 = .ok (.putfield 156, 3) := by decide +kernel
theorem dX12_scan_52 : decode cX12_scan 52 = .ok (.aload_n 0, 1) := by decide +kernel
theorem dX12_scan_53 : decode cX12_scan 53 = .ok (.aload_n 0, 1) := by decide +kernel
theorem dX12_scan_54 : decode cX12_scan 54 = .ok (.getfield 147, 3) := by decide +kernel
theorem dX12_scan_57 : decode cX12_scan 57 = .ok (.invokevirtual 150, 3) := by decide +kernel
theorem dX12_scan_60 : decode cX12_scan 60 = .ok (.istore_n 1, 1) := by decide +kernel
theorem dX12_scan_61 : decode cX12_scan 61 = .ok (.iload_n 1, 1) := by decide +kernel
theorem dX12_scan_62 : decode cX12_scan 62 = .ok (.ifCond .ge 11, 3) := by decide +kernel
theorem dX12_scan_65 : decode cX12_scan 65 = .ok (.aload_n 0, 1) := by decide +kernel
theorem dX12_scan_66 : decode cX12_scan 66 = .ok (.iconst 0, 1) := by decide +kernel
theorem dX12_scan_67 : decode cX12_scan 67 = .ok (.putfield 159, 3) := by decide +kernel
theorem dX12_scan_70 : decode cX12_scan 70 = .ok (.goto 178, 3) := by decide +kernel
theorem dX12_scan_73 : decode cX12_scan 73 = .ok (.iload_n 1, 1) := by decide +kernel
theorem dX12_scan_74 : decode cX12_scan 74 = .ok (.invokestatic 162, 3) := by decide +kernel
theorem dX12_scan_77 : decode cX12_scan 77 = .ok (.ifCond .eq 35, 3) := by decide +kernel
theorem dX12_scan_80 : decode cX12_scan 80 = .ok (.aload_n 0, 1) := by decide +kernel
theorem dX12_scan_81 : decode cX12_scan 81 = .ok (.iconst 2, 1) := by decide +kernel
theorem dX12_scan_82 : decode cX12_scan 82 = .ok (.putfield 159, 3) := by decide +kernel
theorem dX12_scan_85 : decode cX12_scan 85 = .ok (.aload_n 0, 1) := by decide +kernel
theorem dX12_scan_86 : decode cX12_scan 86 = .ok (.aload_n 0, 1) := by decide +kernel
theorem dX12_scan_87 : decode cX12_scan 87 = .ok (.getfield 147, 3) := by decide +kernel
theorem dX12_scan_90 : decode cX12_scan 90 = .ok (.invokevirtual 150, 3) := by decide +kernel
theorem dX12_scan_93 : decode cX12_scan 93 = .ok (.invokestatic 162, 3) := by decide +kernel
theorem dX12_scan_96 : decode cX12_scan 96 = .ok (.ifCond .eq 152, 3) := by decide +kernel
theorem dX12_scan_99 : decode cX12_scan 99 = .ok (.aload_n 0, 1) := by decide +kernel
theorem dX12_scan_100 : decode cX12_scan 100 = .ok (.dup, 1) := by decide +kernel
theorem dX12_scan_101 : decode cX12_scan 101 = .ok (.getfield 147, 3) := by decide +kernel
theorem dX12_scan_104 : decode cX12_scan 104 = .ok (.iconst 1, 1) := by decide +kernel
theorem dX12_scan_105 : decode cX12_scan 105 = .ok (.iadd, 1) := by decide +kernel
theorem dX12_scan_106 : decode cX12_scan 106 = .ok (.putfield 147, 3) := by decide +kernel
theorem dX12_scan_109 : decode cX12_scan 109 = .ok (.goto (-24), 3) := by decide +kernel
theorem dX12_scan_112 : decode cX12_scan 112 = .ok (.iload_n 1, 1) := by decide +kernel
theorem dX12_scan_113 : decode cX12_scan 113 = .ok (.invokestatic 165, 3) := by decide +kernel
theorem dX12_scan_116 : decode cX12_scan 116 = .ok (.ifCond .eq 70, 3) := by decide +kernel
theorem dX12_scan_119 : decode cX12_scan 119 = .ok (.aload_n 0, 1) := by decide +kernel
theorem dX12_scan_120 : decode cX12_scan 120 = .ok (.aload_n 0, 1) := by decide +kernel
theorem dX12_scan_121 : decode cX12_scan 121 = .ok (.getfield 147, 3) := by decide +kernel
theorem dX12_scan_124 : decode cX12_scan 124 = .ok (.invokevirtual 150, 3) := by decide +kernel
theorem dX12_scan_127 : decode cX12_scan 127 = .ok (.invokestatic 165, 3) := by decide +kernel
theorem dX12_scan_130 : decode cX12_scan 130 = .ok (.ifCond .ne 17, 3) := by decide +kernel
theorem dX12_scan_133 : decode cX12_scan 133 = .ok (.aload_n 0, 1) := by decide +kernel
theorem dX12_scan_134 : decode cX12_scan 134 = .ok (.aload_n 0, 1) := by decide +kernel
theorem dX12_scan_135 : decode cX12_scan 135 = .ok (.getfield 147, 3) := by decide +kernel
theorem dX12_scan_138 : decode cX12_scan 138 = .ok (.invokevirtual 150, 3) := by decide +kernel
theorem dX12_scan_141 : decode cX12_scan 141 = .ok (.invokestatic 168, 3) := by decide +kernel
theorem dX12_scan_144 : decode cX12_scan 144 = .ok (.ifCond .eq 16, 3) := by decide +kernel
theorem dX12_scan_147 : decode cX12_scan 147 = .ok (.aload_n 0, 1) := by decide +kernel
theorem dX12_scan_148 : decode cX12_scan 148 = .ok (.dup, 1) := by decide +kernel
theorem dX12_scan_149 : decode cX12_scan 149 = .ok (.getfield 147, 3) := by decide +kernel
theorem dX12_scan_152 : decode cX12_scan 152 = .ok (.iconst 1, 1) := by decide +kernel
theorem dX12_scan_153 : decode cX12_scan 153 = .ok (.iadd, 1) := by decide +kernel
theorem dX12_scan_154 : decode cX12_scan 154 = .ok (.putfield 147, 3) := by decide +kernel
theorem dX12_scan_157 : decode cX12_scan 157 = .ok (.goto (-38), 3) := by decide +kernel
theorem dX12_scan_160 : decode cX12_scan 160 = .ok (.aload_n 0, 1) := by decide +kernel
theorem dX12_scan_161 : decode cX12_scan 161 = .ok (.aload_n 0, 1) := by decide +kernel
theorem dX12_scan_162 : decode cX12_scan 162 = .ok (.getfield 147, 3) := by decide +kernel
theorem dX12_scan_165 : decode cX12_scan 165 = .ok (.aload_n 0, 1) := by decide +kernel
theorem dX12_scan_166 : decode cX12_scan 166 = .ok (.getfield 153, 3) := by decide +kernel
theorem dX12_scan_169 : decode cX12_scan 169 = .ok (.isub, 1) := by decide +kernel
theorem dX12_scan_170 : decode cX12_scan 170 = .ok (.bipush 12, 2) := by decide +kernel
theorem dX12_scan_172 : decode cX12_scan 172 = .ok (.if_icmp .le 7, 3) := by decide +kernel
theorem dX12_scan_175 : decode cX12_scan 175 = .ok (.iconst 1, 1) := by decide +kernel
theorem dX12_scan_176 : decode cX12_scan 176 = .ok (.goto 4, 3) := by decide +kernel
theorem dX12_scan_179 : decode cX12_scan 179 = .ok (.iconst 3, 1) := by decide +kernel
theorem dX12_scan_180 : decode cX12_scan 180 = .ok (.putfield 159, 3) := by decide +kernel
theorem dX12_scan_183 : decode cX12_scan 183 = .ok (.goto 65, 3) := by decide +kernel
theorem dX12_scan_186 : decode cX12_scan 186 = .ok (.iload_n 1, 1) := by decide +kernel
theorem dX12_scan_187 : decode cX12_scan 187 = .ok (.invokestatic 168, 3) := by decide +kernel
theorem dX12_scan_190 : decode cX12_scan 190 = .ok (.ifCond .ne 9, 3) := by decide +kernel
theorem dX12_scan_193 : decode cX12_scan 193 = .ok (.iload_n 1, 1) := by decide +kernel
theorem dX12_scan_194 : decode cX12_scan 194 = .ok (.bipush 45, 2) := by decide +kernel
theorem dX12_scan_196 : decode cX12_scan 196 = .ok (.if_icmp .ne 21, 3) := by decide +kernel
theorem dX12_scan_199 : decode cX12_scan 199 = .ok (.aload_n 0, 1) := by decide +kernel
theorem dX12_scan_200 : decode cX12_scan 200 = .ok (.iload_n 1, 1) := by decide +kernel
theorem dX12_scan_201 : decode cX12_scan 201 = .ok (.bipush 45, 2) := by decide +kernel
theorem dX12_scan_203 : decode cX12_scan 203 = .ok (.if_icmp .ne 7, 3) := by decide +kernel
theorem dX12_scan_206 : decode cX12_scan 206 = .ok (.iconst 1, 1) := by decide +kernel
theorem dX12_scan_207 : decode cX12_scan 207 = .ok (.goto 4, 3) := by decide +kernel
theorem dX12_scan_210 : decode cX12_scan 210 = .ok (.iconst 0, 1) := by decide +kernel
theorem dX12_scan_211 : decode cX12_scan 211 = .ok (.invokevirtual 171, 3) := by decide +kernel
theorem dX12_scan_214 : decode cX12_scan 214 = .ok (.goto 34, 3) := by decide +kernel
theorem dX12_scan_217 : decode cX12_scan 217 = .ok (.aload_n 0, 1) := by decide +kernel
theorem dX12_scan_218 : decode cX12_scan 218 = .ok (.iload_n 1, 1) := by decide +kernel
theorem dX12_scan_219 : decode cX12_scan 219 = .ok (.invokestatic 175, 3) := by decide +kernel
theorem dX12_scan_222 : decode cX12_scan 222 = .ok (.ifCond .eq 7, 3) := by decide +kernel
theorem dX12_scan_225 : decode cX12_scan 225 = .ok (.iconst 5, 1) := by decide +kernel
theorem dX12_scan_226 : decode cX12_scan 226 = .ok (.goto 4, 3) := by decide +kernel
theorem dX12_scan_229 : decode cX12_scan 229 = .ok (.iconst 1, 1) := by decide +kernel
theorem dX12_scan_230 : decode cX12_scan 230 = .ok (.putfield 159, 3) := by decide +kernel
theorem dX12_scan_233 : decode cX12_scan 233 = .ok (.aload_n 0, 1) := by decide +kernel
theorem dX12_scan_234 : decode cX12_scan 234 = .ok (.iload_n 1, 1) := by decide +kernel
theorem dX12_scan_235 : decode cX12_scan 235 = .ok (.putfield 156, 3) := by decide +kernel
theorem dX12_scan_238 : decode cX12_scan 238 = .ok (.aload_n 0, 1) := by decide +kernel
theorem dX12_scan_239 : decode cX12_scan 239 = .ok (.dup, 1) := by decide +kernel
theorem dX12_scan_240 : decode cX12_scan 240 = .ok (.getfield 147, 3) := by decide +kernel
theorem dX12_scan_243 : decode cX12_scan 243 = .ok (.iconst 1, 1) := by decide +kernel
theorem dX12_scan_244 : decode cX12_scan 244 = .ok (.iadd, 1) := by decide +kernel
theorem dX12_scan_245 : decode cX12_scan 245 = .ok (.putfield 147, 3) := by decide +kernel
theorem dX12_scan_248 : decode cX12_scan 248 = .ok (.aload_n 0, 1) := by decide +kernel
theorem dX12_scan_249 : decode cX12_scan 249 = .ok (.aload_n 0, 1) := by decide +kernel
theorem dX12_scan_250 : decode cX12_scan 250 = .ok (.getfield 147, 3) := by decide +kernel
theorem dX12_scan_253 : decode cX12_scan 253 = .ok (.aload_n 0, 1) := by decide +kernel
theorem dX12_scan_254 : decode cX12_scan 254 = .ok (.getfield 153, 3) := by decide +kernel
theorem dX12_scan_257 : decode cX12_scan 257 = .ok (.isub, 1) := by decide +kernel
theorem dX12_scan_258 : decode cX12_scan 258 = .ok (.putfield 178, 3) := by decide +kernel
theorem dX12_scan_261 : decode cX12_scan 261 = .ok (.return_, 1) := by decide +kernel
theorem dX12_feed_0 : decode cX12_feed 0 = .ok (.aload_n 0, 1) := by decide +kernel
theorem dX12_feed_1 : decode cX12_feed 1 = .ok (.getfield 128, 3) := by decide +kernel
theorem dX12_feed_4 : decode cX12_feed 4 = .ok (.bipush 40, 2) := by decide +kernel
theorem dX12_feed_6 : decode cX12_feed 6 = .ok (.iadd, 1) := by decide +kernel
theorem dX12_feed_7 : decode cX12_feed 7 = .ok (.sipush 4000, 3) := by decide +kernel
theorem dX12_feed_10 : decode cX12_feed 10 = .ok (.if_icmp .le 5, 3) := by decide +kernel
theorem dX12_feed_13 : decode cX12_feed 13 = .ok (.iconst (-1), 1) := by decide +kernel
theorem dX12_feed_14 : decode cX12_feed 14 = .ok (.ireturn, 1) := by decide +kernel
theorem dX12_feed_15 : decode cX12_feed 15 = .ok (.iconst 0, 1) := by decide +kernel
theorem dX12_feed_16 : decode cX12_feed 16 = .ok (.istore 11, 2) := by decide +kernel
theorem dX12_feed_18 : decode cX12_feed 18 = .ok (.iload 11, 2) := by decide +kernel
theorem dX12_feed_20 : decode cX12_feed 20 = .ok (.bipush 40, 2) := by decide +kernel
theorem dX12_feed_22 : decode cX12_feed 22 = .ok (.if_icmp .ge 97, 3) := by decide +kernel
theorem dX12_feed_25 : decode cX12_feed 25 = .ok (.iload 11, 2) := by decide +kernel
theorem dX12_feed_27 : decode cX12_feed 27 = .ok (.bipush 8, 2) := by decide +kernel
theorem dX12_feed_29 : decode cX12_feed 29 = .ok (.if_icmp .ge 7, 3) := by decide +kernel
theorem dX12_feed_32 : decode cX12_feed 32 = .ok (.lload_n 1, 1) := by decide +kernel
theorem dX12_feed_33 : decode cX12_feed 33 = .ok (.goto 40, 3) := by decide +kernel
theorem dX12_feed_36 : decode cX12_feed 36 = .ok (.iload 11, 2) := by decide +kernel
theorem dX12_feed_38 : decode cX12_feed 38 = .ok (.bipush 16, 2) := by decide +kernel
theorem dX12_feed_40 : decode cX12_feed 40 = .ok (.if_icmp .ge 7, 3) := by decide +kernel
theorem dX12_feed_43 : decode cX12_feed 43 = .ok (.lload_n 3, 1) := by decide +kernel
theorem dX12_feed_44 : decode cX12_feed 44 = .ok (.goto 29, 3) := by decide +kernel
theorem dX12_feed_47 : decode cX12_feed 47 = .ok (.iload 11, 2) := by decide +kernel
theorem dX12_feed_49 : decode cX12_feed 49 = .ok (.bipush 24, 2) := by decide +kernel
theorem dX12_feed_51 : decode cX12_feed 51 = .ok (.if_icmp .ge 8, 3) := by decide +kernel
theorem dX12_feed_54 : decode cX12_feed 54 = .ok (.lload 5, 2) := by decide +kernel
theorem dX12_feed_56 : decode cX12_feed 56 = .ok (.goto 17, 3) := by decide +kernel
theorem dX12_feed_59 : decode cX12_feed 59 = .ok (.iload 11, 2) := by decide +kernel
theorem dX12_feed_61 : decode cX12_feed 61 = .ok (.bipush 32, 2) := by decide +kernel
theorem dX12_feed_63 : decode cX12_feed 63 = .ok (.if_icmp .ge 8, 3) := by decide +kernel
theorem dX12_feed_66 : decode cX12_feed 66 = .ok (.lload 7, 2) := by decide +kernel
theorem dX12_feed_68 : decode cX12_feed 68 = .ok (.goto 5, 3) := by decide +kernel
theorem dX12_feed_71 : decode cX12_feed 71 = .ok (.lload 9, 2) := by decide +kernel
theorem dX12_feed_73 : decode cX12_feed 73 = .ok (.lstore 12, 2) := by decide +kernel
theorem dX12_feed_75 : decode cX12_feed 75 = .ok (.aload_n 0, 1) := by decide +kernel
theorem dX12_feed_76 : decode cX12_feed 76 = .ok (.getfield 17, 3) := by decide +kernel
theorem dX12_feed_79 : decode cX12_feed 79 = .ok (.aload_n 0, 1) := by decide +kernel
theorem dX12_feed_80 : decode cX12_feed 80 = .ok (.getfield 128, 3) := by decide +kernel
theorem dX12_feed_83 : decode cX12_feed 83 = .ok (.lload 12, 2) := by decide +kernel
theorem dX12_feed_85 : decode cX12_feed 85 = .ok (.bipush 56, 2) := by decide +kernel
theorem dX12_feed_87 : decode cX12_feed 87 = .ok (.bipush 8, 2) := by decide +kernel
theorem dX12_feed_89 : decode cX12_feed 89 = .ok (.iload 11, 2) := by decide +kernel
theorem dX12_feed_91 : decode cX12_feed 91 = .ok (.bipush 8, 2) := by decide +kernel
theorem dX12_feed_93 : decode cX12_feed 93 = .ok (.irem, 1) := by decide +kernel
theorem dX12_feed_94 : decode cX12_feed 94 = .ok (.imul, 1) := by decide +kernel
theorem dX12_feed_95 : decode cX12_feed 95 = .ok (.isub, 1) := by decide +kernel
theorem dX12_feed_96 : decode cX12_feed 96 = .ok (.lshr, 1) := by decide +kernel
theorem dX12_feed_97 : decode cX12_feed 97 = .ok (.ldc2_w 617, 3) := by decide +kernel
theorem dX12_feed_100 : decode cX12_feed 100 = .ok (.land, 1) := by decide +kernel
theorem dX12_feed_101 : decode cX12_feed 101 = .ok (.l2i, 1) := by decide +kernel
theorem dX12_feed_102 : decode cX12_feed 102 = .ok (.iastore, 1) := by decide +kernel
theorem dX12_feed_103 : decode cX12_feed 103 = .ok (.aload_n 0, 1) := by decide +kernel
theorem dX12_feed_104 : decode cX12_feed 104 = .ok (.dup, 1) := by decide +kernel
theorem dX12_feed_105 : decode cX12_feed 105 = .ok (.getfield 128, 3) := by decide +kernel
theorem dX12_feed_108 : decode cX12_feed 108 = .ok (.iconst 1, 1) := by decide +kernel
theorem dX12_feed_109 : decode cX12_feed 109 = .ok (.iadd, 1) := by decide +kernel
theorem dX12_feed_110 : decode cX12_feed 110 = .ok (.putfield 128, 3) := by decide +kernel
theorem dX12_feed_113 : decode cX12_feed 113 = .ok (.iinc 11 1, 3) := by decide +kernel
theorem dX12_feed_116 : decode cX12_feed 116 = .ok (.goto (-98), 3) := by decide +kernel
theorem dX12_feed_119 : decode cX12_feed 119 = .ok (.aload_n 0, 1) := by decide +kernel
theorem dX12_feed_120 : decode cX12_feed 120 = .ok (.getfield 128, 3) := by decide +kernel
theorem dX12_feed_123 : decode cX12_feed 123 = .ok (.ireturn, 1) := by decide +kernel
theorem dX12_end_0 : decode cX12_end 0 = .ok (.iload_n 1, 1) := by decide +kernel
theorem dX12_end_1 : decode cX12_end 1 = .ok (.i2l, 1) := by decide +kernel
theorem dX12_end_2 : decode cX12_end 2 = .ok (.lconst 0, 1) := by decide +kernel
theorem dX12_end_3 : decode cX12_end 3 = .ok (.aload_n 0, 1) := by decide +kernel
theorem dX12_end_4 : decode cX12_end 4 = .ok (.getfield 128, 3) := by decide +kernel
theorem dX12_end_7 : decode cX12_end 7 = .ok (.i2l, 1) := by decide +kernel
theorem dX12_end_8 : decode cX12_end 8 = .ok (.invokestatic 135, 3) := by decide +kernel
theorem dX12_end_11 : decode cX12_end 11 = .ok (.ifCond .ne 5, 3) := by decide +kernel
theorem dX12_end_14 : decode cX12_end 14 = .ok (.iconst (-1), 1) := by decide +kernel
theorem dX12_end_15 : decode cX12_end 15 = .ok (.ireturn, 1) := by decide +kernel
theorem dX12_end_16 : decode cX12_end 16 = .ok (.aload_n 0, 1) := by decide +kernel
theorem dX12_end_17 : decode cX12_end 17 = .ok (.iload_n 1, 1) := by decide +kernel
theorem dX12_end_18 : decode cX12_end 18 = .ok (.putfield 128, 3) := by decide +kernel
theorem dX12_end_21 : decode cX12_end 21 = .ok (.iload_n 1, 1) := by decide +kernel
theorem dX12_end_22 : decode cX12_end 22 = .ok (.ireturn, 1) := by decide +kernel
theorem dX12_run_0 : decode cX12_run 0 = .ok (.aload_n 0, 1) := by decide +kernel
theorem dX12_run_1 : decode cX12_run 1 = .ok (.iconst 0, 1) := by decide +kernel
theorem dX12_run_2 : decode cX12_run 2 = .ok (.putfield 527, 3) := by decide +kernel
theorem dX12_run_5 : decode cX12_run 5 = .ok (.aload_n 0, 1) := by decide +kernel
theorem dX12_run_6 : decode cX12_run 6 = .ok (.iconst (-1), 1) := by decide +kernel
theorem dX12_run_7 : decode cX12_run 7 = .ok (.putfield 604, 3) := by decide +kernel
theorem dX12_run_10 : decode cX12_run 10 = .ok (.aload_n 0, 1) := by decide +kernel
theorem dX12_run_11 : decode cX12_run 11 = .ok (.iconst 0, 1) := by decide +kernel
theorem dX12_run_12 : decode cX12_run 12 = .ok (.putfield 147, 3) := by decide +kernel
theorem dX12_run_15 : decode cX12_run 15 = .ok (.iconst 0, 1) := by decide +kernel
theorem dX12_run_16 : decode cX12_run 16 = .ok (.istore_n 1, 1) := by decide +kernel
theorem dX12_run_17 : decode cX12_run 17 = .ok (.aload_n 0, 1) := by decide +kernel
theorem dX12_run_18 : decode cX12_run 18 = .ok (.invokevirtual 190, 3) := by decide +kernel
theorem dX12_run_21 : decode cX12_run 21 = .ok (.aload_n 0, 1) := by decide +kernel
theorem dX12_run_22 : decode cX12_run 22 = .ok (.getfield 159, 3) := by decide +kernel
theorem dX12_run_25 : decode cX12_run 25 = .ok (.ifCond .eq 42, 3) := by decide +kernel
theorem dX12_run_28 : decode cX12_run 28 = .ok (.aload_n 0, 1) := by decide +kernel
theorem dX12_run_29 : decode cX12_run 29 = .ok (.getfield 604, 3) := by decide +kernel
theorem dX12_run_32 : decode cX12_run 32 = .ok (.ifCond .ge 35, 3) := by decide +kernel
theorem dX12_run_35 : decode cX12_run 35 = .ok (.aload_n 0, 1) := by decide +kernel
theorem dX12_run_36 : decode cX12_run 36 = .ok (.invokevirtual 619, 3) := by decide +kernel
theorem dX12_run_39 : decode cX12_run 39 = .ok (.ifCond .eq 17, 3) := by decide +kernel
theorem dX12_run_42 : decode cX12_run 42 = .ok (.iinc 1 1, 3) := by decide +kernel
theorem dX12_run_45 : decode cX12_run 45 = .ok (.aload_n 0, 1) := by decide +kernel
theorem dX12_run_46 : decode cX12_run 46 = .ok (.invokevirtual 623, 3) := by decide +kernel
theorem dX12_run_49 : decode cX12_run 49 = .ok (.aload_n 0, 1) := by decide +kernel
theorem dX12_run_50 : decode cX12_run 50 = .ok (.invokevirtual 190, 3) := by decide +kernel
theorem dX12_run_53 : decode cX12_run 53 = .ok (.goto (-32), 3) := by decide +kernel
theorem dX12_run_56 : decode cX12_run 56 = .ok (.aload_n 0, 1) := by decide +kernel
theorem dX12_run_57 : decode cX12_run 57 = .ok (.aload_n 0, 1) := by decide +kernel
theorem dX12_run_58 : decode cX12_run 58 = .ok (.getfield 153, 3) := by decide +kernel
theorem dX12_run_61 : decode cX12_run 61 = .ok (.putfield 604, 3) := by decide +kernel
theorem dX12_run_64 : decode cX12_run 64 = .ok (.goto (-43), 3) := by decide +kernel
theorem dX12_run_67 : decode cX12_run 67 = .ok (.aload_n 0, 1) := by decide +kernel
theorem dX12_run_68 : decode cX12_run 68 = .ok (.iconst 0, 1) := by decide +kernel
theorem dX12_run_69 : decode cX12_run 69 = .ok (.putfield 128, 3) := by decide +kernel
theorem dX12_run_72 : decode cX12_run 72 = .ok (.iload_n 1, 1) := by decide +kernel
theorem dX12_run_73 : decode cX12_run 73 = .ok (.ireturn, 1) := by decide +kernel
theorem dX12_wrong_0 : decode cX12_wrong 0 = .ok (.aload_n 0, 1) := by decide +kernel
theorem dX12_wrong_1 : decode cX12_wrong 1 = .ok (.getfield 604, 3) := by decide +kernel
theorem dX12_wrong_4 : decode cX12_wrong 4 = .ok (.ireturn, 1) := by decide +kernel
theorem dX12_outputs_0 : decode cX12_outputs 0 = .ok (.aload_n 0, 1) := by decide +kernel
theorem dX12_outputs_1 : decode cX12_outputs 1 = .ok (.getfield 527, 3) := by decide +kernel
theorem dX12_outputs_4 : decode cX12_outputs 4 = .ok (.ireturn, 1) := by decide +kernel
theorem dX12_out_0 : decode cX12_out 0 = .ok (.iload_n 1, 1) := by decide +kernel
theorem dX12_out_1 : decode cX12_out 1 = .ok (.i2l, 1) := by decide +kernel
theorem dX12_out_2 : decode cX12_out 2 = .ok (.lconst 0, 1) := by decide +kernel
theorem dX12_out_3 : decode cX12_out 3 = .ok (.aload_n 0, 1) := by decide +kernel
theorem dX12_out_4 : decode cX12_out 4 = .ok (.getfield 527, 3) := by decide +kernel
theorem dX12_out_7 : decode cX12_out 7 = .ok (.iconst 1, 1) := by decide +kernel
theorem dX12_out_8 : decode cX12_out 8 = .ok (.isub, 1) := by decide +kernel
theorem dX12_out_9 : decode cX12_out 9 = .ok (.i2l, 1) := by decide +kernel
theorem dX12_out_10 : decode cX12_out 10 = .ok (.invokestatic 135, 3) := by decide +kernel
theorem dX12_out_13 : decode cX12_out 13 = .ok (.ifCond .eq 12, 3) := by decide +kernel
theorem dX12_out_16 : decode cX12_out 16 = .ok (.aload_n 0, 1) := by decide +kernel
theorem dX12_out_17 : decode cX12_out 17 = .ok (.getfield 601, 3) := by decide +kernel
theorem dX12_out_20 : decode cX12_out 20 = .ok (.iload_n 1, 1) := by decide +kernel
theorem dX12_out_21 : decode cX12_out 21 = .ok (.iaload, 1) := by decide +kernel
theorem dX12_out_22 : decode cX12_out 22 = .ok (.goto 4, 3) := by decide +kernel
theorem dX12_out_25 : decode cX12_out 25 = .ok (.iconst 0, 1) := by decide +kernel
theorem dX12_out_26 : decode cX12_out 26 = .ok (.ireturn, 1) := by decide +kernel
theorem dX12_steps_0 : decode cX12_steps 0 = .ok (.aload_n 0, 1) := by decide +kernel
theorem dX12_steps_1 : decode cX12_steps 1 = .ok (.getfield 357, 3) := by decide +kernel
theorem dX12_steps_4 : decode cX12_steps 4 = .ok (.ireturn, 1) := by decide +kernel
theorem dX12_hypotheses_0 : decode cX12_hypotheses 0 = .ok (.iload_n 1, 1) := by decide +kernel
theorem dX12_hypotheses_1 : decode cX12_hypotheses 1 = .ok (.i2l, 1) := by decide +kernel
theorem dX12_hypotheses_2 : decode cX12_hypotheses 2 = .ok (.lconst 0, 1) := by decide +kernel
theorem dX12_hypotheses_3 : decode cX12_hypotheses 3 = .ok (.aload_n 0, 1) := by decide +kernel
theorem dX12_hypotheses_4 : decode cX12_hypotheses 4 = .ok (.getfield 357, 3) := by decide +kernel
theorem dX12_hypotheses_7 : decode cX12_hypotheses 7 = .ok (.iconst 1, 1) := by decide +kernel
theorem dX12_hypotheses_8 : decode cX12_hypotheses 8 = .ok (.isub, 1) := by decide +kernel
theorem dX12_hypotheses_9 : decode cX12_hypotheses 9 = .ok (.i2l, 1) := by decide +kernel
theorem dX12_hypotheses_10 : decode cX12_hypotheses 10 = .ok (.invokestatic 135, 3) := by decide +kernel
theorem dX12_hypotheses_13 : decode cX12_hypotheses 13 = .ok (.ifCond .eq 12, 3) := by decide +kernel
theorem dX12_hypotheses_16 : decode cX12_hypotheses 16 = .ok (.aload_n 0, 1) := by decide +kernel
theorem dX12_hypotheses_17 : decode cX12_hypotheses 17 = .ok (.getfield 382, 3) := by decide +kernel
theorem dX12_hypotheses_20 : decode cX12_hypotheses 20 = .ok (.iload_n 1, 1) := by decide +kernel
theorem dX12_hypotheses_21 : decode cX12_hypotheses 21 = .ok (.iaload, 1) := by decide +kernel
theorem dX12_hypotheses_22 : decode cX12_hypotheses 22 = .ok (.goto 4, 3) := by decide +kernel
theorem dX12_hypotheses_25 : decode cX12_hypotheses 25 = .ok (.iconst (-1), 1) := by decide +kernel
theorem dX12_hypotheses_26 : decode cX12_hypotheses 26 = .ok (.ireturn, 1) := by decide +kernel
theorem dX12_facts_0 : decode cX12_facts 0 = .ok (.aload_n 0, 1) := by decide +kernel
theorem dX12_facts_1 : decode cX12_facts 1 = .ok (.getfield 485, 3) := by decide +kernel
theorem dX12_facts_4 : decode cX12_facts 4 = .ok (.ireturn, 1) := by decide +kernel
theorem dX12_leans_0 : decode cX12_leans 0 = .ok (.iload_n 1, 1) := by decide +kernel
theorem dX12_leans_1 : decode cX12_leans 1 = .ok (.i2l, 1) := by decide +kernel
theorem dX12_leans_2 : decode cX12_leans 2 = .ok (.lconst 0, 1) := by decide +kernel
theorem dX12_leans_3 : decode cX12_leans 3 = .ok (.aload_n 0, 1) := by decide +kernel
theorem dX12_leans_4 : decode cX12_leans 4 = .ok (.getfield 485, 3) := by decide +kernel
theorem dX12_leans_7 : decode cX12_leans 7 = .ok (.iconst 1, 1) := by decide +kernel
theorem dX12_leans_8 : decode cX12_leans 8 = .ok (.isub, 1) := by decide +kernel
theorem dX12_leans_9 : decode cX12_leans 9 = .ok (.i2l, 1) := by decide +kernel
theorem dX12_leans_10 : decode cX12_leans 10 = .ok (.invokestatic 135, 3) := by decide +kernel
theorem dX12_leans_13 : decode cX12_leans 13 = .ok (.ifCond .eq 19, 3) := by decide +kernel
theorem dX12_leans_16 : decode cX12_leans 16 = .ok (.iload_n 2, 1) := by decide +kernel
theorem dX12_leans_17 : decode cX12_leans 17 = .ok (.i2l, 1) := by decide +kernel
theorem dX12_leans_18 : decode cX12_leans 18 = .ok (.lconst 0, 1) := by decide +kernel
theorem dX12_leans_19 : decode cX12_leans 19 = .ok (.aload_n 0, 1) := by decide +kernel
theorem dX12_leans_20 : decode cX12_leans 20 = .ok (.getfield 485, 3) := by decide +kernel
theorem dX12_leans_23 : decode cX12_leans 23 = .ok (.iconst 1, 1) := by decide +kernel
theorem dX12_leans_24 : decode cX12_leans 24 = .ok (.isub, 1) := by decide +kernel
theorem dX12_leans_25 : decode cX12_leans 25 = .ok (.i2l, 1) := by decide +kernel
theorem dX12_leans_26 : decode cX12_leans 26 = .ok (.invokestatic 135, 3) := by decide +kernel
theorem dX12_leans_29 : decode cX12_leans 29 = .ok (.ifCond .ne 7, 3) := by decide +kernel
theorem dX12_leans_32 : decode cX12_leans 32 = .ok (.iconst (-1), 1) := by decide +kernel
theorem dX12_leans_33 : decode cX12_leans 33 = .ok (.goto 14, 3) := by decide +kernel
theorem dX12_leans_36 : decode cX12_leans 36 = .ok (.aload_n 0, 1) := by decide +kernel
theorem dX12_leans_37 : decode cX12_leans 37 = .ok (.getfield 427, 3) := by decide +kernel
theorem dX12_leans_40 : decode cX12_leans 40 = .ok (.iload_n 1, 1) := by decide +kernel
theorem dX12_leans_41 : decode cX12_leans 41 = .ok (.laload, 1) := by decide +kernel
theorem dX12_leans_42 : decode cX12_leans 42 = .ok (.iload_n 2, 1) := by decide +kernel
theorem dX12_leans_43 : decode cX12_leans 43 = .ok (.lshr, 1) := by decide +kernel
theorem dX12_leans_44 : decode cX12_leans 44 = .ok (.lconst 1, 1) := by decide +kernel
theorem dX12_leans_45 : decode cX12_leans 45 = .ok (.land, 1) := by decide +kernel
theorem dX12_leans_46 : decode cX12_leans 46 = .ok (.l2i, 1) := by decide +kernel
theorem dX12_leans_47 : decode cX12_leans 47 = .ok (.ireturn, 1) := by decide +kernel
theorem dX12_inductive_0 : decode cX12_inductive 0 = .ok (.iload_n 1, 1) := by decide +kernel
theorem dX12_inductive_1 : decode cX12_inductive 1 = .ok (.i2l, 1) := by decide +kernel
theorem dX12_inductive_2 : decode cX12_inductive 2 = .ok (.lconst 0, 1) := by decide +kernel
theorem dX12_inductive_3 : decode cX12_inductive 3 = .ok (.aload_n 0, 1) := by decide +kernel
theorem dX12_inductive_4 : decode cX12_inductive 4 = .ok (.getfield 485, 3) := by decide +kernel
theorem dX12_inductive_7 : decode cX12_inductive 7 = .ok (.iconst 1, 1) := by decide +kernel
theorem dX12_inductive_8 : decode cX12_inductive 8 = .ok (.isub, 1) := by decide +kernel
theorem dX12_inductive_9 : decode cX12_inductive 9 = .ok (.i2l, 1) := by decide +kernel
theorem dX12_inductive_10 : decode cX12_inductive 10 = .ok (.invokestatic 135, 3) := by decide +kernel
theorem dX12_inductive_13 : decode cX12_inductive 13 = .ok (.ifCond .ne 7, 3) := by decide +kernel
theorem dX12_inductive_16 : decode cX12_inductive 16 = .ok (.iconst (-1), 1) := by decide +kernel
theorem dX12_inductive_17 : decode cX12_inductive 17 = .ok (.goto 17, 3) := by decide +kernel
theorem dX12_inductive_20 : decode cX12_inductive 20 = .ok (.aload_n 0, 1) := by decide +kernel
theorem dX12_inductive_21 : decode cX12_inductive 21 = .ok (.getfield 488, 3) := by decide +kernel
theorem dX12_inductive_24 : decode cX12_inductive 24 = .ok (.iload_n 1, 1) := by decide +kernel
theorem dX12_inductive_25 : decode cX12_inductive 25 = .ok (.baload, 1) := by decide +kernel
theorem dX12_inductive_26 : decode cX12_inductive 26 = .ok (.ifCond .eq 7, 3) := by decide +kernel
theorem dX12_inductive_29 : decode cX12_inductive 29 = .ok (.iconst 1, 1) := by decide +kernel
theorem dX12_inductive_30 : decode cX12_inductive 30 = .ok (.goto 4, 3) := by decide +kernel
theorem dX12_inductive_33 : decode cX12_inductive 33 = .ok (.iconst 0, 1) := by decide +kernel
theorem dX12_inductive_34 : decode cX12_inductive 34 = .ok (.ireturn, 1) := by decide +kernel
theorem dX12_refusals_0 : decode cX12_refusals 0 = .ok (.iload_n 1, 1) := by decide +kernel
theorem dX12_refusals_1 : decode cX12_refusals 1 = .ok (.i2l, 1) := by decide +kernel
theorem dX12_refusals_2 : decode cX12_refusals 2 = .ok (.lconst 0, 1) := by decide +kernel
theorem dX12_refusals_3 : decode cX12_refusals 3 = .ok (.ldc2_w 635, 3) := by decide +kernel
theorem dX12_refusals_6 : decode cX12_refusals 6 = .ok (.invokestatic 135, 3) := by decide +kernel
theorem dX12_refusals_9 : decode cX12_refusals 9 = .ok (.ifCond .eq 12, 3) := by decide +kernel
theorem dX12_refusals_12 : decode cX12_refusals 12 = .ok (.aload_n 0, 1) := by decide +kernel
theorem dX12_refusals_13 : decode cX12_refusals 13 = .ok (.getfield 607, 3) := by decide +kernel
theorem dX12_refusals_16 : decode cX12_refusals 16 = .ok (.iload_n 1, 1) := by decide +kernel
theorem dX12_refusals_17 : decode cX12_refusals 17 = .ok (.iaload, 1) := by decide +kernel
theorem dX12_refusals_18 : decode cX12_refusals 18 = .ok (.goto 4, 3) := by decide +kernel
theorem dX12_refusals_21 : decode cX12_refusals 21 = .ok (.iconst 0, 1) := by decide +kernel
theorem dX12_refusals_22 : decode cX12_refusals 22 = .ok (.ireturn, 1) := by decide +kernel
theorem rf_in0 {n : Int32} (h : ¬ n = 0) : ¬ ((0 : Int64).toInt ≤ n.toInt64.toInt ∧ n.toInt64.toInt ≤ ((0 : Int32).toInt64).toInt) := by
  intro ⟨a, b⟩
  apply h
  apply Int32.toInt_inj.mp
  have e1 : n.toInt64.toInt = n.toInt := Int32.toInt_toInt64 n
  have e2 : ((0 : Int32).toInt64).toInt = 0 := by decide
  have e3 : (0 : Int64).toInt = 0 := by decide
  have e4 : (0 : Int32).toInt = 0 := by decide
  rw [e1, e3] at a
  rw [e1, e2] at b
  rw [e4]
  omega
theorem rf_neg (v : Int64) : ¬ ((0 : Int64).toInt ≤ v.toInt ∧ v.toInt ≤ ((-1 : Int32).toInt64).toInt) := by
  intro ⟨a, b⟩
  have e2 : ((-1 : Int32).toInt64).toInt = -1 := by decide
  have e3 : (0 : Int64).toInt = 0 := by decide
  rw [e3] at a
  rw [e2] at b
  omega
theorem rf_vp {i : Int32} (h : (0 : Int64).toInt ≤ i.toInt64.toInt ∧ i.toInt64.toInt ≤ (15 : Int64).toInt) : vp_in i 16 := by
  have e1 : i.toInt64.toInt = i.toInt := Int32.toInt_toInt64 i
  have e2 : (15 : Int64).toInt = 15 := by decide
  have e3 : (0 : Int64).toInt = 0 := by decide
  rw [e1, e2, e3] at h
  exact vp_in_iff.mpr ⟨h.1, by omega⟩
def wc_X12_isIn : List Cond := .code yX12_isIn cX12_isIn 6 (some .boolean) :: ([])
set_option maxHeartbeats 1000000 in
set_option maxRecDepth 100000 in
/-- isIn(v, lo, hi) -/
theorem c_isIn (l : Launch) (dC : Nat → ClassId) (dI : Nat → Nat → Nat) (sz : Nat) (v lo hi : Int64) : Met l yX12_isIn wc_X12_isIn ({ frames := 0, cells := 0, slots := 0, locals := 0 }) (va_Pc [.long v, .long lo, .long hi] (fun U => U.heap.size = sz ∧ va_P (dC, dI) vwCl [] U.heap ∧ va_K (dC, dI) vwCl [] U ∧ va_D (fun _ => True) [])) (va_Qi (fun (r : Int32) (_ : Unit) => r = if lo.toInt ≤ v.toInt ∧ v.toInt ≤ hi.toInt then 1 else 0) (fun _ t => va_P (dC, dI) vwCl [] t.heap ∧ va_K (dC, dI) vwCl [] t ∧ va_D (va_A [] sz) []) (va_A [] sz)) (0) (0) (va_A [] sz) := by
  refine Met.ofW (cc := cX12_isIn) (maxL := 6) (ret := (some .boolean)) (by decide) rfl ?_
  intro p e s m args below meth c s₁ B hml hv
  obtain ⟨rfl, hsz, hP, hK, hD0⟩ := hv
  have hx := B.exec
  have hb := B.bytes
  have hr := B.returns
  have hts := atoms_spec (ws := wc_X12_isIn) B.pre
  have hown : s.vm.findClass RX12 = some m.cls := findClass_of_methodNamed B.named
  have hlocks := B.notSynchronized
  subst hsz
  have hD := hD0.self (sz := s.heap.size)
  generalize hAe : va_A [] s.heap.size = A at hD ⊢
  have hA : ∀ q : Nat, s.heap.size ≤ q → A q := fun q h => by rw [← hAe]; exact Or.inr h
  have hS : va_S A s.heap s.heap [] := va_S.rf
  have hl := lv_entry ([.long v, .long lo, .long hi]) (n := 6) (Nat.le_of_ble_eq_true rfl)
  rw [lg_entry_eq]
  generalize (lg_sl ([.long v, .long lo, .long hi]) ++ List.replicate (6 - (lg_sl ([.long v, .long lo, .long hi])).length) Slot.unset).toArray = ls at hl ⊢
  have hl : lv_has ls 6 [(0, .long v), (2, .long lo), (4, .long hi)] := hl
  refine lv_lload_n hx hb dX12_isIn_0 rfl (lv_at hl 0 rfl) ?_
  refine lv_lload_n hx hb dX12_isIn_1 rfl (lv_at hl 1 rfl) ?_
  refine W.lcmp hx hb dX12_isIn_2 ?_
  refine lv_if_lt (tgt := 17) hx hb dX12_isIn_3 (by decide) (fun c1 => ?_) (fun c1 => ?_)
  · skip
    refine lv_iconst (v := 0) hx hb dX12_isIn_17 (by decide) ?_
    have hP9 := hP.sub (ws' := []) [] rfl
    have hD9 := hD.sub (ws' := []) [] (by decide) rfl
    have hK9 := hK.sub (tys' := []) [] rfl
    refine W.widen (k := 0) (n := 0) (by omega) (by omega) ?_
    exact W.zret (v := 0) hx hb hr (rfl) (fun t ht hW => ⟨⟨0, (), rfl, by rw [if_neg (fun h => by have := Int64.lt_iff_toInt_lt.mp ((lg_cmp_lt v lo).mp c1); omega)], by rw [ht]; exact hP9, va_K.moved hW.alike hK9, hD9⟩, hS.F ht⟩) hS.2.2 dX12_isIn_18
  · skip
    refine lv_lload_n hx hb dX12_isIn_6 rfl (lv_at hl 0 rfl) ?_
    refine lv_lload hx hb dX12_isIn_7 (lv_at hl 2 rfl) ?_
    refine W.lcmp hx hb dX12_isIn_9 ?_
    refine lv_if_gt (tgt := 17) hx hb dX12_isIn_10 (by decide) (fun c2 => ?_) (fun c2 => ?_)
    · skip
      refine lv_iconst (v := 0) hx hb dX12_isIn_17 (by decide) ?_
      have hP9 := hP.sub (ws' := []) [] rfl
      have hD9 := hD.sub (ws' := []) [] (by decide) rfl
      have hK9 := hK.sub (tys' := []) [] rfl
      refine W.widen (k := 0) (n := 0) (by omega) (by omega) ?_
      exact W.zret (v := 0) hx hb hr (rfl) (fun t ht hW => ⟨⟨0, (), rfl, by rw [if_neg (fun h => by have := Int64.lt_iff_toInt_lt.mp ((lg_cmp_gt v hi).mp c2); omega)], by rw [ht]; exact hP9, va_K.moved hW.alike hK9, hD9⟩, hS.F ht⟩) hS.2.2 dX12_isIn_18
    · skip
      refine lv_iconst (v := 1) hx hb dX12_isIn_13 (by decide) ?_
      refine lv_goto (tgt := 18) hx hb dX12_isIn_14 (by decide) ?_
      have hP9 := hP.sub (ws' := []) [] rfl
      have hD9 := hD.sub (ws' := []) [] (by decide) rfl
      have hK9 := hK.sub (tys' := []) [] rfl
      refine W.widen (k := 0) (n := 0) (by omega) (by omega) ?_
      exact W.zret (v := 1) hx hb hr (rfl) (fun t ht hW => ⟨⟨1, (), rfl, by rw [if_pos ⟨by have := mt (lg_cmp_lt v lo).mpr c1; have := Int64.le_iff_toInt_le.mp (Int64.not_lt.mp this); exact this, by have := mt (lg_cmp_gt v hi).mpr c2; have := Int64.le_iff_toInt_le.mp (Int64.not_lt.mp this); exact this⟩], by rw [ht]; exact hP9, va_K.moved hW.alike hK9, hD9⟩, hS.F ht⟩) hS.2.2 dX12_isIn_18
def wc_X12_end : List Cond := .code yX12_end cX12_end 2 (some .int) :: ([Cond.fieldLink RX12 128 "ProofBenchModel" "taped" "I"] ++ wsX120 ++ va_wsS RX12 135 yX12_isIn wc_X12_isIn)
set_option maxRecDepth 20000 in
theorem gc_X12_end__X12_isIn : GoodIn wc_X12_end (va_wsS RX12 135 yX12_isIn wc_X12_isIn) := goodIn_of _ (by decide +kernel)
set_option maxHeartbeats 1000000 in
set_option maxRecDepth 100000 in
/-- end(n) on a fresh object -/
theorem m_end (l : Launch) (dC : Nat → ClassId) (dI : Nat → Nat → Nat) (sz : Nat) (h0 : Nat) (w0 w1 w2 w3 w4 w5 w6 w7 w8 w9 w10 w11 w12 w13 w14 w15 w16 w17 w18 w19 w20 w21 w22 w23 w24 w25 w26 w27 w28 w29 w30 w31 w33 w34 w35 w36 w37 w38 w39 w40 w41 w42 w43 w44 w45 w46 w47 w48 w49 w50 w51 w52 w53 w54 w55 w56 w57 w58 w59 w60 w61 w62 w63 w64 w65 w66 w67 w68 w69 w70 w71 w72 w73 w74 w75 w76 w77 w78 w79 w80 w81 w82 w83 w84 w85 w86 w87 w88 w89 w90 w91 w92 w93 : Value) (n : Int32) : Met l yX12_end wc_X12_end ({ frames := 1, cells := 0, slots := 0, locals := 25 }) (va_Pc [.ref h0, .int n] (fun U => U.heap.size = sz ∧ va_P (dC, dI) vwCl [(h0, .inr (12, w0 :: w1 :: w2 :: w3 :: w4 :: w5 :: w6 :: w7 :: w8 :: w9 :: w10 :: w11 :: w12 :: w13 :: w14 :: w15 :: w16 :: w17 :: w18 :: w19 :: w20 :: w21 :: w22 :: w23 :: w24 :: w25 :: w26 :: w27 :: w28 :: w29 :: w30 :: w31 :: .int 0 :: w33 :: w34 :: w35 :: w36 :: w37 :: w38 :: w39 :: w40 :: w41 :: w42 :: w43 :: w44 :: w45 :: w46 :: w47 :: w48 :: w49 :: w50 :: w51 :: w52 :: w53 :: w54 :: w55 :: w56 :: w57 :: w58 :: w59 :: w60 :: w61 :: w62 :: w63 :: w64 :: w65 :: w66 :: w67 :: w68 :: w69 :: w70 :: w71 :: w72 :: w73 :: w74 :: w75 :: w76 :: w77 :: w78 :: w79 :: w80 :: w81 :: w82 :: w83 :: w84 :: w85 :: w86 :: w87 :: w88 :: w89 :: w90 :: w91 :: w92 :: w93 :: []))] U.heap ∧ va_K (dC, dI) vwCl [] U ∧ va_D (fun _ => True) [(h0, .inr (12, w0 :: w1 :: w2 :: w3 :: w4 :: w5 :: w6 :: w7 :: w8 :: w9 :: w10 :: w11 :: w12 :: w13 :: w14 :: w15 :: w16 :: w17 :: w18 :: w19 :: w20 :: w21 :: w22 :: w23 :: w24 :: w25 :: w26 :: w27 :: w28 :: w29 :: w30 :: w31 :: .int 0 :: w33 :: w34 :: w35 :: w36 :: w37 :: w38 :: w39 :: w40 :: w41 :: w42 :: w43 :: w44 :: w45 :: w46 :: w47 :: w48 :: w49 :: w50 :: w51 :: w52 :: w53 :: w54 :: w55 :: w56 :: w57 :: w58 :: w59 :: w60 :: w61 :: w62 :: w63 :: w64 :: w65 :: w66 :: w67 :: w68 :: w69 :: w70 :: w71 :: w72 :: w73 :: w74 :: w75 :: w76 :: w77 :: w78 :: w79 :: w80 :: w81 :: w82 :: w83 :: w84 :: w85 :: w86 :: w87 :: w88 :: w89 :: w90 :: w91 :: w92 :: w93 :: []))])) (va_Qi (fun (r : Int32) (_ : Unit) => r = if n = 0 then 0 else -1) (fun _ t => va_P (dC, dI) vwCl [] t.heap ∧ va_K (dC, dI) vwCl [] t ∧ va_D (va_A [(h0, .inr (12, w0 :: w1 :: w2 :: w3 :: w4 :: w5 :: w6 :: w7 :: w8 :: w9 :: w10 :: w11 :: w12 :: w13 :: w14 :: w15 :: w16 :: w17 :: w18 :: w19 :: w20 :: w21 :: w22 :: w23 :: w24 :: w25 :: w26 :: w27 :: w28 :: w29 :: w30 :: w31 :: .int 0 :: w33 :: w34 :: w35 :: w36 :: w37 :: w38 :: w39 :: w40 :: w41 :: w42 :: w43 :: w44 :: w45 :: w46 :: w47 :: w48 :: w49 :: w50 :: w51 :: w52 :: w53 :: w54 :: w55 :: w56 :: w57 :: w58 :: w59 :: w60 :: w61 :: w62 :: w63 :: w64 :: w65 :: w66 :: w67 :: w68 :: w69 :: w70 :: w71 :: w72 :: w73 :: w74 :: w75 :: w76 :: w77 :: w78 :: w79 :: w80 :: w81 :: w82 :: w83 :: w84 :: w85 :: w86 :: w87 :: w88 :: w89 :: w90 :: w91 :: w92 :: w93 :: []))] sz) []) (va_A [(h0, .inr (12, w0 :: w1 :: w2 :: w3 :: w4 :: w5 :: w6 :: w7 :: w8 :: w9 :: w10 :: w11 :: w12 :: w13 :: w14 :: w15 :: w16 :: w17 :: w18 :: w19 :: w20 :: w21 :: w22 :: w23 :: w24 :: w25 :: w26 :: w27 :: w28 :: w29 :: w30 :: w31 :: .int 0 :: w33 :: w34 :: w35 :: w36 :: w37 :: w38 :: w39 :: w40 :: w41 :: w42 :: w43 :: w44 :: w45 :: w46 :: w47 :: w48 :: w49 :: w50 :: w51 :: w52 :: w53 :: w54 :: w55 :: w56 :: w57 :: w58 :: w59 :: w60 :: w61 :: w62 :: w63 :: w64 :: w65 :: w66 :: w67 :: w68 :: w69 :: w70 :: w71 :: w72 :: w73 :: w74 :: w75 :: w76 :: w77 :: w78 :: w79 :: w80 :: w81 :: w82 :: w83 :: w84 :: w85 :: w86 :: w87 :: w88 :: w89 :: w90 :: w91 :: w92 :: w93 :: []))] sz)) (0) (0) (va_A [(h0, .inr (12, w0 :: w1 :: w2 :: w3 :: w4 :: w5 :: w6 :: w7 :: w8 :: w9 :: w10 :: w11 :: w12 :: w13 :: w14 :: w15 :: w16 :: w17 :: w18 :: w19 :: w20 :: w21 :: w22 :: w23 :: w24 :: w25 :: w26 :: w27 :: w28 :: w29 :: w30 :: w31 :: .int 0 :: w33 :: w34 :: w35 :: w36 :: w37 :: w38 :: w39 :: w40 :: w41 :: w42 :: w43 :: w44 :: w45 :: w46 :: w47 :: w48 :: w49 :: w50 :: w51 :: w52 :: w53 :: w54 :: w55 :: w56 :: w57 :: w58 :: w59 :: w60 :: w61 :: w62 :: w63 :: w64 :: w65 :: w66 :: w67 :: w68 :: w69 :: w70 :: w71 :: w72 :: w73 :: w74 :: w75 :: w76 :: w77 :: w78 :: w79 :: w80 :: w81 :: w82 :: w83 :: w84 :: w85 :: w86 :: w87 :: w88 :: w89 :: w90 :: w91 :: w92 :: w93 :: []))] sz) := by
  refine Met.ofW (cc := cX12_end) (maxL := 2) (ret := (some .int)) (by decide) rfl ?_
  intro p e s m args below meth c s₁ B hml hv
  obtain ⟨rfl, hsz, hP, hK, hD0⟩ := hv
  have hx := B.exec
  have hb := B.bytes
  have hr := B.returns
  have hts := atoms_spec (ws := wc_X12_end) B.pre
  have hown : s.vm.findClass RX12 = some m.cls := findClass_of_methodNamed B.named
  have hlocks := B.notSynchronized
  subst hsz
  have hD := hD0.self (sz := s.heap.size)
  generalize hAe : va_A [(h0, .inr (12, w0 :: w1 :: w2 :: w3 :: w4 :: w5 :: w6 :: w7 :: w8 :: w9 :: w10 :: w11 :: w12 :: w13 :: w14 :: w15 :: w16 :: w17 :: w18 :: w19 :: w20 :: w21 :: w22 :: w23 :: w24 :: w25 :: w26 :: w27 :: w28 :: w29 :: w30 :: w31 :: .int 0 :: w33 :: w34 :: w35 :: w36 :: w37 :: w38 :: w39 :: w40 :: w41 :: w42 :: w43 :: w44 :: w45 :: w46 :: w47 :: w48 :: w49 :: w50 :: w51 :: w52 :: w53 :: w54 :: w55 :: w56 :: w57 :: w58 :: w59 :: w60 :: w61 :: w62 :: w63 :: w64 :: w65 :: w66 :: w67 :: w68 :: w69 :: w70 :: w71 :: w72 :: w73 :: w74 :: w75 :: w76 :: w77 :: w78 :: w79 :: w80 :: w81 :: w82 :: w83 :: w84 :: w85 :: w86 :: w87 :: w88 :: w89 :: w90 :: w91 :: w92 :: w93 :: []))] s.heap.size = A at hD ⊢
  have hA : ∀ q : Nat, s.heap.size ≤ q → A q := fun q h => by rw [← hAe]; exact Or.inr h
  have hS : va_S A s.heap s.heap [] := va_S.rf
  have hl := lv_entry ([.ref h0, .int n]) (n := 2) (Nat.le_of_ble_eq_true rfl)
  rw [lg_entry_eq]
  generalize (lg_sl ([.ref h0, .int n]) ++ List.replicate (2 - (lg_sl ([.ref h0, .int n])).length) Slot.unset).toArray = ls at hl ⊢
  have hl : lv_has ls 2 [(0, .ref h0), (1, .int n)] := hl
  refine lv_iload_n hx hb dX12_end_0 rfl (lv_at hl 1 rfl) ?_
  refine lv_i2l hx hb dX12_end_1 rfl ?_
  refine lv_topl (fun y_1 ey_1 => ?_)
  refine lv_lconst (v := 0) hx hb dX12_end_2 (by decide) ?_
  refine lv_aload_n hx hb dX12_end_3 rfl (lv_at hl 0 rfl) ?_
  refine va_get (D := (dC, dI)) (ci := 12) (v := .int 0) (C := RX12) (T := TX12) (N := 94) hx hb hts (by decide +kernel) hown hK hP 0 rfl rfl 32 (by decide) (hts (.fieldLink RX12 128 "ProofBenchModel" "taped" "I") (by decide +kernel)) (fun _ h9 => h9) rfl dX12_end_4 ?_
  refine lv_i2l hx hb dX12_end_7 rfl ?_
  refine lv_topl (fun y_2 ey_2 => ?_)
  have hPc := hP.sub (ws' := []) [] rfl
  have hDc := hD.sub (ws' := []) [] (by decide) rfl
  have hKc := hK.sub (tys' := []) [] rfl
  have hFc := va_free (wc := []) hD hS hA [] rfl
  refine va_calli (va_runS (As := [.long y_1, .long 0, .long y_2]) (rest := []) ⟨hx, hb, hml, hown, hts⟩ (c_isIn l dC dI s.heap.size y_1 0 y_2) (va_cwS 3 hts gc_X12_end__X12_isIn rfl rfl rfl (by decide +kernel) ⟨Nat.le_of_ble_eq_true rfl, Nat.le_of_ble_eq_true rfl⟩) ⟨fun a U g mk q => by obtain ⟨q0, q1, qP, qK, qD⟩ := q; exact ⟨q0, q1, qP, va_K.moved (u := U) (U := U.calling g mk a) (Vm.Alike.refl U.vm) qK, qD⟩, fun U hU hW => ⟨rfl, by rw [hU], by rw [hU]; exact hPc, va_K.moved hW.alike hKc, hDc.weaken (fun _ _ _ _ => trivial)⟩⟩ rfl rfl hl.1 rfl (lv_room (Nat.le_of_ble_eq_true rfl)) dX12_end_8 ⟨(show 0 + 0 ≤ 0 by omega), (show 0 + 0 ≤ 0 by omega)⟩) hS (fun q _ h => hFc q h) hFc (fun r0 u t H1 locs ht hvm hw hB hz1 hk1 hS => ?_)
  obtain ⟨hP1, hK1, hD1⟩ := hB
  rw [ht] at hP1
  have hK1 := va_K.moved hvm.symm hK1
  obtain ⟨hP, hD⟩ := va_join (wr := [(h0, .inr (12, w0 :: w1 :: w2 :: w3 :: w4 :: w5 :: w6 :: w7 :: w8 :: w9 :: w10 :: w11 :: w12 :: w13 :: w14 :: w15 :: w16 :: w17 :: w18 :: w19 :: w20 :: w21 :: w22 :: w23 :: w24 :: w25 :: w26 :: w27 :: w28 :: w29 :: w30 :: w31 :: .int 0 :: w33 :: w34 :: w35 :: w36 :: w37 :: w38 :: w39 :: w40 :: w41 :: w42 :: w43 :: w44 :: w45 :: w46 :: w47 :: w48 :: w49 :: w50 :: w51 :: w52 :: w53 :: w54 :: w55 :: w56 :: w57 :: w58 :: w59 :: w60 :: w61 :: w62 :: w63 :: w64 :: w65 :: w66 :: w67 :: w68 :: w69 :: w70 :: w71 :: w72 :: w73 :: w74 :: w75 :: w76 :: w77 :: w78 :: w79 :: w80 :: w81 :: w82 :: w83 :: w84 :: w85 :: w86 :: w87 :: w88 :: w89 :: w90 :: w91 :: w92 :: w93 :: []))]) (w1 := []) hP hD [] [0] rfl rfl (by decide) (by decide) hk1 hFc hP1 hD1
  have hK := (hK.sub (tys' := []) [] rfl).app hK1
  generalize H1 = H at hP hS ⊢
  have hP : va_P (dC, dI) vwCl [(h0, .inr (12, w0 :: w1 :: w2 :: w3 :: w4 :: w5 :: w6 :: w7 :: w8 :: w9 :: w10 :: w11 :: w12 :: w13 :: w14 :: w15 :: w16 :: w17 :: w18 :: w19 :: w20 :: w21 :: w22 :: w23 :: w24 :: w25 :: w26 :: w27 :: w28 :: w29 :: w30 :: w31 :: .int 0 :: w33 :: w34 :: w35 :: w36 :: w37 :: w38 :: w39 :: w40 :: w41 :: w42 :: w43 :: w44 :: w45 :: w46 :: w47 :: w48 :: w49 :: w50 :: w51 :: w52 :: w53 :: w54 :: w55 :: w56 :: w57 :: w58 :: w59 :: w60 :: w61 :: w62 :: w63 :: w64 :: w65 :: w66 :: w67 :: w68 :: w69 :: w70 :: w71 :: w72 :: w73 :: w74 :: w75 :: w76 :: w77 :: w78 :: w79 :: w80 :: w81 :: w82 :: w83 :: w84 :: w85 :: w86 :: w87 :: w88 :: w89 :: w90 :: w91 :: w92 :: w93 :: []))] H := hP
  have hD : va_D A [(h0, .inr (12, w0 :: w1 :: w2 :: w3 :: w4 :: w5 :: w6 :: w7 :: w8 :: w9 :: w10 :: w11 :: w12 :: w13 :: w14 :: w15 :: w16 :: w17 :: w18 :: w19 :: w20 :: w21 :: w22 :: w23 :: w24 :: w25 :: w26 :: w27 :: w28 :: w29 :: w30 :: w31 :: .int 0 :: w33 :: w34 :: w35 :: w36 :: w37 :: w38 :: w39 :: w40 :: w41 :: w42 :: w43 :: w44 :: w45 :: w46 :: w47 :: w48 :: w49 :: w50 :: w51 :: w52 :: w53 :: w54 :: w55 :: w56 :: w57 :: w58 :: w59 :: w60 :: w61 :: w62 :: w63 :: w64 :: w65 :: w66 :: w67 :: w68 :: w69 :: w70 :: w71 :: w72 :: w73 :: w74 :: w75 :: w76 :: w77 :: w78 :: w79 :: w80 :: w81 :: w82 :: w83 :: w84 :: w85 :: w86 :: w87 :: w88 :: w89 :: w90 :: w91 :: w92 :: w93 :: []))] := hD
  have hK : va_K (dC, dI) vwCl [] s := hK
  refine W.widen (k := 0) (n := 0) (by omega) (by omega) ?_
  by_cases hn : n = 0
  · subst hn
    obtain rfl : r0 = 1 := by rw [hw, ey_1, ey_2]; decide
    refine lv_if_ne (tgt := 16) hx hb dX12_end_11 (by decide) (fun _ => ?_) (fun c9 => absurd c9 (by decide))
    refine lv_aload_n hx hb dX12_end_16 rfl (lv_at hl 0 rfl) ?_
    refine lv_iload_n hx hb dX12_end_17 rfl (lv_at hl 1 rfl) ?_
    refine va_put (D := (dC, dI)) (ci := 12) (v := .int 0) (ty := .int) (C := RX12) (T := TX12) (N := 94) hx hb hts (by decide +kernel) tyX12 tyX12_ok nmX12 hown hK hP hD hS 0 rfl rfl 32 (by decide) (hts (.fieldLink RX12 128 "ProofBenchModel" "taped" "I") (by decide +kernel)) (fun _ h9 => h9) rfl (by decide +kernel) rfl rfl (Nat.le_of_ble_eq_true rfl) dX12_end_18 (fun H locs hP hD hS => ?_)
    have hP : va_P (dC, dI) vwCl [(h0, .inr (12, w0 :: w1 :: w2 :: w3 :: w4 :: w5 :: w6 :: w7 :: w8 :: w9 :: w10 :: w11 :: w12 :: w13 :: w14 :: w15 :: w16 :: w17 :: w18 :: w19 :: w20 :: w21 :: w22 :: w23 :: w24 :: w25 :: w26 :: w27 :: w28 :: w29 :: w30 :: w31 :: .int 0 :: w33 :: w34 :: w35 :: w36 :: w37 :: w38 :: w39 :: w40 :: w41 :: w42 :: w43 :: w44 :: w45 :: w46 :: w47 :: w48 :: w49 :: w50 :: w51 :: w52 :: w53 :: w54 :: w55 :: w56 :: w57 :: w58 :: w59 :: w60 :: w61 :: w62 :: w63 :: w64 :: w65 :: w66 :: w67 :: w68 :: w69 :: w70 :: w71 :: w72 :: w73 :: w74 :: w75 :: w76 :: w77 :: w78 :: w79 :: w80 :: w81 :: w82 :: w83 :: w84 :: w85 :: w86 :: w87 :: w88 :: w89 :: w90 :: w91 :: w92 :: w93 :: []))] H := hP
    have hD : va_D A [(h0, .inr (12, w0 :: w1 :: w2 :: w3 :: w4 :: w5 :: w6 :: w7 :: w8 :: w9 :: w10 :: w11 :: w12 :: w13 :: w14 :: w15 :: w16 :: w17 :: w18 :: w19 :: w20 :: w21 :: w22 :: w23 :: w24 :: w25 :: w26 :: w27 :: w28 :: w29 :: w30 :: w31 :: .int 0 :: w33 :: w34 :: w35 :: w36 :: w37 :: w38 :: w39 :: w40 :: w41 :: w42 :: w43 :: w44 :: w45 :: w46 :: w47 :: w48 :: w49 :: w50 :: w51 :: w52 :: w53 :: w54 :: w55 :: w56 :: w57 :: w58 :: w59 :: w60 :: w61 :: w62 :: w63 :: w64 :: w65 :: w66 :: w67 :: w68 :: w69 :: w70 :: w71 :: w72 :: w73 :: w74 :: w75 :: w76 :: w77 :: w78 :: w79 :: w80 :: w81 :: w82 :: w83 :: w84 :: w85 :: w86 :: w87 :: w88 :: w89 :: w90 :: w91 :: w92 :: w93 :: []))] := hD
    refine lv_iload_n hx hb dX12_end_21 rfl (lv_at hl 1 rfl) ?_
    have hP9 := hP.sub (ws' := []) [] rfl
    have hD9 := hD.sub (ws' := []) [] (by decide) rfl
    have hK9 := hK.sub (tys' := []) [] rfl
    refine W.widen (k := 0) (n := 0) (by omega) (by omega) ?_
    exact W.iret (v := 0) hx hb hr (fun t ht hW => ⟨⟨0, (), rfl, rfl, by rw [ht]; exact hP9, va_K.moved hW.alike hK9, hD9⟩, hS.F ht⟩) hS.2.2 dX12_end_22
  · obtain rfl : r0 = 0 := by rw [hw, ey_1, ey_2, if_neg (rf_in0 hn)]
    refine lv_if_ne (tgt := 16) hx hb dX12_end_11 (by decide) (fun c9 => absurd c9 (by decide)) (fun _ => ?_)
    refine lv_iconst (v := -1) hx hb dX12_end_14 (by decide) ?_
    have hP9 := hP.sub (ws' := []) [] rfl
    have hD9 := hD.sub (ws' := []) [] (by decide) rfl
    have hK9 := hK.sub (tys' := []) [] rfl
    refine W.widen (k := 0) (n := 0) (by omega) (by omega) ?_
    exact W.iret (v := (-1)) hx hb hr (fun t ht hW => ⟨⟨(-1), (), rfl, by rw [if_neg hn], by rw [ht]; exact hP9, va_K.moved hW.alike hK9, hD9⟩, hS.F ht⟩) hS.2.2 dX12_end_15
def wc_X12_wrong : List Cond := .code yX12_wrong cX12_wrong 1 (some .int) :: ([Cond.fieldLink RX12 604 "ProofBenchModel" "wrongAt" "I"] ++ wsX120)
set_option maxHeartbeats 1000000 in
set_option maxRecDepth 100000 in
/-- m_wrong() on a fresh object -/
theorem m_wrong (l : Launch) (dC : Nat → ClassId) (dI : Nat → Nat → Nat) (sz : Nat) (h0 : Nat) (w0 w1 w2 w3 w4 w5 w6 w7 w8 w9 w10 w11 w12 w13 w14 w15 w16 w17 w18 w19 w20 w21 w22 w23 w24 w25 w26 w27 w28 w29 w30 w31 w32 w33 w34 w35 w36 w37 w38 w39 w40 w41 w42 w43 w44 w45 w46 w47 w48 w49 w50 w51 w52 w53 w54 w55 w56 w57 w58 w59 w60 w61 w62 w63 w64 w65 w66 w67 w68 w69 w70 w71 w72 w73 w74 w75 w76 w77 w78 w79 w80 w81 w82 w83 w84 w85 w86 w87 w88 w89 w90 w91 w93 : Value) : Met l yX12_wrong wc_X12_wrong ({ frames := 0, cells := 0, slots := 0, locals := 0 }) (va_Pc [.ref h0] (fun U => U.heap.size = sz ∧ va_P (dC, dI) vwCl [(h0, .inr (12, w0 :: w1 :: w2 :: w3 :: w4 :: w5 :: w6 :: w7 :: w8 :: w9 :: w10 :: w11 :: w12 :: w13 :: w14 :: w15 :: w16 :: w17 :: w18 :: w19 :: w20 :: w21 :: w22 :: w23 :: w24 :: w25 :: w26 :: w27 :: w28 :: w29 :: w30 :: w31 :: w32 :: w33 :: w34 :: w35 :: w36 :: w37 :: w38 :: w39 :: w40 :: w41 :: w42 :: w43 :: w44 :: w45 :: w46 :: w47 :: w48 :: w49 :: w50 :: w51 :: w52 :: w53 :: w54 :: w55 :: w56 :: w57 :: w58 :: w59 :: w60 :: w61 :: w62 :: w63 :: w64 :: w65 :: w66 :: w67 :: w68 :: w69 :: w70 :: w71 :: w72 :: w73 :: w74 :: w75 :: w76 :: w77 :: w78 :: w79 :: w80 :: w81 :: w82 :: w83 :: w84 :: w85 :: w86 :: w87 :: w88 :: w89 :: w90 :: w91 :: .int (-1) :: w93 :: []))] U.heap ∧ va_K (dC, dI) vwCl [] U ∧ va_D (fun _ => True) [(h0, .inr (12, w0 :: w1 :: w2 :: w3 :: w4 :: w5 :: w6 :: w7 :: w8 :: w9 :: w10 :: w11 :: w12 :: w13 :: w14 :: w15 :: w16 :: w17 :: w18 :: w19 :: w20 :: w21 :: w22 :: w23 :: w24 :: w25 :: w26 :: w27 :: w28 :: w29 :: w30 :: w31 :: w32 :: w33 :: w34 :: w35 :: w36 :: w37 :: w38 :: w39 :: w40 :: w41 :: w42 :: w43 :: w44 :: w45 :: w46 :: w47 :: w48 :: w49 :: w50 :: w51 :: w52 :: w53 :: w54 :: w55 :: w56 :: w57 :: w58 :: w59 :: w60 :: w61 :: w62 :: w63 :: w64 :: w65 :: w66 :: w67 :: w68 :: w69 :: w70 :: w71 :: w72 :: w73 :: w74 :: w75 :: w76 :: w77 :: w78 :: w79 :: w80 :: w81 :: w82 :: w83 :: w84 :: w85 :: w86 :: w87 :: w88 :: w89 :: w90 :: w91 :: .int (-1) :: w93 :: []))])) (va_Qi (fun (r : Int32) (_ : Unit) => r = (-1)) (fun _ t => va_P (dC, dI) vwCl [] t.heap ∧ va_K (dC, dI) vwCl [] t ∧ va_D (va_A [(h0, .inr (12, w0 :: w1 :: w2 :: w3 :: w4 :: w5 :: w6 :: w7 :: w8 :: w9 :: w10 :: w11 :: w12 :: w13 :: w14 :: w15 :: w16 :: w17 :: w18 :: w19 :: w20 :: w21 :: w22 :: w23 :: w24 :: w25 :: w26 :: w27 :: w28 :: w29 :: w30 :: w31 :: w32 :: w33 :: w34 :: w35 :: w36 :: w37 :: w38 :: w39 :: w40 :: w41 :: w42 :: w43 :: w44 :: w45 :: w46 :: w47 :: w48 :: w49 :: w50 :: w51 :: w52 :: w53 :: w54 :: w55 :: w56 :: w57 :: w58 :: w59 :: w60 :: w61 :: w62 :: w63 :: w64 :: w65 :: w66 :: w67 :: w68 :: w69 :: w70 :: w71 :: w72 :: w73 :: w74 :: w75 :: w76 :: w77 :: w78 :: w79 :: w80 :: w81 :: w82 :: w83 :: w84 :: w85 :: w86 :: w87 :: w88 :: w89 :: w90 :: w91 :: .int (-1) :: w93 :: []))] sz) []) (va_A [(h0, .inr (12, w0 :: w1 :: w2 :: w3 :: w4 :: w5 :: w6 :: w7 :: w8 :: w9 :: w10 :: w11 :: w12 :: w13 :: w14 :: w15 :: w16 :: w17 :: w18 :: w19 :: w20 :: w21 :: w22 :: w23 :: w24 :: w25 :: w26 :: w27 :: w28 :: w29 :: w30 :: w31 :: w32 :: w33 :: w34 :: w35 :: w36 :: w37 :: w38 :: w39 :: w40 :: w41 :: w42 :: w43 :: w44 :: w45 :: w46 :: w47 :: w48 :: w49 :: w50 :: w51 :: w52 :: w53 :: w54 :: w55 :: w56 :: w57 :: w58 :: w59 :: w60 :: w61 :: w62 :: w63 :: w64 :: w65 :: w66 :: w67 :: w68 :: w69 :: w70 :: w71 :: w72 :: w73 :: w74 :: w75 :: w76 :: w77 :: w78 :: w79 :: w80 :: w81 :: w82 :: w83 :: w84 :: w85 :: w86 :: w87 :: w88 :: w89 :: w90 :: w91 :: .int (-1) :: w93 :: []))] sz)) (0) (0) (va_A [(h0, .inr (12, w0 :: w1 :: w2 :: w3 :: w4 :: w5 :: w6 :: w7 :: w8 :: w9 :: w10 :: w11 :: w12 :: w13 :: w14 :: w15 :: w16 :: w17 :: w18 :: w19 :: w20 :: w21 :: w22 :: w23 :: w24 :: w25 :: w26 :: w27 :: w28 :: w29 :: w30 :: w31 :: w32 :: w33 :: w34 :: w35 :: w36 :: w37 :: w38 :: w39 :: w40 :: w41 :: w42 :: w43 :: w44 :: w45 :: w46 :: w47 :: w48 :: w49 :: w50 :: w51 :: w52 :: w53 :: w54 :: w55 :: w56 :: w57 :: w58 :: w59 :: w60 :: w61 :: w62 :: w63 :: w64 :: w65 :: w66 :: w67 :: w68 :: w69 :: w70 :: w71 :: w72 :: w73 :: w74 :: w75 :: w76 :: w77 :: w78 :: w79 :: w80 :: w81 :: w82 :: w83 :: w84 :: w85 :: w86 :: w87 :: w88 :: w89 :: w90 :: w91 :: .int (-1) :: w93 :: []))] sz) := by
  refine Met.ofW (cc := cX12_wrong) (maxL := 1) (ret := (some .int)) (by decide) rfl ?_
  intro p e s m args below meth c s₁ B hml hv
  obtain ⟨rfl, hsz, hP, hK, hD0⟩ := hv
  have hx := B.exec
  have hb := B.bytes
  have hr := B.returns
  have hts := atoms_spec (ws := wc_X12_wrong) B.pre
  have hown : s.vm.findClass RX12 = some m.cls := findClass_of_methodNamed B.named
  have hlocks := B.notSynchronized
  subst hsz
  have hD := hD0.self (sz := s.heap.size)
  generalize hAe : va_A [(h0, .inr (12, w0 :: w1 :: w2 :: w3 :: w4 :: w5 :: w6 :: w7 :: w8 :: w9 :: w10 :: w11 :: w12 :: w13 :: w14 :: w15 :: w16 :: w17 :: w18 :: w19 :: w20 :: w21 :: w22 :: w23 :: w24 :: w25 :: w26 :: w27 :: w28 :: w29 :: w30 :: w31 :: w32 :: w33 :: w34 :: w35 :: w36 :: w37 :: w38 :: w39 :: w40 :: w41 :: w42 :: w43 :: w44 :: w45 :: w46 :: w47 :: w48 :: w49 :: w50 :: w51 :: w52 :: w53 :: w54 :: w55 :: w56 :: w57 :: w58 :: w59 :: w60 :: w61 :: w62 :: w63 :: w64 :: w65 :: w66 :: w67 :: w68 :: w69 :: w70 :: w71 :: w72 :: w73 :: w74 :: w75 :: w76 :: w77 :: w78 :: w79 :: w80 :: w81 :: w82 :: w83 :: w84 :: w85 :: w86 :: w87 :: w88 :: w89 :: w90 :: w91 :: .int (-1) :: w93 :: []))] s.heap.size = A at hD ⊢
  have hA : ∀ q : Nat, s.heap.size ≤ q → A q := fun q h => by rw [← hAe]; exact Or.inr h
  have hS : va_S A s.heap s.heap [] := va_S.rf
  have hl := lv_entry ([.ref h0]) (n := 1) (Nat.le_of_ble_eq_true rfl)
  rw [lg_entry_eq]
  generalize (lg_sl ([.ref h0]) ++ List.replicate (1 - (lg_sl ([.ref h0])).length) Slot.unset).toArray = ls at hl ⊢
  have hl : lv_has ls 1 [(0, .ref h0)] := hl
  refine lv_aload_n hx hb dX12_wrong_0 rfl (lv_at hl 0 rfl) ?_
  refine va_get (D := (dC, dI)) (ci := 12) (v := .int (-1)) (C := RX12) (T := TX12) (N := 94) hx hb hts (by decide +kernel) hown hK hP 0 rfl rfl 92 (by decide) (hts (.fieldLink RX12 604 "ProofBenchModel" "wrongAt" "I") (by decide +kernel)) (fun _ h9 => h9) rfl dX12_wrong_1 ?_
  have hP9 := hP.sub (ws' := []) [] rfl
  have hD9 := hD.sub (ws' := []) [] (by decide) rfl
  have hK9 := hK.sub (tys' := []) [] rfl
  refine W.widen (k := 0) (n := 0) (by omega) (by omega) ?_
  exact W.iret (v := (-1)) hx hb hr (fun t ht hW => ⟨⟨(-1), (), rfl, rfl, by rw [ht]; exact hP9, va_K.moved hW.alike hK9, hD9⟩, hS.F ht⟩) hS.2.2 dX12_wrong_4
def wc_X12_outputs : List Cond := .code yX12_outputs cX12_outputs 1 (some .int) :: ([Cond.fieldLink RX12 527 "ProofBenchModel" "outs" "I"] ++ wsX120)
set_option maxHeartbeats 1000000 in
set_option maxRecDepth 100000 in
/-- m_outputs() on a fresh object -/
theorem m_outputs (l : Launch) (dC : Nat → ClassId) (dI : Nat → Nat → Nat) (sz : Nat) (h0 : Nat) (w0 w1 w2 w3 w4 w5 w6 w7 w8 w9 w10 w11 w12 w13 w14 w15 w16 w17 w18 w19 w20 w21 w22 w23 w24 w25 w26 w27 w28 w29 w30 w31 w32 w33 w34 w35 w36 w37 w38 w39 w40 w41 w42 w43 w44 w45 w46 w47 w48 w49 w50 w51 w52 w53 w54 w55 w56 w57 w58 w59 w60 w61 w62 w63 w64 w65 w66 w67 w68 w69 w70 w71 w72 w73 w74 w75 w76 w77 w78 w79 w80 w81 w82 w83 w84 w85 w86 w87 w89 w90 w91 w92 w93 : Value) : Met l yX12_outputs wc_X12_outputs ({ frames := 0, cells := 0, slots := 0, locals := 0 }) (va_Pc [.ref h0] (fun U => U.heap.size = sz ∧ va_P (dC, dI) vwCl [(h0, .inr (12, w0 :: w1 :: w2 :: w3 :: w4 :: w5 :: w6 :: w7 :: w8 :: w9 :: w10 :: w11 :: w12 :: w13 :: w14 :: w15 :: w16 :: w17 :: w18 :: w19 :: w20 :: w21 :: w22 :: w23 :: w24 :: w25 :: w26 :: w27 :: w28 :: w29 :: w30 :: w31 :: w32 :: w33 :: w34 :: w35 :: w36 :: w37 :: w38 :: w39 :: w40 :: w41 :: w42 :: w43 :: w44 :: w45 :: w46 :: w47 :: w48 :: w49 :: w50 :: w51 :: w52 :: w53 :: w54 :: w55 :: w56 :: w57 :: w58 :: w59 :: w60 :: w61 :: w62 :: w63 :: w64 :: w65 :: w66 :: w67 :: w68 :: w69 :: w70 :: w71 :: w72 :: w73 :: w74 :: w75 :: w76 :: w77 :: w78 :: w79 :: w80 :: w81 :: w82 :: w83 :: w84 :: w85 :: w86 :: w87 :: .int 0 :: w89 :: w90 :: w91 :: w92 :: w93 :: []))] U.heap ∧ va_K (dC, dI) vwCl [] U ∧ va_D (fun _ => True) [(h0, .inr (12, w0 :: w1 :: w2 :: w3 :: w4 :: w5 :: w6 :: w7 :: w8 :: w9 :: w10 :: w11 :: w12 :: w13 :: w14 :: w15 :: w16 :: w17 :: w18 :: w19 :: w20 :: w21 :: w22 :: w23 :: w24 :: w25 :: w26 :: w27 :: w28 :: w29 :: w30 :: w31 :: w32 :: w33 :: w34 :: w35 :: w36 :: w37 :: w38 :: w39 :: w40 :: w41 :: w42 :: w43 :: w44 :: w45 :: w46 :: w47 :: w48 :: w49 :: w50 :: w51 :: w52 :: w53 :: w54 :: w55 :: w56 :: w57 :: w58 :: w59 :: w60 :: w61 :: w62 :: w63 :: w64 :: w65 :: w66 :: w67 :: w68 :: w69 :: w70 :: w71 :: w72 :: w73 :: w74 :: w75 :: w76 :: w77 :: w78 :: w79 :: w80 :: w81 :: w82 :: w83 :: w84 :: w85 :: w86 :: w87 :: .int 0 :: w89 :: w90 :: w91 :: w92 :: w93 :: []))])) (va_Qi (fun (r : Int32) (_ : Unit) => r = 0) (fun _ t => va_P (dC, dI) vwCl [] t.heap ∧ va_K (dC, dI) vwCl [] t ∧ va_D (va_A [(h0, .inr (12, w0 :: w1 :: w2 :: w3 :: w4 :: w5 :: w6 :: w7 :: w8 :: w9 :: w10 :: w11 :: w12 :: w13 :: w14 :: w15 :: w16 :: w17 :: w18 :: w19 :: w20 :: w21 :: w22 :: w23 :: w24 :: w25 :: w26 :: w27 :: w28 :: w29 :: w30 :: w31 :: w32 :: w33 :: w34 :: w35 :: w36 :: w37 :: w38 :: w39 :: w40 :: w41 :: w42 :: w43 :: w44 :: w45 :: w46 :: w47 :: w48 :: w49 :: w50 :: w51 :: w52 :: w53 :: w54 :: w55 :: w56 :: w57 :: w58 :: w59 :: w60 :: w61 :: w62 :: w63 :: w64 :: w65 :: w66 :: w67 :: w68 :: w69 :: w70 :: w71 :: w72 :: w73 :: w74 :: w75 :: w76 :: w77 :: w78 :: w79 :: w80 :: w81 :: w82 :: w83 :: w84 :: w85 :: w86 :: w87 :: .int 0 :: w89 :: w90 :: w91 :: w92 :: w93 :: []))] sz) []) (va_A [(h0, .inr (12, w0 :: w1 :: w2 :: w3 :: w4 :: w5 :: w6 :: w7 :: w8 :: w9 :: w10 :: w11 :: w12 :: w13 :: w14 :: w15 :: w16 :: w17 :: w18 :: w19 :: w20 :: w21 :: w22 :: w23 :: w24 :: w25 :: w26 :: w27 :: w28 :: w29 :: w30 :: w31 :: w32 :: w33 :: w34 :: w35 :: w36 :: w37 :: w38 :: w39 :: w40 :: w41 :: w42 :: w43 :: w44 :: w45 :: w46 :: w47 :: w48 :: w49 :: w50 :: w51 :: w52 :: w53 :: w54 :: w55 :: w56 :: w57 :: w58 :: w59 :: w60 :: w61 :: w62 :: w63 :: w64 :: w65 :: w66 :: w67 :: w68 :: w69 :: w70 :: w71 :: w72 :: w73 :: w74 :: w75 :: w76 :: w77 :: w78 :: w79 :: w80 :: w81 :: w82 :: w83 :: w84 :: w85 :: w86 :: w87 :: .int 0 :: w89 :: w90 :: w91 :: w92 :: w93 :: []))] sz)) (0) (0) (va_A [(h0, .inr (12, w0 :: w1 :: w2 :: w3 :: w4 :: w5 :: w6 :: w7 :: w8 :: w9 :: w10 :: w11 :: w12 :: w13 :: w14 :: w15 :: w16 :: w17 :: w18 :: w19 :: w20 :: w21 :: w22 :: w23 :: w24 :: w25 :: w26 :: w27 :: w28 :: w29 :: w30 :: w31 :: w32 :: w33 :: w34 :: w35 :: w36 :: w37 :: w38 :: w39 :: w40 :: w41 :: w42 :: w43 :: w44 :: w45 :: w46 :: w47 :: w48 :: w49 :: w50 :: w51 :: w52 :: w53 :: w54 :: w55 :: w56 :: w57 :: w58 :: w59 :: w60 :: w61 :: w62 :: w63 :: w64 :: w65 :: w66 :: w67 :: w68 :: w69 :: w70 :: w71 :: w72 :: w73 :: w74 :: w75 :: w76 :: w77 :: w78 :: w79 :: w80 :: w81 :: w82 :: w83 :: w84 :: w85 :: w86 :: w87 :: .int 0 :: w89 :: w90 :: w91 :: w92 :: w93 :: []))] sz) := by
  refine Met.ofW (cc := cX12_outputs) (maxL := 1) (ret := (some .int)) (by decide) rfl ?_
  intro p e s m args below meth c s₁ B hml hv
  obtain ⟨rfl, hsz, hP, hK, hD0⟩ := hv
  have hx := B.exec
  have hb := B.bytes
  have hr := B.returns
  have hts := atoms_spec (ws := wc_X12_outputs) B.pre
  have hown : s.vm.findClass RX12 = some m.cls := findClass_of_methodNamed B.named
  have hlocks := B.notSynchronized
  subst hsz
  have hD := hD0.self (sz := s.heap.size)
  generalize hAe : va_A [(h0, .inr (12, w0 :: w1 :: w2 :: w3 :: w4 :: w5 :: w6 :: w7 :: w8 :: w9 :: w10 :: w11 :: w12 :: w13 :: w14 :: w15 :: w16 :: w17 :: w18 :: w19 :: w20 :: w21 :: w22 :: w23 :: w24 :: w25 :: w26 :: w27 :: w28 :: w29 :: w30 :: w31 :: w32 :: w33 :: w34 :: w35 :: w36 :: w37 :: w38 :: w39 :: w40 :: w41 :: w42 :: w43 :: w44 :: w45 :: w46 :: w47 :: w48 :: w49 :: w50 :: w51 :: w52 :: w53 :: w54 :: w55 :: w56 :: w57 :: w58 :: w59 :: w60 :: w61 :: w62 :: w63 :: w64 :: w65 :: w66 :: w67 :: w68 :: w69 :: w70 :: w71 :: w72 :: w73 :: w74 :: w75 :: w76 :: w77 :: w78 :: w79 :: w80 :: w81 :: w82 :: w83 :: w84 :: w85 :: w86 :: w87 :: .int 0 :: w89 :: w90 :: w91 :: w92 :: w93 :: []))] s.heap.size = A at hD ⊢
  have hA : ∀ q : Nat, s.heap.size ≤ q → A q := fun q h => by rw [← hAe]; exact Or.inr h
  have hS : va_S A s.heap s.heap [] := va_S.rf
  have hl := lv_entry ([.ref h0]) (n := 1) (Nat.le_of_ble_eq_true rfl)
  rw [lg_entry_eq]
  generalize (lg_sl ([.ref h0]) ++ List.replicate (1 - (lg_sl ([.ref h0])).length) Slot.unset).toArray = ls at hl ⊢
  have hl : lv_has ls 1 [(0, .ref h0)] := hl
  refine lv_aload_n hx hb dX12_outputs_0 rfl (lv_at hl 0 rfl) ?_
  refine va_get (D := (dC, dI)) (ci := 12) (v := .int 0) (C := RX12) (T := TX12) (N := 94) hx hb hts (by decide +kernel) hown hK hP 0 rfl rfl 88 (by decide) (hts (.fieldLink RX12 527 "ProofBenchModel" "outs" "I") (by decide +kernel)) (fun _ h9 => h9) rfl dX12_outputs_1 ?_
  have hP9 := hP.sub (ws' := []) [] rfl
  have hD9 := hD.sub (ws' := []) [] (by decide) rfl
  have hK9 := hK.sub (tys' := []) [] rfl
  refine W.widen (k := 0) (n := 0) (by omega) (by omega) ?_
  exact W.iret (v := 0) hx hb hr (fun t ht hW => ⟨⟨0, (), rfl, rfl, by rw [ht]; exact hP9, va_K.moved hW.alike hK9, hD9⟩, hS.F ht⟩) hS.2.2 dX12_outputs_4
def wc_X12_steps : List Cond := .code yX12_steps cX12_steps 1 (some .int) :: ([Cond.fieldLink RX12 357 "ProofBenchModel" "steps" "I"] ++ wsX120)
set_option maxHeartbeats 1000000 in
set_option maxRecDepth 100000 in
/-- m_steps() on a fresh object -/
theorem m_steps (l : Launch) (dC : Nat → ClassId) (dI : Nat → Nat → Nat) (sz : Nat) (h0 : Nat) (w0 w1 w2 w3 w4 w5 w6 w7 w8 w9 w10 w11 w12 w13 w14 w15 w16 w17 w18 w19 w20 w21 w22 w23 w24 w25 w26 w27 w28 w29 w30 w31 w32 w33 w34 w35 w36 w37 w38 w39 w40 w41 w42 w43 w44 w45 w46 w47 w48 w49 w50 w51 w52 w53 w54 w55 w56 w57 w58 w59 w60 w61 w62 w64 w65 w66 w67 w68 w69 w70 w71 w72 w73 w74 w75 w76 w77 w78 w79 w80 w81 w82 w83 w84 w85 w86 w87 w88 w89 w90 w91 w92 w93 : Value) : Met l yX12_steps wc_X12_steps ({ frames := 0, cells := 0, slots := 0, locals := 0 }) (va_Pc [.ref h0] (fun U => U.heap.size = sz ∧ va_P (dC, dI) vwCl [(h0, .inr (12, w0 :: w1 :: w2 :: w3 :: w4 :: w5 :: w6 :: w7 :: w8 :: w9 :: w10 :: w11 :: w12 :: w13 :: w14 :: w15 :: w16 :: w17 :: w18 :: w19 :: w20 :: w21 :: w22 :: w23 :: w24 :: w25 :: w26 :: w27 :: w28 :: w29 :: w30 :: w31 :: w32 :: w33 :: w34 :: w35 :: w36 :: w37 :: w38 :: w39 :: w40 :: w41 :: w42 :: w43 :: w44 :: w45 :: w46 :: w47 :: w48 :: w49 :: w50 :: w51 :: w52 :: w53 :: w54 :: w55 :: w56 :: w57 :: w58 :: w59 :: w60 :: w61 :: w62 :: .int 0 :: w64 :: w65 :: w66 :: w67 :: w68 :: w69 :: w70 :: w71 :: w72 :: w73 :: w74 :: w75 :: w76 :: w77 :: w78 :: w79 :: w80 :: w81 :: w82 :: w83 :: w84 :: w85 :: w86 :: w87 :: w88 :: w89 :: w90 :: w91 :: w92 :: w93 :: []))] U.heap ∧ va_K (dC, dI) vwCl [] U ∧ va_D (fun _ => True) [(h0, .inr (12, w0 :: w1 :: w2 :: w3 :: w4 :: w5 :: w6 :: w7 :: w8 :: w9 :: w10 :: w11 :: w12 :: w13 :: w14 :: w15 :: w16 :: w17 :: w18 :: w19 :: w20 :: w21 :: w22 :: w23 :: w24 :: w25 :: w26 :: w27 :: w28 :: w29 :: w30 :: w31 :: w32 :: w33 :: w34 :: w35 :: w36 :: w37 :: w38 :: w39 :: w40 :: w41 :: w42 :: w43 :: w44 :: w45 :: w46 :: w47 :: w48 :: w49 :: w50 :: w51 :: w52 :: w53 :: w54 :: w55 :: w56 :: w57 :: w58 :: w59 :: w60 :: w61 :: w62 :: .int 0 :: w64 :: w65 :: w66 :: w67 :: w68 :: w69 :: w70 :: w71 :: w72 :: w73 :: w74 :: w75 :: w76 :: w77 :: w78 :: w79 :: w80 :: w81 :: w82 :: w83 :: w84 :: w85 :: w86 :: w87 :: w88 :: w89 :: w90 :: w91 :: w92 :: w93 :: []))])) (va_Qi (fun (r : Int32) (_ : Unit) => r = 0) (fun _ t => va_P (dC, dI) vwCl [] t.heap ∧ va_K (dC, dI) vwCl [] t ∧ va_D (va_A [(h0, .inr (12, w0 :: w1 :: w2 :: w3 :: w4 :: w5 :: w6 :: w7 :: w8 :: w9 :: w10 :: w11 :: w12 :: w13 :: w14 :: w15 :: w16 :: w17 :: w18 :: w19 :: w20 :: w21 :: w22 :: w23 :: w24 :: w25 :: w26 :: w27 :: w28 :: w29 :: w30 :: w31 :: w32 :: w33 :: w34 :: w35 :: w36 :: w37 :: w38 :: w39 :: w40 :: w41 :: w42 :: w43 :: w44 :: w45 :: w46 :: w47 :: w48 :: w49 :: w50 :: w51 :: w52 :: w53 :: w54 :: w55 :: w56 :: w57 :: w58 :: w59 :: w60 :: w61 :: w62 :: .int 0 :: w64 :: w65 :: w66 :: w67 :: w68 :: w69 :: w70 :: w71 :: w72 :: w73 :: w74 :: w75 :: w76 :: w77 :: w78 :: w79 :: w80 :: w81 :: w82 :: w83 :: w84 :: w85 :: w86 :: w87 :: w88 :: w89 :: w90 :: w91 :: w92 :: w93 :: []))] sz) []) (va_A [(h0, .inr (12, w0 :: w1 :: w2 :: w3 :: w4 :: w5 :: w6 :: w7 :: w8 :: w9 :: w10 :: w11 :: w12 :: w13 :: w14 :: w15 :: w16 :: w17 :: w18 :: w19 :: w20 :: w21 :: w22 :: w23 :: w24 :: w25 :: w26 :: w27 :: w28 :: w29 :: w30 :: w31 :: w32 :: w33 :: w34 :: w35 :: w36 :: w37 :: w38 :: w39 :: w40 :: w41 :: w42 :: w43 :: w44 :: w45 :: w46 :: w47 :: w48 :: w49 :: w50 :: w51 :: w52 :: w53 :: w54 :: w55 :: w56 :: w57 :: w58 :: w59 :: w60 :: w61 :: w62 :: .int 0 :: w64 :: w65 :: w66 :: w67 :: w68 :: w69 :: w70 :: w71 :: w72 :: w73 :: w74 :: w75 :: w76 :: w77 :: w78 :: w79 :: w80 :: w81 :: w82 :: w83 :: w84 :: w85 :: w86 :: w87 :: w88 :: w89 :: w90 :: w91 :: w92 :: w93 :: []))] sz)) (0) (0) (va_A [(h0, .inr (12, w0 :: w1 :: w2 :: w3 :: w4 :: w5 :: w6 :: w7 :: w8 :: w9 :: w10 :: w11 :: w12 :: w13 :: w14 :: w15 :: w16 :: w17 :: w18 :: w19 :: w20 :: w21 :: w22 :: w23 :: w24 :: w25 :: w26 :: w27 :: w28 :: w29 :: w30 :: w31 :: w32 :: w33 :: w34 :: w35 :: w36 :: w37 :: w38 :: w39 :: w40 :: w41 :: w42 :: w43 :: w44 :: w45 :: w46 :: w47 :: w48 :: w49 :: w50 :: w51 :: w52 :: w53 :: w54 :: w55 :: w56 :: w57 :: w58 :: w59 :: w60 :: w61 :: w62 :: .int 0 :: w64 :: w65 :: w66 :: w67 :: w68 :: w69 :: w70 :: w71 :: w72 :: w73 :: w74 :: w75 :: w76 :: w77 :: w78 :: w79 :: w80 :: w81 :: w82 :: w83 :: w84 :: w85 :: w86 :: w87 :: w88 :: w89 :: w90 :: w91 :: w92 :: w93 :: []))] sz) := by
  refine Met.ofW (cc := cX12_steps) (maxL := 1) (ret := (some .int)) (by decide) rfl ?_
  intro p e s m args below meth c s₁ B hml hv
  obtain ⟨rfl, hsz, hP, hK, hD0⟩ := hv
  have hx := B.exec
  have hb := B.bytes
  have hr := B.returns
  have hts := atoms_spec (ws := wc_X12_steps) B.pre
  have hown : s.vm.findClass RX12 = some m.cls := findClass_of_methodNamed B.named
  have hlocks := B.notSynchronized
  subst hsz
  have hD := hD0.self (sz := s.heap.size)
  generalize hAe : va_A [(h0, .inr (12, w0 :: w1 :: w2 :: w3 :: w4 :: w5 :: w6 :: w7 :: w8 :: w9 :: w10 :: w11 :: w12 :: w13 :: w14 :: w15 :: w16 :: w17 :: w18 :: w19 :: w20 :: w21 :: w22 :: w23 :: w24 :: w25 :: w26 :: w27 :: w28 :: w29 :: w30 :: w31 :: w32 :: w33 :: w34 :: w35 :: w36 :: w37 :: w38 :: w39 :: w40 :: w41 :: w42 :: w43 :: w44 :: w45 :: w46 :: w47 :: w48 :: w49 :: w50 :: w51 :: w52 :: w53 :: w54 :: w55 :: w56 :: w57 :: w58 :: w59 :: w60 :: w61 :: w62 :: .int 0 :: w64 :: w65 :: w66 :: w67 :: w68 :: w69 :: w70 :: w71 :: w72 :: w73 :: w74 :: w75 :: w76 :: w77 :: w78 :: w79 :: w80 :: w81 :: w82 :: w83 :: w84 :: w85 :: w86 :: w87 :: w88 :: w89 :: w90 :: w91 :: w92 :: w93 :: []))] s.heap.size = A at hD ⊢
  have hA : ∀ q : Nat, s.heap.size ≤ q → A q := fun q h => by rw [← hAe]; exact Or.inr h
  have hS : va_S A s.heap s.heap [] := va_S.rf
  have hl := lv_entry ([.ref h0]) (n := 1) (Nat.le_of_ble_eq_true rfl)
  rw [lg_entry_eq]
  generalize (lg_sl ([.ref h0]) ++ List.replicate (1 - (lg_sl ([.ref h0])).length) Slot.unset).toArray = ls at hl ⊢
  have hl : lv_has ls 1 [(0, .ref h0)] := hl
  refine lv_aload_n hx hb dX12_steps_0 rfl (lv_at hl 0 rfl) ?_
  refine va_get (D := (dC, dI)) (ci := 12) (v := .int 0) (C := RX12) (T := TX12) (N := 94) hx hb hts (by decide +kernel) hown hK hP 0 rfl rfl 63 (by decide) (hts (.fieldLink RX12 357 "ProofBenchModel" "steps" "I") (by decide +kernel)) (fun _ h9 => h9) rfl dX12_steps_1 ?_
  have hP9 := hP.sub (ws' := []) [] rfl
  have hD9 := hD.sub (ws' := []) [] (by decide) rfl
  have hK9 := hK.sub (tys' := []) [] rfl
  refine W.widen (k := 0) (n := 0) (by omega) (by omega) ?_
  exact W.iret (v := 0) hx hb hr (fun t ht hW => ⟨⟨0, (), rfl, rfl, by rw [ht]; exact hP9, va_K.moved hW.alike hK9, hD9⟩, hS.F ht⟩) hS.2.2 dX12_steps_4
def wc_X12_facts : List Cond := .code yX12_facts cX12_facts 1 (some .int) :: ([Cond.fieldLink RX12 485 "ProofBenchModel" "facts" "I"] ++ wsX120)
set_option maxHeartbeats 1000000 in
set_option maxRecDepth 100000 in
/-- m_facts() on a fresh object -/
theorem m_facts (l : Launch) (dC : Nat → ClassId) (dI : Nat → Nat → Nat) (sz : Nat) (h0 : Nat) (w0 w1 w2 w3 w4 w5 w6 w7 w8 w9 w10 w11 w12 w13 w14 w15 w16 w17 w18 w19 w20 w21 w22 w23 w24 w25 w26 w27 w28 w29 w30 w31 w32 w33 w34 w35 w36 w37 w38 w39 w40 w41 w42 w43 w44 w45 w46 w47 w48 w49 w50 w51 w52 w53 w54 w55 w56 w57 w58 w59 w60 w61 w62 w63 w64 w65 w66 w67 w68 w70 w71 w72 w73 w74 w75 w76 w77 w78 w79 w80 w81 w82 w83 w84 w85 w86 w87 w88 w89 w90 w91 w92 w93 : Value) : Met l yX12_facts wc_X12_facts ({ frames := 0, cells := 0, slots := 0, locals := 0 }) (va_Pc [.ref h0] (fun U => U.heap.size = sz ∧ va_P (dC, dI) vwCl [(h0, .inr (12, w0 :: w1 :: w2 :: w3 :: w4 :: w5 :: w6 :: w7 :: w8 :: w9 :: w10 :: w11 :: w12 :: w13 :: w14 :: w15 :: w16 :: w17 :: w18 :: w19 :: w20 :: w21 :: w22 :: w23 :: w24 :: w25 :: w26 :: w27 :: w28 :: w29 :: w30 :: w31 :: w32 :: w33 :: w34 :: w35 :: w36 :: w37 :: w38 :: w39 :: w40 :: w41 :: w42 :: w43 :: w44 :: w45 :: w46 :: w47 :: w48 :: w49 :: w50 :: w51 :: w52 :: w53 :: w54 :: w55 :: w56 :: w57 :: w58 :: w59 :: w60 :: w61 :: w62 :: w63 :: w64 :: w65 :: w66 :: w67 :: w68 :: .int 0 :: w70 :: w71 :: w72 :: w73 :: w74 :: w75 :: w76 :: w77 :: w78 :: w79 :: w80 :: w81 :: w82 :: w83 :: w84 :: w85 :: w86 :: w87 :: w88 :: w89 :: w90 :: w91 :: w92 :: w93 :: []))] U.heap ∧ va_K (dC, dI) vwCl [] U ∧ va_D (fun _ => True) [(h0, .inr (12, w0 :: w1 :: w2 :: w3 :: w4 :: w5 :: w6 :: w7 :: w8 :: w9 :: w10 :: w11 :: w12 :: w13 :: w14 :: w15 :: w16 :: w17 :: w18 :: w19 :: w20 :: w21 :: w22 :: w23 :: w24 :: w25 :: w26 :: w27 :: w28 :: w29 :: w30 :: w31 :: w32 :: w33 :: w34 :: w35 :: w36 :: w37 :: w38 :: w39 :: w40 :: w41 :: w42 :: w43 :: w44 :: w45 :: w46 :: w47 :: w48 :: w49 :: w50 :: w51 :: w52 :: w53 :: w54 :: w55 :: w56 :: w57 :: w58 :: w59 :: w60 :: w61 :: w62 :: w63 :: w64 :: w65 :: w66 :: w67 :: w68 :: .int 0 :: w70 :: w71 :: w72 :: w73 :: w74 :: w75 :: w76 :: w77 :: w78 :: w79 :: w80 :: w81 :: w82 :: w83 :: w84 :: w85 :: w86 :: w87 :: w88 :: w89 :: w90 :: w91 :: w92 :: w93 :: []))])) (va_Qi (fun (r : Int32) (_ : Unit) => r = 0) (fun _ t => va_P (dC, dI) vwCl [] t.heap ∧ va_K (dC, dI) vwCl [] t ∧ va_D (va_A [(h0, .inr (12, w0 :: w1 :: w2 :: w3 :: w4 :: w5 :: w6 :: w7 :: w8 :: w9 :: w10 :: w11 :: w12 :: w13 :: w14 :: w15 :: w16 :: w17 :: w18 :: w19 :: w20 :: w21 :: w22 :: w23 :: w24 :: w25 :: w26 :: w27 :: w28 :: w29 :: w30 :: w31 :: w32 :: w33 :: w34 :: w35 :: w36 :: w37 :: w38 :: w39 :: w40 :: w41 :: w42 :: w43 :: w44 :: w45 :: w46 :: w47 :: w48 :: w49 :: w50 :: w51 :: w52 :: w53 :: w54 :: w55 :: w56 :: w57 :: w58 :: w59 :: w60 :: w61 :: w62 :: w63 :: w64 :: w65 :: w66 :: w67 :: w68 :: .int 0 :: w70 :: w71 :: w72 :: w73 :: w74 :: w75 :: w76 :: w77 :: w78 :: w79 :: w80 :: w81 :: w82 :: w83 :: w84 :: w85 :: w86 :: w87 :: w88 :: w89 :: w90 :: w91 :: w92 :: w93 :: []))] sz) []) (va_A [(h0, .inr (12, w0 :: w1 :: w2 :: w3 :: w4 :: w5 :: w6 :: w7 :: w8 :: w9 :: w10 :: w11 :: w12 :: w13 :: w14 :: w15 :: w16 :: w17 :: w18 :: w19 :: w20 :: w21 :: w22 :: w23 :: w24 :: w25 :: w26 :: w27 :: w28 :: w29 :: w30 :: w31 :: w32 :: w33 :: w34 :: w35 :: w36 :: w37 :: w38 :: w39 :: w40 :: w41 :: w42 :: w43 :: w44 :: w45 :: w46 :: w47 :: w48 :: w49 :: w50 :: w51 :: w52 :: w53 :: w54 :: w55 :: w56 :: w57 :: w58 :: w59 :: w60 :: w61 :: w62 :: w63 :: w64 :: w65 :: w66 :: w67 :: w68 :: .int 0 :: w70 :: w71 :: w72 :: w73 :: w74 :: w75 :: w76 :: w77 :: w78 :: w79 :: w80 :: w81 :: w82 :: w83 :: w84 :: w85 :: w86 :: w87 :: w88 :: w89 :: w90 :: w91 :: w92 :: w93 :: []))] sz)) (0) (0) (va_A [(h0, .inr (12, w0 :: w1 :: w2 :: w3 :: w4 :: w5 :: w6 :: w7 :: w8 :: w9 :: w10 :: w11 :: w12 :: w13 :: w14 :: w15 :: w16 :: w17 :: w18 :: w19 :: w20 :: w21 :: w22 :: w23 :: w24 :: w25 :: w26 :: w27 :: w28 :: w29 :: w30 :: w31 :: w32 :: w33 :: w34 :: w35 :: w36 :: w37 :: w38 :: w39 :: w40 :: w41 :: w42 :: w43 :: w44 :: w45 :: w46 :: w47 :: w48 :: w49 :: w50 :: w51 :: w52 :: w53 :: w54 :: w55 :: w56 :: w57 :: w58 :: w59 :: w60 :: w61 :: w62 :: w63 :: w64 :: w65 :: w66 :: w67 :: w68 :: .int 0 :: w70 :: w71 :: w72 :: w73 :: w74 :: w75 :: w76 :: w77 :: w78 :: w79 :: w80 :: w81 :: w82 :: w83 :: w84 :: w85 :: w86 :: w87 :: w88 :: w89 :: w90 :: w91 :: w92 :: w93 :: []))] sz) := by
  refine Met.ofW (cc := cX12_facts) (maxL := 1) (ret := (some .int)) (by decide) rfl ?_
  intro p e s m args below meth c s₁ B hml hv
  obtain ⟨rfl, hsz, hP, hK, hD0⟩ := hv
  have hx := B.exec
  have hb := B.bytes
  have hr := B.returns
  have hts := atoms_spec (ws := wc_X12_facts) B.pre
  have hown : s.vm.findClass RX12 = some m.cls := findClass_of_methodNamed B.named
  have hlocks := B.notSynchronized
  subst hsz
  have hD := hD0.self (sz := s.heap.size)
  generalize hAe : va_A [(h0, .inr (12, w0 :: w1 :: w2 :: w3 :: w4 :: w5 :: w6 :: w7 :: w8 :: w9 :: w10 :: w11 :: w12 :: w13 :: w14 :: w15 :: w16 :: w17 :: w18 :: w19 :: w20 :: w21 :: w22 :: w23 :: w24 :: w25 :: w26 :: w27 :: w28 :: w29 :: w30 :: w31 :: w32 :: w33 :: w34 :: w35 :: w36 :: w37 :: w38 :: w39 :: w40 :: w41 :: w42 :: w43 :: w44 :: w45 :: w46 :: w47 :: w48 :: w49 :: w50 :: w51 :: w52 :: w53 :: w54 :: w55 :: w56 :: w57 :: w58 :: w59 :: w60 :: w61 :: w62 :: w63 :: w64 :: w65 :: w66 :: w67 :: w68 :: .int 0 :: w70 :: w71 :: w72 :: w73 :: w74 :: w75 :: w76 :: w77 :: w78 :: w79 :: w80 :: w81 :: w82 :: w83 :: w84 :: w85 :: w86 :: w87 :: w88 :: w89 :: w90 :: w91 :: w92 :: w93 :: []))] s.heap.size = A at hD ⊢
  have hA : ∀ q : Nat, s.heap.size ≤ q → A q := fun q h => by rw [← hAe]; exact Or.inr h
  have hS : va_S A s.heap s.heap [] := va_S.rf
  have hl := lv_entry ([.ref h0]) (n := 1) (Nat.le_of_ble_eq_true rfl)
  rw [lg_entry_eq]
  generalize (lg_sl ([.ref h0]) ++ List.replicate (1 - (lg_sl ([.ref h0])).length) Slot.unset).toArray = ls at hl ⊢
  have hl : lv_has ls 1 [(0, .ref h0)] := hl
  refine lv_aload_n hx hb dX12_facts_0 rfl (lv_at hl 0 rfl) ?_
  refine va_get (D := (dC, dI)) (ci := 12) (v := .int 0) (C := RX12) (T := TX12) (N := 94) hx hb hts (by decide +kernel) hown hK hP 0 rfl rfl 69 (by decide) (hts (.fieldLink RX12 485 "ProofBenchModel" "facts" "I") (by decide +kernel)) (fun _ h9 => h9) rfl dX12_facts_1 ?_
  have hP9 := hP.sub (ws' := []) [] rfl
  have hD9 := hD.sub (ws' := []) [] (by decide) rfl
  have hK9 := hK.sub (tys' := []) [] rfl
  refine W.widen (k := 0) (n := 0) (by omega) (by omega) ?_
  exact W.iret (v := 0) hx hb hr (fun t ht hW => ⟨⟨0, (), rfl, rfl, by rw [ht]; exact hP9, va_K.moved hW.alike hK9, hD9⟩, hS.F ht⟩) hS.2.2 dX12_facts_4
def wc_X12_out : List Cond := .code yX12_out cX12_out 2 (some .int) :: ([Cond.fieldLink RX12 527 "ProofBenchModel" "outs" "I"] ++ wsX120 ++ va_wsS RX12 135 yX12_isIn wc_X12_isIn)
set_option maxRecDepth 20000 in
theorem gc_X12_out__X12_isIn : GoodIn wc_X12_out (va_wsS RX12 135 yX12_isIn wc_X12_isIn) := goodIn_of _ (by decide +kernel)
set_option maxHeartbeats 1000000 in
set_option maxRecDepth 100000 in
/-- out(i) -/
theorem m_out (l : Launch) (dC : Nat → ClassId) (dI : Nat → Nat → Nat) (sz : Nat) (h0 : Nat) (w0 w1 w2 w3 w4 w5 w6 w7 w8 w9 w10 w11 w12 w13 w14 w15 w16 w17 w18 w19 w20 w21 w22 w23 w24 w25 w26 w27 w28 w29 w30 w31 w32 w33 w34 w35 w36 w37 w38 w39 w40 w41 w42 w43 w44 w45 w46 w47 w48 w49 w50 w51 w52 w53 w54 w55 w56 w57 w58 w59 w60 w61 w62 w63 w64 w65 w66 w67 w68 w69 w70 w71 w72 w73 w74 w75 w76 w77 w78 w79 w80 w81 w82 w83 w84 w85 w86 w87 w89 w90 w91 w92 w93 : Value) (i : Int32) : Met l yX12_out wc_X12_out ({ frames := 1, cells := 0, slots := 0, locals := 25 }) (va_Pc [.ref h0, .int i] (fun U => U.heap.size = sz ∧ va_P (dC, dI) vwCl [(h0, .inr (12, w0 :: w1 :: w2 :: w3 :: w4 :: w5 :: w6 :: w7 :: w8 :: w9 :: w10 :: w11 :: w12 :: w13 :: w14 :: w15 :: w16 :: w17 :: w18 :: w19 :: w20 :: w21 :: w22 :: w23 :: w24 :: w25 :: w26 :: w27 :: w28 :: w29 :: w30 :: w31 :: w32 :: w33 :: w34 :: w35 :: w36 :: w37 :: w38 :: w39 :: w40 :: w41 :: w42 :: w43 :: w44 :: w45 :: w46 :: w47 :: w48 :: w49 :: w50 :: w51 :: w52 :: w53 :: w54 :: w55 :: w56 :: w57 :: w58 :: w59 :: w60 :: w61 :: w62 :: w63 :: w64 :: w65 :: w66 :: w67 :: w68 :: w69 :: w70 :: w71 :: w72 :: w73 :: w74 :: w75 :: w76 :: w77 :: w78 :: w79 :: w80 :: w81 :: w82 :: w83 :: w84 :: w85 :: w86 :: w87 :: .int 0 :: w89 :: w90 :: w91 :: w92 :: w93 :: []))] U.heap ∧ va_K (dC, dI) vwCl [] U ∧ va_D (fun _ => True) [(h0, .inr (12, w0 :: w1 :: w2 :: w3 :: w4 :: w5 :: w6 :: w7 :: w8 :: w9 :: w10 :: w11 :: w12 :: w13 :: w14 :: w15 :: w16 :: w17 :: w18 :: w19 :: w20 :: w21 :: w22 :: w23 :: w24 :: w25 :: w26 :: w27 :: w28 :: w29 :: w30 :: w31 :: w32 :: w33 :: w34 :: w35 :: w36 :: w37 :: w38 :: w39 :: w40 :: w41 :: w42 :: w43 :: w44 :: w45 :: w46 :: w47 :: w48 :: w49 :: w50 :: w51 :: w52 :: w53 :: w54 :: w55 :: w56 :: w57 :: w58 :: w59 :: w60 :: w61 :: w62 :: w63 :: w64 :: w65 :: w66 :: w67 :: w68 :: w69 :: w70 :: w71 :: w72 :: w73 :: w74 :: w75 :: w76 :: w77 :: w78 :: w79 :: w80 :: w81 :: w82 :: w83 :: w84 :: w85 :: w86 :: w87 :: .int 0 :: w89 :: w90 :: w91 :: w92 :: w93 :: []))])) (va_Qi (fun (r : Int32) (_ : Unit) => r = 0) (fun _ t => va_P (dC, dI) vwCl [] t.heap ∧ va_K (dC, dI) vwCl [] t ∧ va_D (va_A [(h0, .inr (12, w0 :: w1 :: w2 :: w3 :: w4 :: w5 :: w6 :: w7 :: w8 :: w9 :: w10 :: w11 :: w12 :: w13 :: w14 :: w15 :: w16 :: w17 :: w18 :: w19 :: w20 :: w21 :: w22 :: w23 :: w24 :: w25 :: w26 :: w27 :: w28 :: w29 :: w30 :: w31 :: w32 :: w33 :: w34 :: w35 :: w36 :: w37 :: w38 :: w39 :: w40 :: w41 :: w42 :: w43 :: w44 :: w45 :: w46 :: w47 :: w48 :: w49 :: w50 :: w51 :: w52 :: w53 :: w54 :: w55 :: w56 :: w57 :: w58 :: w59 :: w60 :: w61 :: w62 :: w63 :: w64 :: w65 :: w66 :: w67 :: w68 :: w69 :: w70 :: w71 :: w72 :: w73 :: w74 :: w75 :: w76 :: w77 :: w78 :: w79 :: w80 :: w81 :: w82 :: w83 :: w84 :: w85 :: w86 :: w87 :: .int 0 :: w89 :: w90 :: w91 :: w92 :: w93 :: []))] sz) []) (va_A [(h0, .inr (12, w0 :: w1 :: w2 :: w3 :: w4 :: w5 :: w6 :: w7 :: w8 :: w9 :: w10 :: w11 :: w12 :: w13 :: w14 :: w15 :: w16 :: w17 :: w18 :: w19 :: w20 :: w21 :: w22 :: w23 :: w24 :: w25 :: w26 :: w27 :: w28 :: w29 :: w30 :: w31 :: w32 :: w33 :: w34 :: w35 :: w36 :: w37 :: w38 :: w39 :: w40 :: w41 :: w42 :: w43 :: w44 :: w45 :: w46 :: w47 :: w48 :: w49 :: w50 :: w51 :: w52 :: w53 :: w54 :: w55 :: w56 :: w57 :: w58 :: w59 :: w60 :: w61 :: w62 :: w63 :: w64 :: w65 :: w66 :: w67 :: w68 :: w69 :: w70 :: w71 :: w72 :: w73 :: w74 :: w75 :: w76 :: w77 :: w78 :: w79 :: w80 :: w81 :: w82 :: w83 :: w84 :: w85 :: w86 :: w87 :: .int 0 :: w89 :: w90 :: w91 :: w92 :: w93 :: []))] sz)) (0) (0) (va_A [(h0, .inr (12, w0 :: w1 :: w2 :: w3 :: w4 :: w5 :: w6 :: w7 :: w8 :: w9 :: w10 :: w11 :: w12 :: w13 :: w14 :: w15 :: w16 :: w17 :: w18 :: w19 :: w20 :: w21 :: w22 :: w23 :: w24 :: w25 :: w26 :: w27 :: w28 :: w29 :: w30 :: w31 :: w32 :: w33 :: w34 :: w35 :: w36 :: w37 :: w38 :: w39 :: w40 :: w41 :: w42 :: w43 :: w44 :: w45 :: w46 :: w47 :: w48 :: w49 :: w50 :: w51 :: w52 :: w53 :: w54 :: w55 :: w56 :: w57 :: w58 :: w59 :: w60 :: w61 :: w62 :: w63 :: w64 :: w65 :: w66 :: w67 :: w68 :: w69 :: w70 :: w71 :: w72 :: w73 :: w74 :: w75 :: w76 :: w77 :: w78 :: w79 :: w80 :: w81 :: w82 :: w83 :: w84 :: w85 :: w86 :: w87 :: .int 0 :: w89 :: w90 :: w91 :: w92 :: w93 :: []))] sz) := by
  refine Met.ofW (cc := cX12_out) (maxL := 2) (ret := (some .int)) (by decide) rfl ?_
  intro p e s m args below meth c s₁ B hml hv
  obtain ⟨rfl, hsz, hP, hK, hD0⟩ := hv
  have hx := B.exec
  have hb := B.bytes
  have hr := B.returns
  have hts := atoms_spec (ws := wc_X12_out) B.pre
  have hown : s.vm.findClass RX12 = some m.cls := findClass_of_methodNamed B.named
  have hlocks := B.notSynchronized
  subst hsz
  have hD := hD0.self (sz := s.heap.size)
  generalize hAe : va_A [(h0, .inr (12, w0 :: w1 :: w2 :: w3 :: w4 :: w5 :: w6 :: w7 :: w8 :: w9 :: w10 :: w11 :: w12 :: w13 :: w14 :: w15 :: w16 :: w17 :: w18 :: w19 :: w20 :: w21 :: w22 :: w23 :: w24 :: w25 :: w26 :: w27 :: w28 :: w29 :: w30 :: w31 :: w32 :: w33 :: w34 :: w35 :: w36 :: w37 :: w38 :: w39 :: w40 :: w41 :: w42 :: w43 :: w44 :: w45 :: w46 :: w47 :: w48 :: w49 :: w50 :: w51 :: w52 :: w53 :: w54 :: w55 :: w56 :: w57 :: w58 :: w59 :: w60 :: w61 :: w62 :: w63 :: w64 :: w65 :: w66 :: w67 :: w68 :: w69 :: w70 :: w71 :: w72 :: w73 :: w74 :: w75 :: w76 :: w77 :: w78 :: w79 :: w80 :: w81 :: w82 :: w83 :: w84 :: w85 :: w86 :: w87 :: .int 0 :: w89 :: w90 :: w91 :: w92 :: w93 :: []))] s.heap.size = A at hD ⊢
  have hA : ∀ q : Nat, s.heap.size ≤ q → A q := fun q h => by rw [← hAe]; exact Or.inr h
  have hS : va_S A s.heap s.heap [] := va_S.rf
  have hl := lv_entry ([.ref h0, .int i]) (n := 2) (Nat.le_of_ble_eq_true rfl)
  rw [lg_entry_eq]
  generalize (lg_sl ([.ref h0, .int i]) ++ List.replicate (2 - (lg_sl ([.ref h0, .int i])).length) Slot.unset).toArray = ls at hl ⊢
  have hl : lv_has ls 2 [(0, .ref h0), (1, .int i)] := hl
  refine lv_iload_n hx hb dX12_out_0 rfl (lv_at hl 1 rfl) ?_
  refine lv_i2l hx hb dX12_out_1 rfl ?_
  refine lv_topl (fun y_1 ey_1 => ?_)
  refine lv_lconst (v := 0) hx hb dX12_out_2 (by decide) ?_
  refine lv_aload_n hx hb dX12_out_3 rfl (lv_at hl 0 rfl) ?_
  refine va_get (D := (dC, dI)) (ci := 12) (v := .int 0) (C := RX12) (T := TX12) (N := 94) hx hb hts (by decide +kernel) hown hK hP 0 rfl rfl 88 (by decide) (hts (.fieldLink RX12 527 "ProofBenchModel" "outs" "I") (by decide +kernel)) (fun _ h9 => h9) rfl dX12_out_4 ?_
  refine lv_iconst (v := 1) hx hb dX12_out_7 (by decide) ?_
  refine lv_isub hx hb dX12_out_8 ?_
  refine lv_topi (fun z_2 e9 => ?_)
  obtain rfl : z_2 = (-1) := by rw [e9]; decide
  refine lv_i2l hx hb dX12_out_9 rfl ?_
  refine lv_topl (fun y_3 ey_3 => ?_)
  have hPc := hP.sub (ws' := []) [] rfl
  have hDc := hD.sub (ws' := []) [] (by decide) rfl
  have hKc := hK.sub (tys' := []) [] rfl
  have hFc := va_free (wc := []) hD hS hA [] rfl
  refine va_calli (va_runS (As := [.long y_1, .long 0, .long y_3]) (rest := []) ⟨hx, hb, hml, hown, hts⟩ (c_isIn l dC dI s.heap.size y_1 0 y_3) (va_cwS 3 hts gc_X12_out__X12_isIn rfl rfl rfl (by decide +kernel) ⟨Nat.le_of_ble_eq_true rfl, Nat.le_of_ble_eq_true rfl⟩) ⟨fun a U g mk q => by obtain ⟨q0, q1, qP, qK, qD⟩ := q; exact ⟨q0, q1, qP, va_K.moved (u := U) (U := U.calling g mk a) (Vm.Alike.refl U.vm) qK, qD⟩, fun U hU hW => ⟨rfl, by rw [hU], by rw [hU]; exact hPc, va_K.moved hW.alike hKc, hDc.weaken (fun _ _ _ _ => trivial)⟩⟩ rfl rfl hl.1 rfl (lv_room (Nat.le_of_ble_eq_true rfl)) dX12_out_10 ⟨(show 0 + 0 ≤ 0 by omega), (show 0 + 0 ≤ 0 by omega)⟩) hS (fun q _ h => hFc q h) hFc (fun r0 u t H1 locs ht hvm hw hB hz1 hk1 hS => ?_)
  obtain ⟨hP1, hK1, hD1⟩ := hB
  rw [ht] at hP1
  have hK1 := va_K.moved hvm.symm hK1
  obtain ⟨hP, hD⟩ := va_join (wr := [(h0, .inr (12, w0 :: w1 :: w2 :: w3 :: w4 :: w5 :: w6 :: w7 :: w8 :: w9 :: w10 :: w11 :: w12 :: w13 :: w14 :: w15 :: w16 :: w17 :: w18 :: w19 :: w20 :: w21 :: w22 :: w23 :: w24 :: w25 :: w26 :: w27 :: w28 :: w29 :: w30 :: w31 :: w32 :: w33 :: w34 :: w35 :: w36 :: w37 :: w38 :: w39 :: w40 :: w41 :: w42 :: w43 :: w44 :: w45 :: w46 :: w47 :: w48 :: w49 :: w50 :: w51 :: w52 :: w53 :: w54 :: w55 :: w56 :: w57 :: w58 :: w59 :: w60 :: w61 :: w62 :: w63 :: w64 :: w65 :: w66 :: w67 :: w68 :: w69 :: w70 :: w71 :: w72 :: w73 :: w74 :: w75 :: w76 :: w77 :: w78 :: w79 :: w80 :: w81 :: w82 :: w83 :: w84 :: w85 :: w86 :: w87 :: .int 0 :: w89 :: w90 :: w91 :: w92 :: w93 :: []))]) (w1 := []) hP hD [] [0] rfl rfl (by decide) (by decide) hk1 hFc hP1 hD1
  have hK := (hK.sub (tys' := []) [] rfl).app hK1
  generalize H1 = H at hP hS ⊢
  have hP : va_P (dC, dI) vwCl [(h0, .inr (12, w0 :: w1 :: w2 :: w3 :: w4 :: w5 :: w6 :: w7 :: w8 :: w9 :: w10 :: w11 :: w12 :: w13 :: w14 :: w15 :: w16 :: w17 :: w18 :: w19 :: w20 :: w21 :: w22 :: w23 :: w24 :: w25 :: w26 :: w27 :: w28 :: w29 :: w30 :: w31 :: w32 :: w33 :: w34 :: w35 :: w36 :: w37 :: w38 :: w39 :: w40 :: w41 :: w42 :: w43 :: w44 :: w45 :: w46 :: w47 :: w48 :: w49 :: w50 :: w51 :: w52 :: w53 :: w54 :: w55 :: w56 :: w57 :: w58 :: w59 :: w60 :: w61 :: w62 :: w63 :: w64 :: w65 :: w66 :: w67 :: w68 :: w69 :: w70 :: w71 :: w72 :: w73 :: w74 :: w75 :: w76 :: w77 :: w78 :: w79 :: w80 :: w81 :: w82 :: w83 :: w84 :: w85 :: w86 :: w87 :: .int 0 :: w89 :: w90 :: w91 :: w92 :: w93 :: []))] H := hP
  have hD : va_D A [(h0, .inr (12, w0 :: w1 :: w2 :: w3 :: w4 :: w5 :: w6 :: w7 :: w8 :: w9 :: w10 :: w11 :: w12 :: w13 :: w14 :: w15 :: w16 :: w17 :: w18 :: w19 :: w20 :: w21 :: w22 :: w23 :: w24 :: w25 :: w26 :: w27 :: w28 :: w29 :: w30 :: w31 :: w32 :: w33 :: w34 :: w35 :: w36 :: w37 :: w38 :: w39 :: w40 :: w41 :: w42 :: w43 :: w44 :: w45 :: w46 :: w47 :: w48 :: w49 :: w50 :: w51 :: w52 :: w53 :: w54 :: w55 :: w56 :: w57 :: w58 :: w59 :: w60 :: w61 :: w62 :: w63 :: w64 :: w65 :: w66 :: w67 :: w68 :: w69 :: w70 :: w71 :: w72 :: w73 :: w74 :: w75 :: w76 :: w77 :: w78 :: w79 :: w80 :: w81 :: w82 :: w83 :: w84 :: w85 :: w86 :: w87 :: .int 0 :: w89 :: w90 :: w91 :: w92 :: w93 :: []))] := hD
  have hK : va_K (dC, dI) vwCl [] s := hK
  refine W.widen (k := 0) (n := 0) (by omega) (by omega) ?_
  obtain rfl : r0 = 0 := by rw [hw, ey_3, if_neg (rf_neg _)]
  refine lv_if_eq (tgt := 25) hx hb dX12_out_13 (by decide) (fun _ => ?_) (fun c9 => absurd c9 (by decide))
  refine lv_iconst (v := 0) hx hb dX12_out_25 (by decide) ?_
  have hP9 := hP.sub (ws' := []) [] rfl
  have hD9 := hD.sub (ws' := []) [] (by decide) rfl
  have hK9 := hK.sub (tys' := []) [] rfl
  refine W.widen (k := 0) (n := 0) (by omega) (by omega) ?_
  exact W.iret (v := 0) hx hb hr (fun t ht hW => ⟨⟨0, (), rfl, rfl, by rw [ht]; exact hP9, va_K.moved hW.alike hK9, hD9⟩, hS.F ht⟩) hS.2.2 dX12_out_26
def wc_X12_hypotheses : List Cond := .code yX12_hypotheses cX12_hypotheses 2 (some .int) :: ([Cond.fieldLink RX12 357 "ProofBenchModel" "steps" "I"] ++ wsX120 ++ va_wsS RX12 135 yX12_isIn wc_X12_isIn)
set_option maxRecDepth 20000 in
theorem gc_X12_hypotheses__X12_isIn : GoodIn wc_X12_hypotheses (va_wsS RX12 135 yX12_isIn wc_X12_isIn) := goodIn_of _ (by decide +kernel)
set_option maxHeartbeats 1000000 in
set_option maxRecDepth 100000 in
/-- hypotheses(p) -/
theorem m_hypotheses (l : Launch) (dC : Nat → ClassId) (dI : Nat → Nat → Nat) (sz : Nat) (h0 : Nat) (w0 w1 w2 w3 w4 w5 w6 w7 w8 w9 w10 w11 w12 w13 w14 w15 w16 w17 w18 w19 w20 w21 w22 w23 w24 w25 w26 w27 w28 w29 w30 w31 w32 w33 w34 w35 w36 w37 w38 w39 w40 w41 w42 w43 w44 w45 w46 w47 w48 w49 w50 w51 w52 w53 w54 w55 w56 w57 w58 w59 w60 w61 w62 w64 w65 w66 w67 w68 w69 w70 w71 w72 w73 w74 w75 w76 w77 w78 w79 w80 w81 w82 w83 w84 w85 w86 w87 w88 w89 w90 w91 w92 w93 : Value) (i : Int32) : Met l yX12_hypotheses wc_X12_hypotheses ({ frames := 1, cells := 0, slots := 0, locals := 25 }) (va_Pc [.ref h0, .int i] (fun U => U.heap.size = sz ∧ va_P (dC, dI) vwCl [(h0, .inr (12, w0 :: w1 :: w2 :: w3 :: w4 :: w5 :: w6 :: w7 :: w8 :: w9 :: w10 :: w11 :: w12 :: w13 :: w14 :: w15 :: w16 :: w17 :: w18 :: w19 :: w20 :: w21 :: w22 :: w23 :: w24 :: w25 :: w26 :: w27 :: w28 :: w29 :: w30 :: w31 :: w32 :: w33 :: w34 :: w35 :: w36 :: w37 :: w38 :: w39 :: w40 :: w41 :: w42 :: w43 :: w44 :: w45 :: w46 :: w47 :: w48 :: w49 :: w50 :: w51 :: w52 :: w53 :: w54 :: w55 :: w56 :: w57 :: w58 :: w59 :: w60 :: w61 :: w62 :: .int 0 :: w64 :: w65 :: w66 :: w67 :: w68 :: w69 :: w70 :: w71 :: w72 :: w73 :: w74 :: w75 :: w76 :: w77 :: w78 :: w79 :: w80 :: w81 :: w82 :: w83 :: w84 :: w85 :: w86 :: w87 :: w88 :: w89 :: w90 :: w91 :: w92 :: w93 :: []))] U.heap ∧ va_K (dC, dI) vwCl [] U ∧ va_D (fun _ => True) [(h0, .inr (12, w0 :: w1 :: w2 :: w3 :: w4 :: w5 :: w6 :: w7 :: w8 :: w9 :: w10 :: w11 :: w12 :: w13 :: w14 :: w15 :: w16 :: w17 :: w18 :: w19 :: w20 :: w21 :: w22 :: w23 :: w24 :: w25 :: w26 :: w27 :: w28 :: w29 :: w30 :: w31 :: w32 :: w33 :: w34 :: w35 :: w36 :: w37 :: w38 :: w39 :: w40 :: w41 :: w42 :: w43 :: w44 :: w45 :: w46 :: w47 :: w48 :: w49 :: w50 :: w51 :: w52 :: w53 :: w54 :: w55 :: w56 :: w57 :: w58 :: w59 :: w60 :: w61 :: w62 :: .int 0 :: w64 :: w65 :: w66 :: w67 :: w68 :: w69 :: w70 :: w71 :: w72 :: w73 :: w74 :: w75 :: w76 :: w77 :: w78 :: w79 :: w80 :: w81 :: w82 :: w83 :: w84 :: w85 :: w86 :: w87 :: w88 :: w89 :: w90 :: w91 :: w92 :: w93 :: []))])) (va_Qi (fun (r : Int32) (_ : Unit) => r = (-1)) (fun _ t => va_P (dC, dI) vwCl [] t.heap ∧ va_K (dC, dI) vwCl [] t ∧ va_D (va_A [(h0, .inr (12, w0 :: w1 :: w2 :: w3 :: w4 :: w5 :: w6 :: w7 :: w8 :: w9 :: w10 :: w11 :: w12 :: w13 :: w14 :: w15 :: w16 :: w17 :: w18 :: w19 :: w20 :: w21 :: w22 :: w23 :: w24 :: w25 :: w26 :: w27 :: w28 :: w29 :: w30 :: w31 :: w32 :: w33 :: w34 :: w35 :: w36 :: w37 :: w38 :: w39 :: w40 :: w41 :: w42 :: w43 :: w44 :: w45 :: w46 :: w47 :: w48 :: w49 :: w50 :: w51 :: w52 :: w53 :: w54 :: w55 :: w56 :: w57 :: w58 :: w59 :: w60 :: w61 :: w62 :: .int 0 :: w64 :: w65 :: w66 :: w67 :: w68 :: w69 :: w70 :: w71 :: w72 :: w73 :: w74 :: w75 :: w76 :: w77 :: w78 :: w79 :: w80 :: w81 :: w82 :: w83 :: w84 :: w85 :: w86 :: w87 :: w88 :: w89 :: w90 :: w91 :: w92 :: w93 :: []))] sz) []) (va_A [(h0, .inr (12, w0 :: w1 :: w2 :: w3 :: w4 :: w5 :: w6 :: w7 :: w8 :: w9 :: w10 :: w11 :: w12 :: w13 :: w14 :: w15 :: w16 :: w17 :: w18 :: w19 :: w20 :: w21 :: w22 :: w23 :: w24 :: w25 :: w26 :: w27 :: w28 :: w29 :: w30 :: w31 :: w32 :: w33 :: w34 :: w35 :: w36 :: w37 :: w38 :: w39 :: w40 :: w41 :: w42 :: w43 :: w44 :: w45 :: w46 :: w47 :: w48 :: w49 :: w50 :: w51 :: w52 :: w53 :: w54 :: w55 :: w56 :: w57 :: w58 :: w59 :: w60 :: w61 :: w62 :: .int 0 :: w64 :: w65 :: w66 :: w67 :: w68 :: w69 :: w70 :: w71 :: w72 :: w73 :: w74 :: w75 :: w76 :: w77 :: w78 :: w79 :: w80 :: w81 :: w82 :: w83 :: w84 :: w85 :: w86 :: w87 :: w88 :: w89 :: w90 :: w91 :: w92 :: w93 :: []))] sz)) (0) (0) (va_A [(h0, .inr (12, w0 :: w1 :: w2 :: w3 :: w4 :: w5 :: w6 :: w7 :: w8 :: w9 :: w10 :: w11 :: w12 :: w13 :: w14 :: w15 :: w16 :: w17 :: w18 :: w19 :: w20 :: w21 :: w22 :: w23 :: w24 :: w25 :: w26 :: w27 :: w28 :: w29 :: w30 :: w31 :: w32 :: w33 :: w34 :: w35 :: w36 :: w37 :: w38 :: w39 :: w40 :: w41 :: w42 :: w43 :: w44 :: w45 :: w46 :: w47 :: w48 :: w49 :: w50 :: w51 :: w52 :: w53 :: w54 :: w55 :: w56 :: w57 :: w58 :: w59 :: w60 :: w61 :: w62 :: .int 0 :: w64 :: w65 :: w66 :: w67 :: w68 :: w69 :: w70 :: w71 :: w72 :: w73 :: w74 :: w75 :: w76 :: w77 :: w78 :: w79 :: w80 :: w81 :: w82 :: w83 :: w84 :: w85 :: w86 :: w87 :: w88 :: w89 :: w90 :: w91 :: w92 :: w93 :: []))] sz) := by
  refine Met.ofW (cc := cX12_hypotheses) (maxL := 2) (ret := (some .int)) (by decide) rfl ?_
  intro p e s m args below meth c s₁ B hml hv
  obtain ⟨rfl, hsz, hP, hK, hD0⟩ := hv
  have hx := B.exec
  have hb := B.bytes
  have hr := B.returns
  have hts := atoms_spec (ws := wc_X12_hypotheses) B.pre
  have hown : s.vm.findClass RX12 = some m.cls := findClass_of_methodNamed B.named
  have hlocks := B.notSynchronized
  subst hsz
  have hD := hD0.self (sz := s.heap.size)
  generalize hAe : va_A [(h0, .inr (12, w0 :: w1 :: w2 :: w3 :: w4 :: w5 :: w6 :: w7 :: w8 :: w9 :: w10 :: w11 :: w12 :: w13 :: w14 :: w15 :: w16 :: w17 :: w18 :: w19 :: w20 :: w21 :: w22 :: w23 :: w24 :: w25 :: w26 :: w27 :: w28 :: w29 :: w30 :: w31 :: w32 :: w33 :: w34 :: w35 :: w36 :: w37 :: w38 :: w39 :: w40 :: w41 :: w42 :: w43 :: w44 :: w45 :: w46 :: w47 :: w48 :: w49 :: w50 :: w51 :: w52 :: w53 :: w54 :: w55 :: w56 :: w57 :: w58 :: w59 :: w60 :: w61 :: w62 :: .int 0 :: w64 :: w65 :: w66 :: w67 :: w68 :: w69 :: w70 :: w71 :: w72 :: w73 :: w74 :: w75 :: w76 :: w77 :: w78 :: w79 :: w80 :: w81 :: w82 :: w83 :: w84 :: w85 :: w86 :: w87 :: w88 :: w89 :: w90 :: w91 :: w92 :: w93 :: []))] s.heap.size = A at hD ⊢
  have hA : ∀ q : Nat, s.heap.size ≤ q → A q := fun q h => by rw [← hAe]; exact Or.inr h
  have hS : va_S A s.heap s.heap [] := va_S.rf
  have hl := lv_entry ([.ref h0, .int i]) (n := 2) (Nat.le_of_ble_eq_true rfl)
  rw [lg_entry_eq]
  generalize (lg_sl ([.ref h0, .int i]) ++ List.replicate (2 - (lg_sl ([.ref h0, .int i])).length) Slot.unset).toArray = ls at hl ⊢
  have hl : lv_has ls 2 [(0, .ref h0), (1, .int i)] := hl
  refine lv_iload_n hx hb dX12_hypotheses_0 rfl (lv_at hl 1 rfl) ?_
  refine lv_i2l hx hb dX12_hypotheses_1 rfl ?_
  refine lv_topl (fun y_1 ey_1 => ?_)
  refine lv_lconst (v := 0) hx hb dX12_hypotheses_2 (by decide) ?_
  refine lv_aload_n hx hb dX12_hypotheses_3 rfl (lv_at hl 0 rfl) ?_
  refine va_get (D := (dC, dI)) (ci := 12) (v := .int 0) (C := RX12) (T := TX12) (N := 94) hx hb hts (by decide +kernel) hown hK hP 0 rfl rfl 63 (by decide) (hts (.fieldLink RX12 357 "ProofBenchModel" "steps" "I") (by decide +kernel)) (fun _ h9 => h9) rfl dX12_hypotheses_4 ?_
  refine lv_iconst (v := 1) hx hb dX12_hypotheses_7 (by decide) ?_
  refine lv_isub hx hb dX12_hypotheses_8 ?_
  refine lv_topi (fun z_2 e9 => ?_)
  obtain rfl : z_2 = (-1) := by rw [e9]; decide
  refine lv_i2l hx hb dX12_hypotheses_9 rfl ?_
  refine lv_topl (fun y_3 ey_3 => ?_)
  have hPc := hP.sub (ws' := []) [] rfl
  have hDc := hD.sub (ws' := []) [] (by decide) rfl
  have hKc := hK.sub (tys' := []) [] rfl
  have hFc := va_free (wc := []) hD hS hA [] rfl
  refine va_calli (va_runS (As := [.long y_1, .long 0, .long y_3]) (rest := []) ⟨hx, hb, hml, hown, hts⟩ (c_isIn l dC dI s.heap.size y_1 0 y_3) (va_cwS 3 hts gc_X12_hypotheses__X12_isIn rfl rfl rfl (by decide +kernel) ⟨Nat.le_of_ble_eq_true rfl, Nat.le_of_ble_eq_true rfl⟩) ⟨fun a U g mk q => by obtain ⟨q0, q1, qP, qK, qD⟩ := q; exact ⟨q0, q1, qP, va_K.moved (u := U) (U := U.calling g mk a) (Vm.Alike.refl U.vm) qK, qD⟩, fun U hU hW => ⟨rfl, by rw [hU], by rw [hU]; exact hPc, va_K.moved hW.alike hKc, hDc.weaken (fun _ _ _ _ => trivial)⟩⟩ rfl rfl hl.1 rfl (lv_room (Nat.le_of_ble_eq_true rfl)) dX12_hypotheses_10 ⟨(show 0 + 0 ≤ 0 by omega), (show 0 + 0 ≤ 0 by omega)⟩) hS (fun q _ h => hFc q h) hFc (fun r0 u t H1 locs ht hvm hw hB hz1 hk1 hS => ?_)
  obtain ⟨hP1, hK1, hD1⟩ := hB
  rw [ht] at hP1
  have hK1 := va_K.moved hvm.symm hK1
  obtain ⟨hP, hD⟩ := va_join (wr := [(h0, .inr (12, w0 :: w1 :: w2 :: w3 :: w4 :: w5 :: w6 :: w7 :: w8 :: w9 :: w10 :: w11 :: w12 :: w13 :: w14 :: w15 :: w16 :: w17 :: w18 :: w19 :: w20 :: w21 :: w22 :: w23 :: w24 :: w25 :: w26 :: w27 :: w28 :: w29 :: w30 :: w31 :: w32 :: w33 :: w34 :: w35 :: w36 :: w37 :: w38 :: w39 :: w40 :: w41 :: w42 :: w43 :: w44 :: w45 :: w46 :: w47 :: w48 :: w49 :: w50 :: w51 :: w52 :: w53 :: w54 :: w55 :: w56 :: w57 :: w58 :: w59 :: w60 :: w61 :: w62 :: .int 0 :: w64 :: w65 :: w66 :: w67 :: w68 :: w69 :: w70 :: w71 :: w72 :: w73 :: w74 :: w75 :: w76 :: w77 :: w78 :: w79 :: w80 :: w81 :: w82 :: w83 :: w84 :: w85 :: w86 :: w87 :: w88 :: w89 :: w90 :: w91 :: w92 :: w93 :: []))]) (w1 := []) hP hD [] [0] rfl rfl (by decide) (by decide) hk1 hFc hP1 hD1
  have hK := (hK.sub (tys' := []) [] rfl).app hK1
  generalize H1 = H at hP hS ⊢
  have hP : va_P (dC, dI) vwCl [(h0, .inr (12, w0 :: w1 :: w2 :: w3 :: w4 :: w5 :: w6 :: w7 :: w8 :: w9 :: w10 :: w11 :: w12 :: w13 :: w14 :: w15 :: w16 :: w17 :: w18 :: w19 :: w20 :: w21 :: w22 :: w23 :: w24 :: w25 :: w26 :: w27 :: w28 :: w29 :: w30 :: w31 :: w32 :: w33 :: w34 :: w35 :: w36 :: w37 :: w38 :: w39 :: w40 :: w41 :: w42 :: w43 :: w44 :: w45 :: w46 :: w47 :: w48 :: w49 :: w50 :: w51 :: w52 :: w53 :: w54 :: w55 :: w56 :: w57 :: w58 :: w59 :: w60 :: w61 :: w62 :: .int 0 :: w64 :: w65 :: w66 :: w67 :: w68 :: w69 :: w70 :: w71 :: w72 :: w73 :: w74 :: w75 :: w76 :: w77 :: w78 :: w79 :: w80 :: w81 :: w82 :: w83 :: w84 :: w85 :: w86 :: w87 :: w88 :: w89 :: w90 :: w91 :: w92 :: w93 :: []))] H := hP
  have hD : va_D A [(h0, .inr (12, w0 :: w1 :: w2 :: w3 :: w4 :: w5 :: w6 :: w7 :: w8 :: w9 :: w10 :: w11 :: w12 :: w13 :: w14 :: w15 :: w16 :: w17 :: w18 :: w19 :: w20 :: w21 :: w22 :: w23 :: w24 :: w25 :: w26 :: w27 :: w28 :: w29 :: w30 :: w31 :: w32 :: w33 :: w34 :: w35 :: w36 :: w37 :: w38 :: w39 :: w40 :: w41 :: w42 :: w43 :: w44 :: w45 :: w46 :: w47 :: w48 :: w49 :: w50 :: w51 :: w52 :: w53 :: w54 :: w55 :: w56 :: w57 :: w58 :: w59 :: w60 :: w61 :: w62 :: .int 0 :: w64 :: w65 :: w66 :: w67 :: w68 :: w69 :: w70 :: w71 :: w72 :: w73 :: w74 :: w75 :: w76 :: w77 :: w78 :: w79 :: w80 :: w81 :: w82 :: w83 :: w84 :: w85 :: w86 :: w87 :: w88 :: w89 :: w90 :: w91 :: w92 :: w93 :: []))] := hD
  have hK : va_K (dC, dI) vwCl [] s := hK
  refine W.widen (k := 0) (n := 0) (by omega) (by omega) ?_
  obtain rfl : r0 = 0 := by rw [hw, ey_3, if_neg (rf_neg _)]
  refine lv_if_eq (tgt := 25) hx hb dX12_hypotheses_13 (by decide) (fun _ => ?_) (fun c9 => absurd c9 (by decide))
  refine lv_iconst (v := -1) hx hb dX12_hypotheses_25 (by decide) ?_
  have hP9 := hP.sub (ws' := []) [] rfl
  have hD9 := hD.sub (ws' := []) [] (by decide) rfl
  have hK9 := hK.sub (tys' := []) [] rfl
  refine W.widen (k := 0) (n := 0) (by omega) (by omega) ?_
  exact W.iret (v := (-1)) hx hb hr (fun t ht hW => ⟨⟨(-1), (), rfl, rfl, by rw [ht]; exact hP9, va_K.moved hW.alike hK9, hD9⟩, hS.F ht⟩) hS.2.2 dX12_hypotheses_26
def wc_X12_leans : List Cond := .code yX12_leans cX12_leans 3 (some .int) :: ([Cond.fieldLink RX12 485 "ProofBenchModel" "facts" "I"] ++ wsX120 ++ va_wsS RX12 135 yX12_isIn wc_X12_isIn)
set_option maxRecDepth 20000 in
theorem gc_X12_leans__X12_isIn : GoodIn wc_X12_leans (va_wsS RX12 135 yX12_isIn wc_X12_isIn) := goodIn_of _ (by decide +kernel)
set_option maxHeartbeats 1000000 in
set_option maxRecDepth 100000 in
/-- leans(i, j) -/
theorem m_leans (l : Launch) (dC : Nat → ClassId) (dI : Nat → Nat → Nat) (sz : Nat) (h0 : Nat) (w0 w1 w2 w3 w4 w5 w6 w7 w8 w9 w10 w11 w12 w13 w14 w15 w16 w17 w18 w19 w20 w21 w22 w23 w24 w25 w26 w27 w28 w29 w30 w31 w32 w33 w34 w35 w36 w37 w38 w39 w40 w41 w42 w43 w44 w45 w46 w47 w48 w49 w50 w51 w52 w53 w54 w55 w56 w57 w58 w59 w60 w61 w62 w63 w64 w65 w66 w67 w68 w70 w71 w72 w73 w74 w75 w76 w77 w78 w79 w80 w81 w82 w83 w84 w85 w86 w87 w88 w89 w90 w91 w92 w93 : Value) (i j : Int32) : Met l yX12_leans wc_X12_leans ({ frames := 1, cells := 0, slots := 0, locals := 25 }) (va_Pc [.ref h0, .int i, .int j] (fun U => U.heap.size = sz ∧ va_P (dC, dI) vwCl [(h0, .inr (12, w0 :: w1 :: w2 :: w3 :: w4 :: w5 :: w6 :: w7 :: w8 :: w9 :: w10 :: w11 :: w12 :: w13 :: w14 :: w15 :: w16 :: w17 :: w18 :: w19 :: w20 :: w21 :: w22 :: w23 :: w24 :: w25 :: w26 :: w27 :: w28 :: w29 :: w30 :: w31 :: w32 :: w33 :: w34 :: w35 :: w36 :: w37 :: w38 :: w39 :: w40 :: w41 :: w42 :: w43 :: w44 :: w45 :: w46 :: w47 :: w48 :: w49 :: w50 :: w51 :: w52 :: w53 :: w54 :: w55 :: w56 :: w57 :: w58 :: w59 :: w60 :: w61 :: w62 :: w63 :: w64 :: w65 :: w66 :: w67 :: w68 :: .int 0 :: w70 :: w71 :: w72 :: w73 :: w74 :: w75 :: w76 :: w77 :: w78 :: w79 :: w80 :: w81 :: w82 :: w83 :: w84 :: w85 :: w86 :: w87 :: w88 :: w89 :: w90 :: w91 :: w92 :: w93 :: []))] U.heap ∧ va_K (dC, dI) vwCl [] U ∧ va_D (fun _ => True) [(h0, .inr (12, w0 :: w1 :: w2 :: w3 :: w4 :: w5 :: w6 :: w7 :: w8 :: w9 :: w10 :: w11 :: w12 :: w13 :: w14 :: w15 :: w16 :: w17 :: w18 :: w19 :: w20 :: w21 :: w22 :: w23 :: w24 :: w25 :: w26 :: w27 :: w28 :: w29 :: w30 :: w31 :: w32 :: w33 :: w34 :: w35 :: w36 :: w37 :: w38 :: w39 :: w40 :: w41 :: w42 :: w43 :: w44 :: w45 :: w46 :: w47 :: w48 :: w49 :: w50 :: w51 :: w52 :: w53 :: w54 :: w55 :: w56 :: w57 :: w58 :: w59 :: w60 :: w61 :: w62 :: w63 :: w64 :: w65 :: w66 :: w67 :: w68 :: .int 0 :: w70 :: w71 :: w72 :: w73 :: w74 :: w75 :: w76 :: w77 :: w78 :: w79 :: w80 :: w81 :: w82 :: w83 :: w84 :: w85 :: w86 :: w87 :: w88 :: w89 :: w90 :: w91 :: w92 :: w93 :: []))])) (va_Qi (fun (r : Int32) (_ : Unit) => r = (-1)) (fun _ t => va_P (dC, dI) vwCl [] t.heap ∧ va_K (dC, dI) vwCl [] t ∧ va_D (va_A [(h0, .inr (12, w0 :: w1 :: w2 :: w3 :: w4 :: w5 :: w6 :: w7 :: w8 :: w9 :: w10 :: w11 :: w12 :: w13 :: w14 :: w15 :: w16 :: w17 :: w18 :: w19 :: w20 :: w21 :: w22 :: w23 :: w24 :: w25 :: w26 :: w27 :: w28 :: w29 :: w30 :: w31 :: w32 :: w33 :: w34 :: w35 :: w36 :: w37 :: w38 :: w39 :: w40 :: w41 :: w42 :: w43 :: w44 :: w45 :: w46 :: w47 :: w48 :: w49 :: w50 :: w51 :: w52 :: w53 :: w54 :: w55 :: w56 :: w57 :: w58 :: w59 :: w60 :: w61 :: w62 :: w63 :: w64 :: w65 :: w66 :: w67 :: w68 :: .int 0 :: w70 :: w71 :: w72 :: w73 :: w74 :: w75 :: w76 :: w77 :: w78 :: w79 :: w80 :: w81 :: w82 :: w83 :: w84 :: w85 :: w86 :: w87 :: w88 :: w89 :: w90 :: w91 :: w92 :: w93 :: []))] sz) []) (va_A [(h0, .inr (12, w0 :: w1 :: w2 :: w3 :: w4 :: w5 :: w6 :: w7 :: w8 :: w9 :: w10 :: w11 :: w12 :: w13 :: w14 :: w15 :: w16 :: w17 :: w18 :: w19 :: w20 :: w21 :: w22 :: w23 :: w24 :: w25 :: w26 :: w27 :: w28 :: w29 :: w30 :: w31 :: w32 :: w33 :: w34 :: w35 :: w36 :: w37 :: w38 :: w39 :: w40 :: w41 :: w42 :: w43 :: w44 :: w45 :: w46 :: w47 :: w48 :: w49 :: w50 :: w51 :: w52 :: w53 :: w54 :: w55 :: w56 :: w57 :: w58 :: w59 :: w60 :: w61 :: w62 :: w63 :: w64 :: w65 :: w66 :: w67 :: w68 :: .int 0 :: w70 :: w71 :: w72 :: w73 :: w74 :: w75 :: w76 :: w77 :: w78 :: w79 :: w80 :: w81 :: w82 :: w83 :: w84 :: w85 :: w86 :: w87 :: w88 :: w89 :: w90 :: w91 :: w92 :: w93 :: []))] sz)) (0) (0) (va_A [(h0, .inr (12, w0 :: w1 :: w2 :: w3 :: w4 :: w5 :: w6 :: w7 :: w8 :: w9 :: w10 :: w11 :: w12 :: w13 :: w14 :: w15 :: w16 :: w17 :: w18 :: w19 :: w20 :: w21 :: w22 :: w23 :: w24 :: w25 :: w26 :: w27 :: w28 :: w29 :: w30 :: w31 :: w32 :: w33 :: w34 :: w35 :: w36 :: w37 :: w38 :: w39 :: w40 :: w41 :: w42 :: w43 :: w44 :: w45 :: w46 :: w47 :: w48 :: w49 :: w50 :: w51 :: w52 :: w53 :: w54 :: w55 :: w56 :: w57 :: w58 :: w59 :: w60 :: w61 :: w62 :: w63 :: w64 :: w65 :: w66 :: w67 :: w68 :: .int 0 :: w70 :: w71 :: w72 :: w73 :: w74 :: w75 :: w76 :: w77 :: w78 :: w79 :: w80 :: w81 :: w82 :: w83 :: w84 :: w85 :: w86 :: w87 :: w88 :: w89 :: w90 :: w91 :: w92 :: w93 :: []))] sz) := by
  refine Met.ofW (cc := cX12_leans) (maxL := 3) (ret := (some .int)) (by decide) rfl ?_
  intro p e s m args below meth c s₁ B hml hv
  obtain ⟨rfl, hsz, hP, hK, hD0⟩ := hv
  have hx := B.exec
  have hb := B.bytes
  have hr := B.returns
  have hts := atoms_spec (ws := wc_X12_leans) B.pre
  have hown : s.vm.findClass RX12 = some m.cls := findClass_of_methodNamed B.named
  have hlocks := B.notSynchronized
  subst hsz
  have hD := hD0.self (sz := s.heap.size)
  generalize hAe : va_A [(h0, .inr (12, w0 :: w1 :: w2 :: w3 :: w4 :: w5 :: w6 :: w7 :: w8 :: w9 :: w10 :: w11 :: w12 :: w13 :: w14 :: w15 :: w16 :: w17 :: w18 :: w19 :: w20 :: w21 :: w22 :: w23 :: w24 :: w25 :: w26 :: w27 :: w28 :: w29 :: w30 :: w31 :: w32 :: w33 :: w34 :: w35 :: w36 :: w37 :: w38 :: w39 :: w40 :: w41 :: w42 :: w43 :: w44 :: w45 :: w46 :: w47 :: w48 :: w49 :: w50 :: w51 :: w52 :: w53 :: w54 :: w55 :: w56 :: w57 :: w58 :: w59 :: w60 :: w61 :: w62 :: w63 :: w64 :: w65 :: w66 :: w67 :: w68 :: .int 0 :: w70 :: w71 :: w72 :: w73 :: w74 :: w75 :: w76 :: w77 :: w78 :: w79 :: w80 :: w81 :: w82 :: w83 :: w84 :: w85 :: w86 :: w87 :: w88 :: w89 :: w90 :: w91 :: w92 :: w93 :: []))] s.heap.size = A at hD ⊢
  have hA : ∀ q : Nat, s.heap.size ≤ q → A q := fun q h => by rw [← hAe]; exact Or.inr h
  have hS : va_S A s.heap s.heap [] := va_S.rf
  have hl := lv_entry ([.ref h0, .int i, .int j]) (n := 3) (Nat.le_of_ble_eq_true rfl)
  rw [lg_entry_eq]
  generalize (lg_sl ([.ref h0, .int i, .int j]) ++ List.replicate (3 - (lg_sl ([.ref h0, .int i, .int j])).length) Slot.unset).toArray = ls at hl ⊢
  have hl : lv_has ls 3 [(0, .ref h0), (1, .int i), (2, .int j)] := hl
  refine lv_iload_n hx hb dX12_leans_0 rfl (lv_at hl 1 rfl) ?_
  refine lv_i2l hx hb dX12_leans_1 rfl ?_
  refine lv_topl (fun y_1 ey_1 => ?_)
  refine lv_lconst (v := 0) hx hb dX12_leans_2 (by decide) ?_
  refine lv_aload_n hx hb dX12_leans_3 rfl (lv_at hl 0 rfl) ?_
  refine va_get (D := (dC, dI)) (ci := 12) (v := .int 0) (C := RX12) (T := TX12) (N := 94) hx hb hts (by decide +kernel) hown hK hP 0 rfl rfl 69 (by decide) (hts (.fieldLink RX12 485 "ProofBenchModel" "facts" "I") (by decide +kernel)) (fun _ h9 => h9) rfl dX12_leans_4 ?_
  refine lv_iconst (v := 1) hx hb dX12_leans_7 (by decide) ?_
  refine lv_isub hx hb dX12_leans_8 ?_
  refine lv_topi (fun z_2 e9 => ?_)
  obtain rfl : z_2 = (-1) := by rw [e9]; decide
  refine lv_i2l hx hb dX12_leans_9 rfl ?_
  refine lv_topl (fun y_3 ey_3 => ?_)
  have hPc := hP.sub (ws' := []) [] rfl
  have hDc := hD.sub (ws' := []) [] (by decide) rfl
  have hKc := hK.sub (tys' := []) [] rfl
  have hFc := va_free (wc := []) hD hS hA [] rfl
  refine va_calli (va_runS (As := [.long y_1, .long 0, .long y_3]) (rest := []) ⟨hx, hb, hml, hown, hts⟩ (c_isIn l dC dI s.heap.size y_1 0 y_3) (va_cwS 3 hts gc_X12_leans__X12_isIn rfl rfl rfl (by decide +kernel) ⟨Nat.le_of_ble_eq_true rfl, Nat.le_of_ble_eq_true rfl⟩) ⟨fun a U g mk q => by obtain ⟨q0, q1, qP, qK, qD⟩ := q; exact ⟨q0, q1, qP, va_K.moved (u := U) (U := U.calling g mk a) (Vm.Alike.refl U.vm) qK, qD⟩, fun U hU hW => ⟨rfl, by rw [hU], by rw [hU]; exact hPc, va_K.moved hW.alike hKc, hDc.weaken (fun _ _ _ _ => trivial)⟩⟩ rfl rfl hl.1 rfl (lv_room (Nat.le_of_ble_eq_true rfl)) dX12_leans_10 ⟨(show 0 + 0 ≤ 0 by omega), (show 0 + 0 ≤ 0 by omega)⟩) hS (fun q _ h => hFc q h) hFc (fun r0 u t H1 locs ht hvm hw hB hz1 hk1 hS => ?_)
  obtain ⟨hP1, hK1, hD1⟩ := hB
  rw [ht] at hP1
  have hK1 := va_K.moved hvm.symm hK1
  obtain ⟨hP, hD⟩ := va_join (wr := [(h0, .inr (12, w0 :: w1 :: w2 :: w3 :: w4 :: w5 :: w6 :: w7 :: w8 :: w9 :: w10 :: w11 :: w12 :: w13 :: w14 :: w15 :: w16 :: w17 :: w18 :: w19 :: w20 :: w21 :: w22 :: w23 :: w24 :: w25 :: w26 :: w27 :: w28 :: w29 :: w30 :: w31 :: w32 :: w33 :: w34 :: w35 :: w36 :: w37 :: w38 :: w39 :: w40 :: w41 :: w42 :: w43 :: w44 :: w45 :: w46 :: w47 :: w48 :: w49 :: w50 :: w51 :: w52 :: w53 :: w54 :: w55 :: w56 :: w57 :: w58 :: w59 :: w60 :: w61 :: w62 :: w63 :: w64 :: w65 :: w66 :: w67 :: w68 :: .int 0 :: w70 :: w71 :: w72 :: w73 :: w74 :: w75 :: w76 :: w77 :: w78 :: w79 :: w80 :: w81 :: w82 :: w83 :: w84 :: w85 :: w86 :: w87 :: w88 :: w89 :: w90 :: w91 :: w92 :: w93 :: []))]) (w1 := []) hP hD [] [0] rfl rfl (by decide) (by decide) hk1 hFc hP1 hD1
  have hK := (hK.sub (tys' := []) [] rfl).app hK1
  generalize H1 = H at hP hS ⊢
  have hP : va_P (dC, dI) vwCl [(h0, .inr (12, w0 :: w1 :: w2 :: w3 :: w4 :: w5 :: w6 :: w7 :: w8 :: w9 :: w10 :: w11 :: w12 :: w13 :: w14 :: w15 :: w16 :: w17 :: w18 :: w19 :: w20 :: w21 :: w22 :: w23 :: w24 :: w25 :: w26 :: w27 :: w28 :: w29 :: w30 :: w31 :: w32 :: w33 :: w34 :: w35 :: w36 :: w37 :: w38 :: w39 :: w40 :: w41 :: w42 :: w43 :: w44 :: w45 :: w46 :: w47 :: w48 :: w49 :: w50 :: w51 :: w52 :: w53 :: w54 :: w55 :: w56 :: w57 :: w58 :: w59 :: w60 :: w61 :: w62 :: w63 :: w64 :: w65 :: w66 :: w67 :: w68 :: .int 0 :: w70 :: w71 :: w72 :: w73 :: w74 :: w75 :: w76 :: w77 :: w78 :: w79 :: w80 :: w81 :: w82 :: w83 :: w84 :: w85 :: w86 :: w87 :: w88 :: w89 :: w90 :: w91 :: w92 :: w93 :: []))] H := hP
  have hD : va_D A [(h0, .inr (12, w0 :: w1 :: w2 :: w3 :: w4 :: w5 :: w6 :: w7 :: w8 :: w9 :: w10 :: w11 :: w12 :: w13 :: w14 :: w15 :: w16 :: w17 :: w18 :: w19 :: w20 :: w21 :: w22 :: w23 :: w24 :: w25 :: w26 :: w27 :: w28 :: w29 :: w30 :: w31 :: w32 :: w33 :: w34 :: w35 :: w36 :: w37 :: w38 :: w39 :: w40 :: w41 :: w42 :: w43 :: w44 :: w45 :: w46 :: w47 :: w48 :: w49 :: w50 :: w51 :: w52 :: w53 :: w54 :: w55 :: w56 :: w57 :: w58 :: w59 :: w60 :: w61 :: w62 :: w63 :: w64 :: w65 :: w66 :: w67 :: w68 :: .int 0 :: w70 :: w71 :: w72 :: w73 :: w74 :: w75 :: w76 :: w77 :: w78 :: w79 :: w80 :: w81 :: w82 :: w83 :: w84 :: w85 :: w86 :: w87 :: w88 :: w89 :: w90 :: w91 :: w92 :: w93 :: []))] := hD
  have hK : va_K (dC, dI) vwCl [] s := hK
  refine W.widen (k := 0) (n := 0) (by omega) (by omega) ?_
  obtain rfl : r0 = 0 := by rw [hw, ey_3, if_neg (rf_neg _)]
  refine lv_if_eq (tgt := 32) hx hb dX12_leans_13 (by decide) (fun _ => ?_) (fun c9 => absurd c9 (by decide))
  refine lv_iconst (v := -1) hx hb dX12_leans_32 (by decide) ?_
  refine lv_goto (tgt := 47) hx hb dX12_leans_33 (by decide) ?_
  have hP9 := hP.sub (ws' := []) [] rfl
  have hD9 := hD.sub (ws' := []) [] (by decide) rfl
  have hK9 := hK.sub (tys' := []) [] rfl
  refine W.widen (k := 0) (n := 0) (by omega) (by omega) ?_
  exact W.iret (v := (-1)) hx hb hr (fun t ht hW => ⟨⟨(-1), (), rfl, rfl, by rw [ht]; exact hP9, va_K.moved hW.alike hK9, hD9⟩, hS.F ht⟩) hS.2.2 dX12_leans_47
def wc_X12_inductive : List Cond := .code yX12_inductive cX12_inductive 2 (some .int) :: ([Cond.fieldLink RX12 485 "ProofBenchModel" "facts" "I"] ++ wsX120 ++ va_wsS RX12 135 yX12_isIn wc_X12_isIn)
set_option maxRecDepth 20000 in
theorem gc_X12_inductive__X12_isIn : GoodIn wc_X12_inductive (va_wsS RX12 135 yX12_isIn wc_X12_isIn) := goodIn_of _ (by decide +kernel)
set_option maxHeartbeats 1000000 in
set_option maxRecDepth 100000 in
/-- inductive(i) -/
theorem m_inductive (l : Launch) (dC : Nat → ClassId) (dI : Nat → Nat → Nat) (sz : Nat) (h0 : Nat) (w0 w1 w2 w3 w4 w5 w6 w7 w8 w9 w10 w11 w12 w13 w14 w15 w16 w17 w18 w19 w20 w21 w22 w23 w24 w25 w26 w27 w28 w29 w30 w31 w32 w33 w34 w35 w36 w37 w38 w39 w40 w41 w42 w43 w44 w45 w46 w47 w48 w49 w50 w51 w52 w53 w54 w55 w56 w57 w58 w59 w60 w61 w62 w63 w64 w65 w66 w67 w68 w70 w71 w72 w73 w74 w75 w76 w77 w78 w79 w80 w81 w82 w83 w84 w85 w86 w87 w88 w89 w90 w91 w92 w93 : Value) (i : Int32) : Met l yX12_inductive wc_X12_inductive ({ frames := 1, cells := 0, slots := 0, locals := 25 }) (va_Pc [.ref h0, .int i] (fun U => U.heap.size = sz ∧ va_P (dC, dI) vwCl [(h0, .inr (12, w0 :: w1 :: w2 :: w3 :: w4 :: w5 :: w6 :: w7 :: w8 :: w9 :: w10 :: w11 :: w12 :: w13 :: w14 :: w15 :: w16 :: w17 :: w18 :: w19 :: w20 :: w21 :: w22 :: w23 :: w24 :: w25 :: w26 :: w27 :: w28 :: w29 :: w30 :: w31 :: w32 :: w33 :: w34 :: w35 :: w36 :: w37 :: w38 :: w39 :: w40 :: w41 :: w42 :: w43 :: w44 :: w45 :: w46 :: w47 :: w48 :: w49 :: w50 :: w51 :: w52 :: w53 :: w54 :: w55 :: w56 :: w57 :: w58 :: w59 :: w60 :: w61 :: w62 :: w63 :: w64 :: w65 :: w66 :: w67 :: w68 :: .int 0 :: w70 :: w71 :: w72 :: w73 :: w74 :: w75 :: w76 :: w77 :: w78 :: w79 :: w80 :: w81 :: w82 :: w83 :: w84 :: w85 :: w86 :: w87 :: w88 :: w89 :: w90 :: w91 :: w92 :: w93 :: []))] U.heap ∧ va_K (dC, dI) vwCl [] U ∧ va_D (fun _ => True) [(h0, .inr (12, w0 :: w1 :: w2 :: w3 :: w4 :: w5 :: w6 :: w7 :: w8 :: w9 :: w10 :: w11 :: w12 :: w13 :: w14 :: w15 :: w16 :: w17 :: w18 :: w19 :: w20 :: w21 :: w22 :: w23 :: w24 :: w25 :: w26 :: w27 :: w28 :: w29 :: w30 :: w31 :: w32 :: w33 :: w34 :: w35 :: w36 :: w37 :: w38 :: w39 :: w40 :: w41 :: w42 :: w43 :: w44 :: w45 :: w46 :: w47 :: w48 :: w49 :: w50 :: w51 :: w52 :: w53 :: w54 :: w55 :: w56 :: w57 :: w58 :: w59 :: w60 :: w61 :: w62 :: w63 :: w64 :: w65 :: w66 :: w67 :: w68 :: .int 0 :: w70 :: w71 :: w72 :: w73 :: w74 :: w75 :: w76 :: w77 :: w78 :: w79 :: w80 :: w81 :: w82 :: w83 :: w84 :: w85 :: w86 :: w87 :: w88 :: w89 :: w90 :: w91 :: w92 :: w93 :: []))])) (va_Qi (fun (r : Int32) (_ : Unit) => r = (-1)) (fun _ t => va_P (dC, dI) vwCl [] t.heap ∧ va_K (dC, dI) vwCl [] t ∧ va_D (va_A [(h0, .inr (12, w0 :: w1 :: w2 :: w3 :: w4 :: w5 :: w6 :: w7 :: w8 :: w9 :: w10 :: w11 :: w12 :: w13 :: w14 :: w15 :: w16 :: w17 :: w18 :: w19 :: w20 :: w21 :: w22 :: w23 :: w24 :: w25 :: w26 :: w27 :: w28 :: w29 :: w30 :: w31 :: w32 :: w33 :: w34 :: w35 :: w36 :: w37 :: w38 :: w39 :: w40 :: w41 :: w42 :: w43 :: w44 :: w45 :: w46 :: w47 :: w48 :: w49 :: w50 :: w51 :: w52 :: w53 :: w54 :: w55 :: w56 :: w57 :: w58 :: w59 :: w60 :: w61 :: w62 :: w63 :: w64 :: w65 :: w66 :: w67 :: w68 :: .int 0 :: w70 :: w71 :: w72 :: w73 :: w74 :: w75 :: w76 :: w77 :: w78 :: w79 :: w80 :: w81 :: w82 :: w83 :: w84 :: w85 :: w86 :: w87 :: w88 :: w89 :: w90 :: w91 :: w92 :: w93 :: []))] sz) []) (va_A [(h0, .inr (12, w0 :: w1 :: w2 :: w3 :: w4 :: w5 :: w6 :: w7 :: w8 :: w9 :: w10 :: w11 :: w12 :: w13 :: w14 :: w15 :: w16 :: w17 :: w18 :: w19 :: w20 :: w21 :: w22 :: w23 :: w24 :: w25 :: w26 :: w27 :: w28 :: w29 :: w30 :: w31 :: w32 :: w33 :: w34 :: w35 :: w36 :: w37 :: w38 :: w39 :: w40 :: w41 :: w42 :: w43 :: w44 :: w45 :: w46 :: w47 :: w48 :: w49 :: w50 :: w51 :: w52 :: w53 :: w54 :: w55 :: w56 :: w57 :: w58 :: w59 :: w60 :: w61 :: w62 :: w63 :: w64 :: w65 :: w66 :: w67 :: w68 :: .int 0 :: w70 :: w71 :: w72 :: w73 :: w74 :: w75 :: w76 :: w77 :: w78 :: w79 :: w80 :: w81 :: w82 :: w83 :: w84 :: w85 :: w86 :: w87 :: w88 :: w89 :: w90 :: w91 :: w92 :: w93 :: []))] sz)) (0) (0) (va_A [(h0, .inr (12, w0 :: w1 :: w2 :: w3 :: w4 :: w5 :: w6 :: w7 :: w8 :: w9 :: w10 :: w11 :: w12 :: w13 :: w14 :: w15 :: w16 :: w17 :: w18 :: w19 :: w20 :: w21 :: w22 :: w23 :: w24 :: w25 :: w26 :: w27 :: w28 :: w29 :: w30 :: w31 :: w32 :: w33 :: w34 :: w35 :: w36 :: w37 :: w38 :: w39 :: w40 :: w41 :: w42 :: w43 :: w44 :: w45 :: w46 :: w47 :: w48 :: w49 :: w50 :: w51 :: w52 :: w53 :: w54 :: w55 :: w56 :: w57 :: w58 :: w59 :: w60 :: w61 :: w62 :: w63 :: w64 :: w65 :: w66 :: w67 :: w68 :: .int 0 :: w70 :: w71 :: w72 :: w73 :: w74 :: w75 :: w76 :: w77 :: w78 :: w79 :: w80 :: w81 :: w82 :: w83 :: w84 :: w85 :: w86 :: w87 :: w88 :: w89 :: w90 :: w91 :: w92 :: w93 :: []))] sz) := by
  refine Met.ofW (cc := cX12_inductive) (maxL := 2) (ret := (some .int)) (by decide) rfl ?_
  intro p e s m args below meth c s₁ B hml hv
  obtain ⟨rfl, hsz, hP, hK, hD0⟩ := hv
  have hx := B.exec
  have hb := B.bytes
  have hr := B.returns
  have hts := atoms_spec (ws := wc_X12_inductive) B.pre
  have hown : s.vm.findClass RX12 = some m.cls := findClass_of_methodNamed B.named
  have hlocks := B.notSynchronized
  subst hsz
  have hD := hD0.self (sz := s.heap.size)
  generalize hAe : va_A [(h0, .inr (12, w0 :: w1 :: w2 :: w3 :: w4 :: w5 :: w6 :: w7 :: w8 :: w9 :: w10 :: w11 :: w12 :: w13 :: w14 :: w15 :: w16 :: w17 :: w18 :: w19 :: w20 :: w21 :: w22 :: w23 :: w24 :: w25 :: w26 :: w27 :: w28 :: w29 :: w30 :: w31 :: w32 :: w33 :: w34 :: w35 :: w36 :: w37 :: w38 :: w39 :: w40 :: w41 :: w42 :: w43 :: w44 :: w45 :: w46 :: w47 :: w48 :: w49 :: w50 :: w51 :: w52 :: w53 :: w54 :: w55 :: w56 :: w57 :: w58 :: w59 :: w60 :: w61 :: w62 :: w63 :: w64 :: w65 :: w66 :: w67 :: w68 :: .int 0 :: w70 :: w71 :: w72 :: w73 :: w74 :: w75 :: w76 :: w77 :: w78 :: w79 :: w80 :: w81 :: w82 :: w83 :: w84 :: w85 :: w86 :: w87 :: w88 :: w89 :: w90 :: w91 :: w92 :: w93 :: []))] s.heap.size = A at hD ⊢
  have hA : ∀ q : Nat, s.heap.size ≤ q → A q := fun q h => by rw [← hAe]; exact Or.inr h
  have hS : va_S A s.heap s.heap [] := va_S.rf
  have hl := lv_entry ([.ref h0, .int i]) (n := 2) (Nat.le_of_ble_eq_true rfl)
  rw [lg_entry_eq]
  generalize (lg_sl ([.ref h0, .int i]) ++ List.replicate (2 - (lg_sl ([.ref h0, .int i])).length) Slot.unset).toArray = ls at hl ⊢
  have hl : lv_has ls 2 [(0, .ref h0), (1, .int i)] := hl
  refine lv_iload_n hx hb dX12_inductive_0 rfl (lv_at hl 1 rfl) ?_
  refine lv_i2l hx hb dX12_inductive_1 rfl ?_
  refine lv_topl (fun y_1 ey_1 => ?_)
  refine lv_lconst (v := 0) hx hb dX12_inductive_2 (by decide) ?_
  refine lv_aload_n hx hb dX12_inductive_3 rfl (lv_at hl 0 rfl) ?_
  refine va_get (D := (dC, dI)) (ci := 12) (v := .int 0) (C := RX12) (T := TX12) (N := 94) hx hb hts (by decide +kernel) hown hK hP 0 rfl rfl 69 (by decide) (hts (.fieldLink RX12 485 "ProofBenchModel" "facts" "I") (by decide +kernel)) (fun _ h9 => h9) rfl dX12_inductive_4 ?_
  refine lv_iconst (v := 1) hx hb dX12_inductive_7 (by decide) ?_
  refine lv_isub hx hb dX12_inductive_8 ?_
  refine lv_topi (fun z_2 e9 => ?_)
  obtain rfl : z_2 = (-1) := by rw [e9]; decide
  refine lv_i2l hx hb dX12_inductive_9 rfl ?_
  refine lv_topl (fun y_3 ey_3 => ?_)
  have hPc := hP.sub (ws' := []) [] rfl
  have hDc := hD.sub (ws' := []) [] (by decide) rfl
  have hKc := hK.sub (tys' := []) [] rfl
  have hFc := va_free (wc := []) hD hS hA [] rfl
  refine va_calli (va_runS (As := [.long y_1, .long 0, .long y_3]) (rest := []) ⟨hx, hb, hml, hown, hts⟩ (c_isIn l dC dI s.heap.size y_1 0 y_3) (va_cwS 3 hts gc_X12_inductive__X12_isIn rfl rfl rfl (by decide +kernel) ⟨Nat.le_of_ble_eq_true rfl, Nat.le_of_ble_eq_true rfl⟩) ⟨fun a U g mk q => by obtain ⟨q0, q1, qP, qK, qD⟩ := q; exact ⟨q0, q1, qP, va_K.moved (u := U) (U := U.calling g mk a) (Vm.Alike.refl U.vm) qK, qD⟩, fun U hU hW => ⟨rfl, by rw [hU], by rw [hU]; exact hPc, va_K.moved hW.alike hKc, hDc.weaken (fun _ _ _ _ => trivial)⟩⟩ rfl rfl hl.1 rfl (lv_room (Nat.le_of_ble_eq_true rfl)) dX12_inductive_10 ⟨(show 0 + 0 ≤ 0 by omega), (show 0 + 0 ≤ 0 by omega)⟩) hS (fun q _ h => hFc q h) hFc (fun r0 u t H1 locs ht hvm hw hB hz1 hk1 hS => ?_)
  obtain ⟨hP1, hK1, hD1⟩ := hB
  rw [ht] at hP1
  have hK1 := va_K.moved hvm.symm hK1
  obtain ⟨hP, hD⟩ := va_join (wr := [(h0, .inr (12, w0 :: w1 :: w2 :: w3 :: w4 :: w5 :: w6 :: w7 :: w8 :: w9 :: w10 :: w11 :: w12 :: w13 :: w14 :: w15 :: w16 :: w17 :: w18 :: w19 :: w20 :: w21 :: w22 :: w23 :: w24 :: w25 :: w26 :: w27 :: w28 :: w29 :: w30 :: w31 :: w32 :: w33 :: w34 :: w35 :: w36 :: w37 :: w38 :: w39 :: w40 :: w41 :: w42 :: w43 :: w44 :: w45 :: w46 :: w47 :: w48 :: w49 :: w50 :: w51 :: w52 :: w53 :: w54 :: w55 :: w56 :: w57 :: w58 :: w59 :: w60 :: w61 :: w62 :: w63 :: w64 :: w65 :: w66 :: w67 :: w68 :: .int 0 :: w70 :: w71 :: w72 :: w73 :: w74 :: w75 :: w76 :: w77 :: w78 :: w79 :: w80 :: w81 :: w82 :: w83 :: w84 :: w85 :: w86 :: w87 :: w88 :: w89 :: w90 :: w91 :: w92 :: w93 :: []))]) (w1 := []) hP hD [] [0] rfl rfl (by decide) (by decide) hk1 hFc hP1 hD1
  have hK := (hK.sub (tys' := []) [] rfl).app hK1
  generalize H1 = H at hP hS ⊢
  have hP : va_P (dC, dI) vwCl [(h0, .inr (12, w0 :: w1 :: w2 :: w3 :: w4 :: w5 :: w6 :: w7 :: w8 :: w9 :: w10 :: w11 :: w12 :: w13 :: w14 :: w15 :: w16 :: w17 :: w18 :: w19 :: w20 :: w21 :: w22 :: w23 :: w24 :: w25 :: w26 :: w27 :: w28 :: w29 :: w30 :: w31 :: w32 :: w33 :: w34 :: w35 :: w36 :: w37 :: w38 :: w39 :: w40 :: w41 :: w42 :: w43 :: w44 :: w45 :: w46 :: w47 :: w48 :: w49 :: w50 :: w51 :: w52 :: w53 :: w54 :: w55 :: w56 :: w57 :: w58 :: w59 :: w60 :: w61 :: w62 :: w63 :: w64 :: w65 :: w66 :: w67 :: w68 :: .int 0 :: w70 :: w71 :: w72 :: w73 :: w74 :: w75 :: w76 :: w77 :: w78 :: w79 :: w80 :: w81 :: w82 :: w83 :: w84 :: w85 :: w86 :: w87 :: w88 :: w89 :: w90 :: w91 :: w92 :: w93 :: []))] H := hP
  have hD : va_D A [(h0, .inr (12, w0 :: w1 :: w2 :: w3 :: w4 :: w5 :: w6 :: w7 :: w8 :: w9 :: w10 :: w11 :: w12 :: w13 :: w14 :: w15 :: w16 :: w17 :: w18 :: w19 :: w20 :: w21 :: w22 :: w23 :: w24 :: w25 :: w26 :: w27 :: w28 :: w29 :: w30 :: w31 :: w32 :: w33 :: w34 :: w35 :: w36 :: w37 :: w38 :: w39 :: w40 :: w41 :: w42 :: w43 :: w44 :: w45 :: w46 :: w47 :: w48 :: w49 :: w50 :: w51 :: w52 :: w53 :: w54 :: w55 :: w56 :: w57 :: w58 :: w59 :: w60 :: w61 :: w62 :: w63 :: w64 :: w65 :: w66 :: w67 :: w68 :: .int 0 :: w70 :: w71 :: w72 :: w73 :: w74 :: w75 :: w76 :: w77 :: w78 :: w79 :: w80 :: w81 :: w82 :: w83 :: w84 :: w85 :: w86 :: w87 :: w88 :: w89 :: w90 :: w91 :: w92 :: w93 :: []))] := hD
  have hK : va_K (dC, dI) vwCl [] s := hK
  refine W.widen (k := 0) (n := 0) (by omega) (by omega) ?_
  obtain rfl : r0 = 0 := by rw [hw, ey_3, if_neg (rf_neg _)]
  refine lv_if_ne (tgt := 20) hx hb dX12_inductive_13 (by decide) (fun c9 => absurd c9 (by decide)) (fun _ => ?_)
  refine lv_iconst (v := -1) hx hb dX12_inductive_16 (by decide) ?_
  refine lv_goto (tgt := 34) hx hb dX12_inductive_17 (by decide) ?_
  have hP9 := hP.sub (ws' := []) [] rfl
  have hD9 := hD.sub (ws' := []) [] (by decide) rfl
  have hK9 := hK.sub (tys' := []) [] rfl
  refine W.widen (k := 0) (n := 0) (by omega) (by omega) ?_
  exact W.iret (v := (-1)) hx hb hr (fun t ht hW => ⟨⟨(-1), (), rfl, rfl, by rw [ht]; exact hP9, va_K.moved hW.alike hK9, hD9⟩, hS.F ht⟩) hS.2.2 dX12_inductive_34
def wc_X12_refusals : List Cond := .code yX12_refusals cX12_refusals 2 (some .int) :: ([Cond.constantLong RX12 635 (15), Cond.fieldLink RX12 607 "ProofBenchModel" "refused" "[I"] ++ wsX120 ++ va_wsS RX12 135 yX12_isIn wc_X12_isIn)
set_option maxRecDepth 20000 in
theorem gc_X12_refusals__X12_isIn : GoodIn wc_X12_refusals (va_wsS RX12 135 yX12_isIn wc_X12_isIn) := goodIn_of _ (by decide +kernel)
set_option maxHeartbeats 1000000 in
set_option maxRecDepth 100000 in
/-- refusals(k) -/
theorem m_refusals (l : Launch) (dC : Nat → ClassId) (dI : Nat → Nat → Nat) (sz : Nat) (h0 a93 : Nat) (cR : ClassId) (w0 w1 w2 w3 w4 w5 w6 w7 w8 w9 w10 w11 w12 w13 w14 w15 w16 w17 w18 w19 w20 w21 w22 w23 w24 w25 w26 w27 w28 w29 w30 w31 w32 w33 w34 w35 w36 w37 w38 w39 w40 w41 w42 w43 w44 w45 w46 w47 w48 w49 w50 w51 w52 w53 w54 w55 w56 w57 w58 w59 w60 w61 w62 w63 w64 w65 w66 w67 w68 w69 w70 w71 w72 w73 w74 w75 w76 w77 w78 w79 w80 w81 w82 w83 w84 w85 w86 w87 w88 w89 w90 w91 w92 : Value) (i : Int32) : Met l yX12_refusals wc_X12_refusals ({ frames := 1, cells := 0, slots := 0, locals := 25 }) (va_Pc [.ref h0, .int i] (fun U => U.heap.size = sz ∧ va_P (dC, dI) vwCl [(h0, .inr (12, w0 :: w1 :: w2 :: w3 :: w4 :: w5 :: w6 :: w7 :: w8 :: w9 :: w10 :: w11 :: w12 :: w13 :: w14 :: w15 :: w16 :: w17 :: w18 :: w19 :: w20 :: w21 :: w22 :: w23 :: w24 :: w25 :: w26 :: w27 :: w28 :: w29 :: w30 :: w31 :: w32 :: w33 :: w34 :: w35 :: w36 :: w37 :: w38 :: w39 :: w40 :: w41 :: w42 :: w43 :: w44 :: w45 :: w46 :: w47 :: w48 :: w49 :: w50 :: w51 :: w52 :: w53 :: w54 :: w55 :: w56 :: w57 :: w58 :: w59 :: w60 :: w61 :: w62 :: w63 :: w64 :: w65 :: w66 :: w67 :: w68 :: w69 :: w70 :: w71 :: w72 :: w73 :: w74 :: w75 :: w76 :: w77 :: w78 :: w79 :: w80 :: w81 :: w82 :: w83 :: w84 :: w85 :: w86 :: w87 :: w88 :: w89 :: w90 :: w91 :: w92 :: .ref a93 :: [])), (a93, .inl (cR, 16, .inl (fun _ => 0)))] U.heap ∧ va_K (dC, dI) vwCl [(cR, .int)] U ∧ va_D (fun _ => True) [(h0, .inr (12, w0 :: w1 :: w2 :: w3 :: w4 :: w5 :: w6 :: w7 :: w8 :: w9 :: w10 :: w11 :: w12 :: w13 :: w14 :: w15 :: w16 :: w17 :: w18 :: w19 :: w20 :: w21 :: w22 :: w23 :: w24 :: w25 :: w26 :: w27 :: w28 :: w29 :: w30 :: w31 :: w32 :: w33 :: w34 :: w35 :: w36 :: w37 :: w38 :: w39 :: w40 :: w41 :: w42 :: w43 :: w44 :: w45 :: w46 :: w47 :: w48 :: w49 :: w50 :: w51 :: w52 :: w53 :: w54 :: w55 :: w56 :: w57 :: w58 :: w59 :: w60 :: w61 :: w62 :: w63 :: w64 :: w65 :: w66 :: w67 :: w68 :: w69 :: w70 :: w71 :: w72 :: w73 :: w74 :: w75 :: w76 :: w77 :: w78 :: w79 :: w80 :: w81 :: w82 :: w83 :: w84 :: w85 :: w86 :: w87 :: w88 :: w89 :: w90 :: w91 :: w92 :: .ref a93 :: [])), (a93, .inl (cR, 16, .inl (fun _ => 0)))])) (va_Qi (fun (r : Int32) (_ : Unit) => r = 0) (fun _ t => va_P (dC, dI) vwCl [] t.heap ∧ va_K (dC, dI) vwCl [] t ∧ va_D (va_A [(h0, .inr (12, w0 :: w1 :: w2 :: w3 :: w4 :: w5 :: w6 :: w7 :: w8 :: w9 :: w10 :: w11 :: w12 :: w13 :: w14 :: w15 :: w16 :: w17 :: w18 :: w19 :: w20 :: w21 :: w22 :: w23 :: w24 :: w25 :: w26 :: w27 :: w28 :: w29 :: w30 :: w31 :: w32 :: w33 :: w34 :: w35 :: w36 :: w37 :: w38 :: w39 :: w40 :: w41 :: w42 :: w43 :: w44 :: w45 :: w46 :: w47 :: w48 :: w49 :: w50 :: w51 :: w52 :: w53 :: w54 :: w55 :: w56 :: w57 :: w58 :: w59 :: w60 :: w61 :: w62 :: w63 :: w64 :: w65 :: w66 :: w67 :: w68 :: w69 :: w70 :: w71 :: w72 :: w73 :: w74 :: w75 :: w76 :: w77 :: w78 :: w79 :: w80 :: w81 :: w82 :: w83 :: w84 :: w85 :: w86 :: w87 :: w88 :: w89 :: w90 :: w91 :: w92 :: .ref a93 :: [])), (a93, .inl (cR, 16, .inl (fun _ => 0)))] sz) []) (va_A [(h0, .inr (12, w0 :: w1 :: w2 :: w3 :: w4 :: w5 :: w6 :: w7 :: w8 :: w9 :: w10 :: w11 :: w12 :: w13 :: w14 :: w15 :: w16 :: w17 :: w18 :: w19 :: w20 :: w21 :: w22 :: w23 :: w24 :: w25 :: w26 :: w27 :: w28 :: w29 :: w30 :: w31 :: w32 :: w33 :: w34 :: w35 :: w36 :: w37 :: w38 :: w39 :: w40 :: w41 :: w42 :: w43 :: w44 :: w45 :: w46 :: w47 :: w48 :: w49 :: w50 :: w51 :: w52 :: w53 :: w54 :: w55 :: w56 :: w57 :: w58 :: w59 :: w60 :: w61 :: w62 :: w63 :: w64 :: w65 :: w66 :: w67 :: w68 :: w69 :: w70 :: w71 :: w72 :: w73 :: w74 :: w75 :: w76 :: w77 :: w78 :: w79 :: w80 :: w81 :: w82 :: w83 :: w84 :: w85 :: w86 :: w87 :: w88 :: w89 :: w90 :: w91 :: w92 :: .ref a93 :: [])), (a93, .inl (cR, 16, .inl (fun _ => 0)))] sz)) (0) (0) (va_A [(h0, .inr (12, w0 :: w1 :: w2 :: w3 :: w4 :: w5 :: w6 :: w7 :: w8 :: w9 :: w10 :: w11 :: w12 :: w13 :: w14 :: w15 :: w16 :: w17 :: w18 :: w19 :: w20 :: w21 :: w22 :: w23 :: w24 :: w25 :: w26 :: w27 :: w28 :: w29 :: w30 :: w31 :: w32 :: w33 :: w34 :: w35 :: w36 :: w37 :: w38 :: w39 :: w40 :: w41 :: w42 :: w43 :: w44 :: w45 :: w46 :: w47 :: w48 :: w49 :: w50 :: w51 :: w52 :: w53 :: w54 :: w55 :: w56 :: w57 :: w58 :: w59 :: w60 :: w61 :: w62 :: w63 :: w64 :: w65 :: w66 :: w67 :: w68 :: w69 :: w70 :: w71 :: w72 :: w73 :: w74 :: w75 :: w76 :: w77 :: w78 :: w79 :: w80 :: w81 :: w82 :: w83 :: w84 :: w85 :: w86 :: w87 :: w88 :: w89 :: w90 :: w91 :: w92 :: .ref a93 :: [])), (a93, .inl (cR, 16, .inl (fun _ => 0)))] sz) := by
  refine Met.ofW (cc := cX12_refusals) (maxL := 2) (ret := (some .int)) (by decide) rfl ?_
  intro p e s m args below meth c s₁ B hml hv
  obtain ⟨rfl, hsz, hP, hK, hD0⟩ := hv
  have hx := B.exec
  have hb := B.bytes
  have hr := B.returns
  have hts := atoms_spec (ws := wc_X12_refusals) B.pre
  have hown : s.vm.findClass RX12 = some m.cls := findClass_of_methodNamed B.named
  have hlocks := B.notSynchronized
  subst hsz
  have hD := hD0.self (sz := s.heap.size)
  generalize hAe : va_A [(h0, .inr (12, w0 :: w1 :: w2 :: w3 :: w4 :: w5 :: w6 :: w7 :: w8 :: w9 :: w10 :: w11 :: w12 :: w13 :: w14 :: w15 :: w16 :: w17 :: w18 :: w19 :: w20 :: w21 :: w22 :: w23 :: w24 :: w25 :: w26 :: w27 :: w28 :: w29 :: w30 :: w31 :: w32 :: w33 :: w34 :: w35 :: w36 :: w37 :: w38 :: w39 :: w40 :: w41 :: w42 :: w43 :: w44 :: w45 :: w46 :: w47 :: w48 :: w49 :: w50 :: w51 :: w52 :: w53 :: w54 :: w55 :: w56 :: w57 :: w58 :: w59 :: w60 :: w61 :: w62 :: w63 :: w64 :: w65 :: w66 :: w67 :: w68 :: w69 :: w70 :: w71 :: w72 :: w73 :: w74 :: w75 :: w76 :: w77 :: w78 :: w79 :: w80 :: w81 :: w82 :: w83 :: w84 :: w85 :: w86 :: w87 :: w88 :: w89 :: w90 :: w91 :: w92 :: .ref a93 :: [])), (a93, .inl (cR, 16, .inl (fun _ => 0)))] s.heap.size = A at hD ⊢
  have hA : ∀ q : Nat, s.heap.size ≤ q → A q := fun q h => by rw [← hAe]; exact Or.inr h
  have hS : va_S A s.heap s.heap [] := va_S.rf
  have hl := lv_entry ([.ref h0, .int i]) (n := 2) (Nat.le_of_ble_eq_true rfl)
  rw [lg_entry_eq]
  generalize (lg_sl ([.ref h0, .int i]) ++ List.replicate (2 - (lg_sl ([.ref h0, .int i])).length) Slot.unset).toArray = ls at hl ⊢
  have hl : lv_has ls 2 [(0, .ref h0), (1, .int i)] := hl
  refine lv_iload_n hx hb dX12_refusals_0 rfl (lv_at hl 1 rfl) ?_
  refine lv_i2l hx hb dX12_refusals_1 rfl ?_
  refine lv_topl (fun y_1 ey_1 => ?_)
  refine lv_lconst (v := 0) hx hb dX12_refusals_2 (by decide) ?_
  refine lv_ldc2 hx hb hown (hts (.constantLong RX12 635 (15)) (by decide +kernel)) dX12_refusals_3 ?_
  have hPc := hP.sub (ws' := []) [] rfl
  have hDc := hD.sub (ws' := []) [] (by decide) rfl
  have hKc := hK.sub (tys' := []) [] rfl
  have hFc := va_free (wc := []) hD hS hA [] rfl
  refine va_calli (va_runS (As := [.long y_1, .long 0, .long 15]) (rest := []) ⟨hx, hb, hml, hown, hts⟩ (c_isIn l dC dI s.heap.size y_1 0 15) (va_cwS 3 hts gc_X12_refusals__X12_isIn rfl rfl rfl (by decide +kernel) ⟨Nat.le_of_ble_eq_true rfl, Nat.le_of_ble_eq_true rfl⟩) ⟨fun a U g mk q => by obtain ⟨q0, q1, qP, qK, qD⟩ := q; exact ⟨q0, q1, qP, va_K.moved (u := U) (U := U.calling g mk a) (Vm.Alike.refl U.vm) qK, qD⟩, fun U hU hW => ⟨rfl, by rw [hU], by rw [hU]; exact hPc, va_K.moved hW.alike hKc, hDc.weaken (fun _ _ _ _ => trivial)⟩⟩ rfl rfl hl.1 rfl (lv_room (Nat.le_of_ble_eq_true rfl)) dX12_refusals_6 ⟨(show 0 + 0 ≤ 0 by omega), (show 0 + 0 ≤ 0 by omega)⟩) hS (fun q _ h => hFc q h) hFc (fun r0 u t H1 locs ht hvm hw hB hz1 hk1 hS => ?_)
  obtain ⟨hP1, hK1, hD1⟩ := hB
  rw [ht] at hP1
  have hK1 := va_K.moved hvm.symm hK1
  obtain ⟨hP, hD⟩ := va_join (wr := [(h0, .inr (12, w0 :: w1 :: w2 :: w3 :: w4 :: w5 :: w6 :: w7 :: w8 :: w9 :: w10 :: w11 :: w12 :: w13 :: w14 :: w15 :: w16 :: w17 :: w18 :: w19 :: w20 :: w21 :: w22 :: w23 :: w24 :: w25 :: w26 :: w27 :: w28 :: w29 :: w30 :: w31 :: w32 :: w33 :: w34 :: w35 :: w36 :: w37 :: w38 :: w39 :: w40 :: w41 :: w42 :: w43 :: w44 :: w45 :: w46 :: w47 :: w48 :: w49 :: w50 :: w51 :: w52 :: w53 :: w54 :: w55 :: w56 :: w57 :: w58 :: w59 :: w60 :: w61 :: w62 :: w63 :: w64 :: w65 :: w66 :: w67 :: w68 :: w69 :: w70 :: w71 :: w72 :: w73 :: w74 :: w75 :: w76 :: w77 :: w78 :: w79 :: w80 :: w81 :: w82 :: w83 :: w84 :: w85 :: w86 :: w87 :: w88 :: w89 :: w90 :: w91 :: w92 :: .ref a93 :: [])), (a93, .inl (cR, 16, .inl (fun _ => 0)))]) (w1 := []) hP hD [] [0, 1] rfl rfl (by decide) (by decide) hk1 hFc hP1 hD1
  have hK := (hK.sub (tys' := [(cR, .int)]) [0] rfl).app hK1
  generalize H1 = H at hP hS ⊢
  have hP : va_P (dC, dI) vwCl [(h0, .inr (12, w0 :: w1 :: w2 :: w3 :: w4 :: w5 :: w6 :: w7 :: w8 :: w9 :: w10 :: w11 :: w12 :: w13 :: w14 :: w15 :: w16 :: w17 :: w18 :: w19 :: w20 :: w21 :: w22 :: w23 :: w24 :: w25 :: w26 :: w27 :: w28 :: w29 :: w30 :: w31 :: w32 :: w33 :: w34 :: w35 :: w36 :: w37 :: w38 :: w39 :: w40 :: w41 :: w42 :: w43 :: w44 :: w45 :: w46 :: w47 :: w48 :: w49 :: w50 :: w51 :: w52 :: w53 :: w54 :: w55 :: w56 :: w57 :: w58 :: w59 :: w60 :: w61 :: w62 :: w63 :: w64 :: w65 :: w66 :: w67 :: w68 :: w69 :: w70 :: w71 :: w72 :: w73 :: w74 :: w75 :: w76 :: w77 :: w78 :: w79 :: w80 :: w81 :: w82 :: w83 :: w84 :: w85 :: w86 :: w87 :: w88 :: w89 :: w90 :: w91 :: w92 :: .ref a93 :: [])), (a93, .inl (cR, 16, .inl (fun _ => 0)))] H := hP
  have hD : va_D A [(h0, .inr (12, w0 :: w1 :: w2 :: w3 :: w4 :: w5 :: w6 :: w7 :: w8 :: w9 :: w10 :: w11 :: w12 :: w13 :: w14 :: w15 :: w16 :: w17 :: w18 :: w19 :: w20 :: w21 :: w22 :: w23 :: w24 :: w25 :: w26 :: w27 :: w28 :: w29 :: w30 :: w31 :: w32 :: w33 :: w34 :: w35 :: w36 :: w37 :: w38 :: w39 :: w40 :: w41 :: w42 :: w43 :: w44 :: w45 :: w46 :: w47 :: w48 :: w49 :: w50 :: w51 :: w52 :: w53 :: w54 :: w55 :: w56 :: w57 :: w58 :: w59 :: w60 :: w61 :: w62 :: w63 :: w64 :: w65 :: w66 :: w67 :: w68 :: w69 :: w70 :: w71 :: w72 :: w73 :: w74 :: w75 :: w76 :: w77 :: w78 :: w79 :: w80 :: w81 :: w82 :: w83 :: w84 :: w85 :: w86 :: w87 :: w88 :: w89 :: w90 :: w91 :: w92 :: .ref a93 :: [])), (a93, .inl (cR, 16, .inl (fun _ => 0)))] := hD
  have hK : va_K (dC, dI) vwCl [(cR, .int)] s := hK
  refine W.widen (k := 0) (n := 0) (by omega) (by omega) ?_
  rw [ey_1] at hw
  by_cases hi : (0 : Int64).toInt ≤ i.toInt64.toInt ∧ i.toInt64.toInt ≤ (15 : Int64).toInt
  · obtain rfl : r0 = 1 := by rw [hw, if_pos hi]
    refine lv_if_eq (tgt := 21) hx hb dX12_refusals_9 (by decide) (fun c9 => absurd c9 (by decide)) (fun _ => ?_)
    refine lv_aload_n hx hb dX12_refusals_12 rfl (lv_at hl 0 rfl) ?_
    refine va_get (D := (dC, dI)) (ci := 12) (v := .ref a93) (C := RX12) (T := TX12) (N := 94) hx hb hts (by decide +kernel) hown hK hP 0 rfl rfl 93 (by decide) (hts (.fieldLink RX12 607 "ProofBenchModel" "refused" "[I") (by decide +kernel)) (fun _ h9 => h9) rfl dX12_refusals_13 ?_
    refine lv_iload_n hx hb dX12_refusals_16 rfl (lv_at hl 1 rfl) ?_
    refine va_iald hx hb hK hP 1 0 rfl rfl (rf_vp hi) dX12_refusals_17 ?_
    refine lv_goto (tgt := 22) hx hb dX12_refusals_18 (by decide) ?_
    have hP9 := hP.sub (ws' := []) [] rfl
    have hD9 := hD.sub (ws' := []) [] (by decide) rfl
    have hK9 := hK.sub (tys' := []) [] rfl
    refine W.widen (k := 0) (n := 0) (by omega) (by omega) ?_
    exact W.iret (v := 0) hx hb hr (fun t ht hW => ⟨⟨0, (), rfl, rfl, by rw [ht]; exact hP9, va_K.moved hW.alike hK9, hD9⟩, hS.F ht⟩) hS.2.2 dX12_refusals_22
  · obtain rfl : r0 = 0 := by rw [hw, if_neg hi]
    refine lv_if_eq (tgt := 21) hx hb dX12_refusals_9 (by decide) (fun _ => ?_) (fun c9 => absurd c9 (by decide))
    refine lv_iconst (v := 0) hx hb dX12_refusals_21 (by decide) ?_
    have hP9 := hP.sub (ws' := []) [] rfl
    have hD9 := hD.sub (ws' := []) [] (by decide) rfl
    have hK9 := hK.sub (tys' := []) [] rfl
    refine W.widen (k := 0) (n := 0) (by omega) (by omega) ?_
    exact W.iret (v := 0) hx hb hr (fun t ht hW => ⟨⟨0, (), rfl, rfl, by rw [ht]; exact hP9, va_K.moved hW.alike hK9, hD9⟩, hS.F ht⟩) hS.2.2 dX12_refusals_22
def wc_X12_byteAt : List Cond := .code yX12_byteAt cX12_byteAt 2 (some .int) :: ([Cond.fieldLink RX12 128 "ProofBenchModel" "taped" "I"] ++ wsX120)
set_option maxHeartbeats 1000000 in
set_option maxRecDepth 100000 in
/-- byteAt(0) of an empty TAPE -/
theorem m_byteAt (l : Launch) (dC : Nat → ClassId) (dI : Nat → Nat → Nat) (sz : Nat) (h0 : Nat) (w0 w1 w2 w3 w4 w5 w6 w7 w8 w9 w10 w11 w12 w13 w14 w15 w16 w17 w18 w19 w20 w21 w22 w23 w24 w25 w26 w27 w28 w29 w30 w31 w33 w34 w35 w36 w37 w38 w39 w40 w41 w42 w43 w44 w45 w46 w47 w48 w49 w50 w51 w52 w53 w54 w55 w56 w57 w58 w59 w60 w61 w62 w63 w64 w65 w66 w67 w68 w69 w70 w71 w72 w73 w74 w75 w76 w77 w78 w79 w80 w81 w82 w83 w84 w85 w86 w87 w88 w89 w90 w91 w92 w93 : Value) : Met l yX12_byteAt wc_X12_byteAt ({ frames := 0, cells := 0, slots := 0, locals := 0 }) (va_Pc [.ref h0, .int 0] (fun U => U.heap.size = sz ∧ va_P (dC, dI) vwCl [(h0, .inr (12, w0 :: w1 :: w2 :: w3 :: w4 :: w5 :: w6 :: w7 :: w8 :: w9 :: w10 :: w11 :: w12 :: w13 :: w14 :: w15 :: w16 :: w17 :: w18 :: w19 :: w20 :: w21 :: w22 :: w23 :: w24 :: w25 :: w26 :: w27 :: w28 :: w29 :: w30 :: w31 :: .int 0 :: w33 :: w34 :: w35 :: w36 :: w37 :: w38 :: w39 :: w40 :: w41 :: w42 :: w43 :: w44 :: w45 :: w46 :: w47 :: w48 :: w49 :: w50 :: w51 :: w52 :: w53 :: w54 :: w55 :: w56 :: w57 :: w58 :: w59 :: w60 :: w61 :: w62 :: w63 :: w64 :: w65 :: w66 :: w67 :: w68 :: w69 :: w70 :: w71 :: w72 :: w73 :: w74 :: w75 :: w76 :: w77 :: w78 :: w79 :: w80 :: w81 :: w82 :: w83 :: w84 :: w85 :: w86 :: w87 :: w88 :: w89 :: w90 :: w91 :: w92 :: w93 :: []))] U.heap ∧ va_K (dC, dI) vwCl [] U ∧ va_D (fun _ => True) [(h0, .inr (12, w0 :: w1 :: w2 :: w3 :: w4 :: w5 :: w6 :: w7 :: w8 :: w9 :: w10 :: w11 :: w12 :: w13 :: w14 :: w15 :: w16 :: w17 :: w18 :: w19 :: w20 :: w21 :: w22 :: w23 :: w24 :: w25 :: w26 :: w27 :: w28 :: w29 :: w30 :: w31 :: .int 0 :: w33 :: w34 :: w35 :: w36 :: w37 :: w38 :: w39 :: w40 :: w41 :: w42 :: w43 :: w44 :: w45 :: w46 :: w47 :: w48 :: w49 :: w50 :: w51 :: w52 :: w53 :: w54 :: w55 :: w56 :: w57 :: w58 :: w59 :: w60 :: w61 :: w62 :: w63 :: w64 :: w65 :: w66 :: w67 :: w68 :: w69 :: w70 :: w71 :: w72 :: w73 :: w74 :: w75 :: w76 :: w77 :: w78 :: w79 :: w80 :: w81 :: w82 :: w83 :: w84 :: w85 :: w86 :: w87 :: w88 :: w89 :: w90 :: w91 :: w92 :: w93 :: []))])) (va_Qi (fun (r : Int32) (_ : Unit) => r = -1) (fun _ t => va_P (dC, dI) vwCl [(h0, .inr (12, w0 :: w1 :: w2 :: w3 :: w4 :: w5 :: w6 :: w7 :: w8 :: w9 :: w10 :: w11 :: w12 :: w13 :: w14 :: w15 :: w16 :: w17 :: w18 :: w19 :: w20 :: w21 :: w22 :: w23 :: w24 :: w25 :: w26 :: w27 :: w28 :: w29 :: w30 :: w31 :: .int 0 :: w33 :: w34 :: w35 :: w36 :: w37 :: w38 :: w39 :: w40 :: w41 :: w42 :: w43 :: w44 :: w45 :: w46 :: w47 :: w48 :: w49 :: w50 :: w51 :: w52 :: w53 :: w54 :: w55 :: w56 :: w57 :: w58 :: w59 :: w60 :: w61 :: w62 :: w63 :: w64 :: w65 :: w66 :: w67 :: w68 :: w69 :: w70 :: w71 :: w72 :: w73 :: w74 :: w75 :: w76 :: w77 :: w78 :: w79 :: w80 :: w81 :: w82 :: w83 :: w84 :: w85 :: w86 :: w87 :: w88 :: w89 :: w90 :: w91 :: w92 :: w93 :: []))] t.heap ∧ va_K (dC, dI) vwCl [] t ∧ va_D (va_A [(h0, .inr (12, w0 :: w1 :: w2 :: w3 :: w4 :: w5 :: w6 :: w7 :: w8 :: w9 :: w10 :: w11 :: w12 :: w13 :: w14 :: w15 :: w16 :: w17 :: w18 :: w19 :: w20 :: w21 :: w22 :: w23 :: w24 :: w25 :: w26 :: w27 :: w28 :: w29 :: w30 :: w31 :: .int 0 :: w33 :: w34 :: w35 :: w36 :: w37 :: w38 :: w39 :: w40 :: w41 :: w42 :: w43 :: w44 :: w45 :: w46 :: w47 :: w48 :: w49 :: w50 :: w51 :: w52 :: w53 :: w54 :: w55 :: w56 :: w57 :: w58 :: w59 :: w60 :: w61 :: w62 :: w63 :: w64 :: w65 :: w66 :: w67 :: w68 :: w69 :: w70 :: w71 :: w72 :: w73 :: w74 :: w75 :: w76 :: w77 :: w78 :: w79 :: w80 :: w81 :: w82 :: w83 :: w84 :: w85 :: w86 :: w87 :: w88 :: w89 :: w90 :: w91 :: w92 :: w93 :: []))] sz) [(h0, .inr (12, w0 :: w1 :: w2 :: w3 :: w4 :: w5 :: w6 :: w7 :: w8 :: w9 :: w10 :: w11 :: w12 :: w13 :: w14 :: w15 :: w16 :: w17 :: w18 :: w19 :: w20 :: w21 :: w22 :: w23 :: w24 :: w25 :: w26 :: w27 :: w28 :: w29 :: w30 :: w31 :: .int 0 :: w33 :: w34 :: w35 :: w36 :: w37 :: w38 :: w39 :: w40 :: w41 :: w42 :: w43 :: w44 :: w45 :: w46 :: w47 :: w48 :: w49 :: w50 :: w51 :: w52 :: w53 :: w54 :: w55 :: w56 :: w57 :: w58 :: w59 :: w60 :: w61 :: w62 :: w63 :: w64 :: w65 :: w66 :: w67 :: w68 :: w69 :: w70 :: w71 :: w72 :: w73 :: w74 :: w75 :: w76 :: w77 :: w78 :: w79 :: w80 :: w81 :: w82 :: w83 :: w84 :: w85 :: w86 :: w87 :: w88 :: w89 :: w90 :: w91 :: w92 :: w93 :: []))]) (va_A [(h0, .inr (12, w0 :: w1 :: w2 :: w3 :: w4 :: w5 :: w6 :: w7 :: w8 :: w9 :: w10 :: w11 :: w12 :: w13 :: w14 :: w15 :: w16 :: w17 :: w18 :: w19 :: w20 :: w21 :: w22 :: w23 :: w24 :: w25 :: w26 :: w27 :: w28 :: w29 :: w30 :: w31 :: .int 0 :: w33 :: w34 :: w35 :: w36 :: w37 :: w38 :: w39 :: w40 :: w41 :: w42 :: w43 :: w44 :: w45 :: w46 :: w47 :: w48 :: w49 :: w50 :: w51 :: w52 :: w53 :: w54 :: w55 :: w56 :: w57 :: w58 :: w59 :: w60 :: w61 :: w62 :: w63 :: w64 :: w65 :: w66 :: w67 :: w68 :: w69 :: w70 :: w71 :: w72 :: w73 :: w74 :: w75 :: w76 :: w77 :: w78 :: w79 :: w80 :: w81 :: w82 :: w83 :: w84 :: w85 :: w86 :: w87 :: w88 :: w89 :: w90 :: w91 :: w92 :: w93 :: []))] sz)) (0) (0) (va_A [(h0, .inr (12, w0 :: w1 :: w2 :: w3 :: w4 :: w5 :: w6 :: w7 :: w8 :: w9 :: w10 :: w11 :: w12 :: w13 :: w14 :: w15 :: w16 :: w17 :: w18 :: w19 :: w20 :: w21 :: w22 :: w23 :: w24 :: w25 :: w26 :: w27 :: w28 :: w29 :: w30 :: w31 :: .int 0 :: w33 :: w34 :: w35 :: w36 :: w37 :: w38 :: w39 :: w40 :: w41 :: w42 :: w43 :: w44 :: w45 :: w46 :: w47 :: w48 :: w49 :: w50 :: w51 :: w52 :: w53 :: w54 :: w55 :: w56 :: w57 :: w58 :: w59 :: w60 :: w61 :: w62 :: w63 :: w64 :: w65 :: w66 :: w67 :: w68 :: w69 :: w70 :: w71 :: w72 :: w73 :: w74 :: w75 :: w76 :: w77 :: w78 :: w79 :: w80 :: w81 :: w82 :: w83 :: w84 :: w85 :: w86 :: w87 :: w88 :: w89 :: w90 :: w91 :: w92 :: w93 :: []))] sz) := by
  refine Met.ofW (cc := cX12_byteAt) (maxL := 2) (ret := (some .int)) (by decide) rfl ?_
  intro p e s m args below meth c s₁ B hml hv
  obtain ⟨rfl, hsz, hP, hK, hD0⟩ := hv
  have hx := B.exec
  have hb := B.bytes
  have hr := B.returns
  have hts := atoms_spec (ws := wc_X12_byteAt) B.pre
  have hown : s.vm.findClass RX12 = some m.cls := findClass_of_methodNamed B.named
  have hlocks := B.notSynchronized
  subst hsz
  have hD := hD0.self (sz := s.heap.size)
  generalize hAe : va_A [(h0, .inr (12, w0 :: w1 :: w2 :: w3 :: w4 :: w5 :: w6 :: w7 :: w8 :: w9 :: w10 :: w11 :: w12 :: w13 :: w14 :: w15 :: w16 :: w17 :: w18 :: w19 :: w20 :: w21 :: w22 :: w23 :: w24 :: w25 :: w26 :: w27 :: w28 :: w29 :: w30 :: w31 :: .int 0 :: w33 :: w34 :: w35 :: w36 :: w37 :: w38 :: w39 :: w40 :: w41 :: w42 :: w43 :: w44 :: w45 :: w46 :: w47 :: w48 :: w49 :: w50 :: w51 :: w52 :: w53 :: w54 :: w55 :: w56 :: w57 :: w58 :: w59 :: w60 :: w61 :: w62 :: w63 :: w64 :: w65 :: w66 :: w67 :: w68 :: w69 :: w70 :: w71 :: w72 :: w73 :: w74 :: w75 :: w76 :: w77 :: w78 :: w79 :: w80 :: w81 :: w82 :: w83 :: w84 :: w85 :: w86 :: w87 :: w88 :: w89 :: w90 :: w91 :: w92 :: w93 :: []))] s.heap.size = A at hD ⊢
  have hA : ∀ q : Nat, s.heap.size ≤ q → A q := fun q h => by rw [← hAe]; exact Or.inr h
  have hS : va_S A s.heap s.heap [] := va_S.rf
  have hl := lv_entry ([.ref h0, .int 0]) (n := 2) (Nat.le_of_ble_eq_true rfl)
  rw [lg_entry_eq]
  generalize (lg_sl ([.ref h0, .int 0]) ++ List.replicate (2 - (lg_sl ([.ref h0, .int 0])).length) Slot.unset).toArray = ls at hl ⊢
  have hl : lv_has ls 2 [(0, .ref h0), (1, .int 0)] := hl
  refine lv_iload_n hx hb dX12_byteAt_0 rfl (lv_at hl 1 rfl) ?_
  refine lv_aload_n hx hb dX12_byteAt_1 rfl (lv_at hl 0 rfl) ?_
  refine va_get (D := (dC, dI)) (ci := 12) (v := .int 0) (C := RX12) (T := TX12) (N := 94) hx hb hts (by decide +kernel) hown hK hP 0 rfl rfl 32 (by decide) (hts (.fieldLink RX12 128 "ProofBenchModel" "taped" "I") (by decide +kernel)) (fun _ h9 => h9) rfl dX12_byteAt_2 ?_
  refine lv_icmp_ge (tgt := 17) hx hb dX12_byteAt_5 (by decide) (fun _ => ?_) (fun c9 => absurd c9 (by decide))
  refine lv_iconst (v := -1) hx hb dX12_byteAt_17 (by decide) ?_
  have hP9 := hP.sub (ws' := [(h0, .inr (12, w0 :: w1 :: w2 :: w3 :: w4 :: w5 :: w6 :: w7 :: w8 :: w9 :: w10 :: w11 :: w12 :: w13 :: w14 :: w15 :: w16 :: w17 :: w18 :: w19 :: w20 :: w21 :: w22 :: w23 :: w24 :: w25 :: w26 :: w27 :: w28 :: w29 :: w30 :: w31 :: .int 0 :: w33 :: w34 :: w35 :: w36 :: w37 :: w38 :: w39 :: w40 :: w41 :: w42 :: w43 :: w44 :: w45 :: w46 :: w47 :: w48 :: w49 :: w50 :: w51 :: w52 :: w53 :: w54 :: w55 :: w56 :: w57 :: w58 :: w59 :: w60 :: w61 :: w62 :: w63 :: w64 :: w65 :: w66 :: w67 :: w68 :: w69 :: w70 :: w71 :: w72 :: w73 :: w74 :: w75 :: w76 :: w77 :: w78 :: w79 :: w80 :: w81 :: w82 :: w83 :: w84 :: w85 :: w86 :: w87 :: w88 :: w89 :: w90 :: w91 :: w92 :: w93 :: []))]) [0] rfl
  have hD9 := hD.sub (ws' := [(h0, .inr (12, w0 :: w1 :: w2 :: w3 :: w4 :: w5 :: w6 :: w7 :: w8 :: w9 :: w10 :: w11 :: w12 :: w13 :: w14 :: w15 :: w16 :: w17 :: w18 :: w19 :: w20 :: w21 :: w22 :: w23 :: w24 :: w25 :: w26 :: w27 :: w28 :: w29 :: w30 :: w31 :: .int 0 :: w33 :: w34 :: w35 :: w36 :: w37 :: w38 :: w39 :: w40 :: w41 :: w42 :: w43 :: w44 :: w45 :: w46 :: w47 :: w48 :: w49 :: w50 :: w51 :: w52 :: w53 :: w54 :: w55 :: w56 :: w57 :: w58 :: w59 :: w60 :: w61 :: w62 :: w63 :: w64 :: w65 :: w66 :: w67 :: w68 :: w69 :: w70 :: w71 :: w72 :: w73 :: w74 :: w75 :: w76 :: w77 :: w78 :: w79 :: w80 :: w81 :: w82 :: w83 :: w84 :: w85 :: w86 :: w87 :: w88 :: w89 :: w90 :: w91 :: w92 :: w93 :: []))]) [0] (by decide) rfl
  have hK9 := hK.sub (tys' := []) [] rfl
  refine W.widen (k := 0) (n := 0) (by omega) (by omega) ?_
  exact W.iret (v := (-1)) hx hb hr (fun t ht hW => ⟨⟨(-1), (), rfl, rfl, by rw [ht]; exact hP9, va_K.moved hW.alike hK9, hD9⟩, hS.F ht⟩) hS.2.2 dX12_byteAt_18
def wc_X12_scan : List Cond := .code yX12_scan cX12_scan 2 none :: ([Cond.fieldLink RX12 147 "ProofBenchModel" "at" "I", Cond.fieldLink RX12 153 "ProofBenchModel" "tokenAt" "I", Cond.fieldLink RX12 156 "ProofBenchModel" "tokenValue" "I", Cond.fieldLink RX12 159 "ProofBenchModel" "token" "I", Cond.fieldLink RX12 178 "ProofBenchModel" "tokenLong" "I"] ++ wsX120 ++ wsV RX12 150 RX12 yX12_byteAt wc_X12_byteAt)
set_option maxRecDepth 20000 in
theorem gc_X12_scan__X12_byteAt : GoodIn wc_X12_scan (wsV RX12 150 RX12 yX12_byteAt wc_X12_byteAt) := goodIn_of _ (by decide +kernel)
set_option maxHeartbeats 1000000 in
set_option maxRecDepth 100000 in
/-- scan() of an empty TAPE -/
theorem m_scan (l : Launch) (dC : Nat → ClassId) (dI : Nat → Nat → Nat) (sz : Nat) (h0 : Nat) (w0 w1 w2 w3 w4 w5 w6 w7 w8 w9 w10 w11 w12 w13 w14 w15 w16 w17 w18 w19 w20 w21 w22 w23 w24 w25 w26 w27 w28 w29 w30 w31 w38 w39 w40 w41 w42 w43 w44 w45 w46 w47 w48 w49 w50 w51 w52 w53 w54 w55 w56 w57 w58 w59 w60 w61 w62 w63 w64 w65 w66 w67 w68 w69 w70 w71 w72 w73 w74 w75 w76 w77 w78 w79 w80 w81 w82 w83 w84 w85 w86 w87 w88 w89 w90 w91 w92 w93 : Value) : Met l yX12_scan wc_X12_scan ({ frames := 1, cells := 0, slots := 0, locals := 21 }) (va_Pc [.ref h0] (fun U => U.heap.size = sz ∧ va_P (dC, dI) vwCl [(h0, .inr (12, w0 :: w1 :: w2 :: w3 :: w4 :: w5 :: w6 :: w7 :: w8 :: w9 :: w10 :: w11 :: w12 :: w13 :: w14 :: w15 :: w16 :: w17 :: w18 :: w19 :: w20 :: w21 :: w22 :: w23 :: w24 :: w25 :: w26 :: w27 :: w28 :: w29 :: w30 :: w31 :: .int 0 :: .int 0 :: .int 0 :: .int 0 :: .int 0 :: .int 0 :: w38 :: w39 :: w40 :: w41 :: w42 :: w43 :: w44 :: w45 :: w46 :: w47 :: w48 :: w49 :: w50 :: w51 :: w52 :: w53 :: w54 :: w55 :: w56 :: w57 :: w58 :: w59 :: w60 :: w61 :: w62 :: w63 :: w64 :: w65 :: w66 :: w67 :: w68 :: w69 :: w70 :: w71 :: w72 :: w73 :: w74 :: w75 :: w76 :: w77 :: w78 :: w79 :: w80 :: w81 :: w82 :: w83 :: w84 :: w85 :: w86 :: w87 :: w88 :: w89 :: w90 :: w91 :: w92 :: w93 :: []))] U.heap ∧ va_K (dC, dI) vwCl [] U ∧ va_D (fun _ => True) [(h0, .inr (12, w0 :: w1 :: w2 :: w3 :: w4 :: w5 :: w6 :: w7 :: w8 :: w9 :: w10 :: w11 :: w12 :: w13 :: w14 :: w15 :: w16 :: w17 :: w18 :: w19 :: w20 :: w21 :: w22 :: w23 :: w24 :: w25 :: w26 :: w27 :: w28 :: w29 :: w30 :: w31 :: .int 0 :: .int 0 :: .int 0 :: .int 0 :: .int 0 :: .int 0 :: w38 :: w39 :: w40 :: w41 :: w42 :: w43 :: w44 :: w45 :: w46 :: w47 :: w48 :: w49 :: w50 :: w51 :: w52 :: w53 :: w54 :: w55 :: w56 :: w57 :: w58 :: w59 :: w60 :: w61 :: w62 :: w63 :: w64 :: w65 :: w66 :: w67 :: w68 :: w69 :: w70 :: w71 :: w72 :: w73 :: w74 :: w75 :: w76 :: w77 :: w78 :: w79 :: w80 :: w81 :: w82 :: w83 :: w84 :: w85 :: w86 :: w87 :: w88 :: w89 :: w90 :: w91 :: w92 :: w93 :: []))])) (va_Qv (fun _ : Unit => True) (fun _ t => va_P (dC, dI) vwCl [(h0, .inr (12, w0 :: w1 :: w2 :: w3 :: w4 :: w5 :: w6 :: w7 :: w8 :: w9 :: w10 :: w11 :: w12 :: w13 :: w14 :: w15 :: w16 :: w17 :: w18 :: w19 :: w20 :: w21 :: w22 :: w23 :: w24 :: w25 :: w26 :: w27 :: w28 :: w29 :: w30 :: w31 :: .int 0 :: .int 0 :: .int 0 :: .int 0 :: .int 0 :: .int 0 :: w38 :: w39 :: w40 :: w41 :: w42 :: w43 :: w44 :: w45 :: w46 :: w47 :: w48 :: w49 :: w50 :: w51 :: w52 :: w53 :: w54 :: w55 :: w56 :: w57 :: w58 :: w59 :: w60 :: w61 :: w62 :: w63 :: w64 :: w65 :: w66 :: w67 :: w68 :: w69 :: w70 :: w71 :: w72 :: w73 :: w74 :: w75 :: w76 :: w77 :: w78 :: w79 :: w80 :: w81 :: w82 :: w83 :: w84 :: w85 :: w86 :: w87 :: w88 :: w89 :: w90 :: w91 :: w92 :: w93 :: []))] t.heap ∧ va_K (dC, dI) vwCl [] t ∧ va_D (va_A [(h0, .inr (12, w0 :: w1 :: w2 :: w3 :: w4 :: w5 :: w6 :: w7 :: w8 :: w9 :: w10 :: w11 :: w12 :: w13 :: w14 :: w15 :: w16 :: w17 :: w18 :: w19 :: w20 :: w21 :: w22 :: w23 :: w24 :: w25 :: w26 :: w27 :: w28 :: w29 :: w30 :: w31 :: .int 0 :: .int 0 :: .int 0 :: .int 0 :: .int 0 :: .int 0 :: w38 :: w39 :: w40 :: w41 :: w42 :: w43 :: w44 :: w45 :: w46 :: w47 :: w48 :: w49 :: w50 :: w51 :: w52 :: w53 :: w54 :: w55 :: w56 :: w57 :: w58 :: w59 :: w60 :: w61 :: w62 :: w63 :: w64 :: w65 :: w66 :: w67 :: w68 :: w69 :: w70 :: w71 :: w72 :: w73 :: w74 :: w75 :: w76 :: w77 :: w78 :: w79 :: w80 :: w81 :: w82 :: w83 :: w84 :: w85 :: w86 :: w87 :: w88 :: w89 :: w90 :: w91 :: w92 :: w93 :: []))] sz) [(h0, .inr (12, w0 :: w1 :: w2 :: w3 :: w4 :: w5 :: w6 :: w7 :: w8 :: w9 :: w10 :: w11 :: w12 :: w13 :: w14 :: w15 :: w16 :: w17 :: w18 :: w19 :: w20 :: w21 :: w22 :: w23 :: w24 :: w25 :: w26 :: w27 :: w28 :: w29 :: w30 :: w31 :: .int 0 :: .int 0 :: .int 0 :: .int 0 :: .int 0 :: .int 0 :: w38 :: w39 :: w40 :: w41 :: w42 :: w43 :: w44 :: w45 :: w46 :: w47 :: w48 :: w49 :: w50 :: w51 :: w52 :: w53 :: w54 :: w55 :: w56 :: w57 :: w58 :: w59 :: w60 :: w61 :: w62 :: w63 :: w64 :: w65 :: w66 :: w67 :: w68 :: w69 :: w70 :: w71 :: w72 :: w73 :: w74 :: w75 :: w76 :: w77 :: w78 :: w79 :: w80 :: w81 :: w82 :: w83 :: w84 :: w85 :: w86 :: w87 :: w88 :: w89 :: w90 :: w91 :: w92 :: w93 :: []))]) (va_A [(h0, .inr (12, w0 :: w1 :: w2 :: w3 :: w4 :: w5 :: w6 :: w7 :: w8 :: w9 :: w10 :: w11 :: w12 :: w13 :: w14 :: w15 :: w16 :: w17 :: w18 :: w19 :: w20 :: w21 :: w22 :: w23 :: w24 :: w25 :: w26 :: w27 :: w28 :: w29 :: w30 :: w31 :: .int 0 :: .int 0 :: .int 0 :: .int 0 :: .int 0 :: .int 0 :: w38 :: w39 :: w40 :: w41 :: w42 :: w43 :: w44 :: w45 :: w46 :: w47 :: w48 :: w49 :: w50 :: w51 :: w52 :: w53 :: w54 :: w55 :: w56 :: w57 :: w58 :: w59 :: w60 :: w61 :: w62 :: w63 :: w64 :: w65 :: w66 :: w67 :: w68 :: w69 :: w70 :: w71 :: w72 :: w73 :: w74 :: w75 :: w76 :: w77 :: w78 :: w79 :: w80 :: w81 :: w82 :: w83 :: w84 :: w85 :: w86 :: w87 :: w88 :: w89 :: w90 :: w91 :: w92 :: w93 :: []))] sz)) (0) (0) (va_A [(h0, .inr (12, w0 :: w1 :: w2 :: w3 :: w4 :: w5 :: w6 :: w7 :: w8 :: w9 :: w10 :: w11 :: w12 :: w13 :: w14 :: w15 :: w16 :: w17 :: w18 :: w19 :: w20 :: w21 :: w22 :: w23 :: w24 :: w25 :: w26 :: w27 :: w28 :: w29 :: w30 :: w31 :: .int 0 :: .int 0 :: .int 0 :: .int 0 :: .int 0 :: .int 0 :: w38 :: w39 :: w40 :: w41 :: w42 :: w43 :: w44 :: w45 :: w46 :: w47 :: w48 :: w49 :: w50 :: w51 :: w52 :: w53 :: w54 :: w55 :: w56 :: w57 :: w58 :: w59 :: w60 :: w61 :: w62 :: w63 :: w64 :: w65 :: w66 :: w67 :: w68 :: w69 :: w70 :: w71 :: w72 :: w73 :: w74 :: w75 :: w76 :: w77 :: w78 :: w79 :: w80 :: w81 :: w82 :: w83 :: w84 :: w85 :: w86 :: w87 :: w88 :: w89 :: w90 :: w91 :: w92 :: w93 :: []))] sz) := by
  refine Met.ofW (cc := cX12_scan) (maxL := 2) (ret := none) (by decide) rfl ?_
  intro p e s m args below meth c s₁ B hml hv
  obtain ⟨rfl, hsz, hP, hK, hD0⟩ := hv
  have hx := B.exec
  have hb := B.bytes
  have hr := B.returns
  have hts := atoms_spec (ws := wc_X12_scan) B.pre
  have hown : s.vm.findClass RX12 = some m.cls := findClass_of_methodNamed B.named
  have hlocks := B.notSynchronized
  subst hsz
  have hD := hD0.self (sz := s.heap.size)
  generalize hAe : va_A [(h0, .inr (12, w0 :: w1 :: w2 :: w3 :: w4 :: w5 :: w6 :: w7 :: w8 :: w9 :: w10 :: w11 :: w12 :: w13 :: w14 :: w15 :: w16 :: w17 :: w18 :: w19 :: w20 :: w21 :: w22 :: w23 :: w24 :: w25 :: w26 :: w27 :: w28 :: w29 :: w30 :: w31 :: .int 0 :: .int 0 :: .int 0 :: .int 0 :: .int 0 :: .int 0 :: w38 :: w39 :: w40 :: w41 :: w42 :: w43 :: w44 :: w45 :: w46 :: w47 :: w48 :: w49 :: w50 :: w51 :: w52 :: w53 :: w54 :: w55 :: w56 :: w57 :: w58 :: w59 :: w60 :: w61 :: w62 :: w63 :: w64 :: w65 :: w66 :: w67 :: w68 :: w69 :: w70 :: w71 :: w72 :: w73 :: w74 :: w75 :: w76 :: w77 :: w78 :: w79 :: w80 :: w81 :: w82 :: w83 :: w84 :: w85 :: w86 :: w87 :: w88 :: w89 :: w90 :: w91 :: w92 :: w93 :: []))] s.heap.size = A at hD ⊢
  have hA : ∀ q : Nat, s.heap.size ≤ q → A q := fun q h => by rw [← hAe]; exact Or.inr h
  have hS : va_S A s.heap s.heap [] := va_S.rf
  have hl := lv_entry ([.ref h0]) (n := 2) (Nat.le_of_ble_eq_true rfl)
  rw [lg_entry_eq]
  generalize (lg_sl ([.ref h0]) ++ List.replicate (2 - (lg_sl ([.ref h0])).length) Slot.unset).toArray = ls at hl ⊢
  have hl : lv_has ls 2 [(0, .ref h0)] := hl
  refine lv_aload_n hx hb dX12_scan_0 rfl (lv_at hl 0 rfl) ?_
  refine lv_aload_n hx hb dX12_scan_1 rfl (lv_at hl 0 rfl) ?_
  refine va_get (D := (dC, dI)) (ci := 12) (v := .int 0) (C := RX12) (T := TX12) (N := 94) hx hb hts (by decide +kernel) hown hK hP 0 rfl rfl 33 (by decide) (hts (.fieldLink RX12 147 "ProofBenchModel" "at" "I") (by decide +kernel)) (fun _ h9 => h9) rfl dX12_scan_2 ?_
  have hPc := hP.sub (ws' := [(h0, .inr (12, w0 :: w1 :: w2 :: w3 :: w4 :: w5 :: w6 :: w7 :: w8 :: w9 :: w10 :: w11 :: w12 :: w13 :: w14 :: w15 :: w16 :: w17 :: w18 :: w19 :: w20 :: w21 :: w22 :: w23 :: w24 :: w25 :: w26 :: w27 :: w28 :: w29 :: w30 :: w31 :: .int 0 :: .int 0 :: .int 0 :: .int 0 :: .int 0 :: .int 0 :: w38 :: w39 :: w40 :: w41 :: w42 :: w43 :: w44 :: w45 :: w46 :: w47 :: w48 :: w49 :: w50 :: w51 :: w52 :: w53 :: w54 :: w55 :: w56 :: w57 :: w58 :: w59 :: w60 :: w61 :: w62 :: w63 :: w64 :: w65 :: w66 :: w67 :: w68 :: w69 :: w70 :: w71 :: w72 :: w73 :: w74 :: w75 :: w76 :: w77 :: w78 :: w79 :: w80 :: w81 :: w82 :: w83 :: w84 :: w85 :: w86 :: w87 :: w88 :: w89 :: w90 :: w91 :: w92 :: w93 :: []))]) [0] rfl
  have hDc := hD.sub (ws' := [(h0, .inr (12, w0 :: w1 :: w2 :: w3 :: w4 :: w5 :: w6 :: w7 :: w8 :: w9 :: w10 :: w11 :: w12 :: w13 :: w14 :: w15 :: w16 :: w17 :: w18 :: w19 :: w20 :: w21 :: w22 :: w23 :: w24 :: w25 :: w26 :: w27 :: w28 :: w29 :: w30 :: w31 :: .int 0 :: .int 0 :: .int 0 :: .int 0 :: .int 0 :: .int 0 :: w38 :: w39 :: w40 :: w41 :: w42 :: w43 :: w44 :: w45 :: w46 :: w47 :: w48 :: w49 :: w50 :: w51 :: w52 :: w53 :: w54 :: w55 :: w56 :: w57 :: w58 :: w59 :: w60 :: w61 :: w62 :: w63 :: w64 :: w65 :: w66 :: w67 :: w68 :: w69 :: w70 :: w71 :: w72 :: w73 :: w74 :: w75 :: w76 :: w77 :: w78 :: w79 :: w80 :: w81 :: w82 :: w83 :: w84 :: w85 :: w86 :: w87 :: w88 :: w89 :: w90 :: w91 :: w92 :: w93 :: []))]) [0] (by decide) rfl
  have hKc := hK.sub (tys' := []) [] rfl
  have hFc := va_free (wc := [(h0, .inr (12, w0 :: w1 :: w2 :: w3 :: w4 :: w5 :: w6 :: w7 :: w8 :: w9 :: w10 :: w11 :: w12 :: w13 :: w14 :: w15 :: w16 :: w17 :: w18 :: w19 :: w20 :: w21 :: w22 :: w23 :: w24 :: w25 :: w26 :: w27 :: w28 :: w29 :: w30 :: w31 :: .int 0 :: .int 0 :: .int 0 :: .int 0 :: .int 0 :: .int 0 :: w38 :: w39 :: w40 :: w41 :: w42 :: w43 :: w44 :: w45 :: w46 :: w47 :: w48 :: w49 :: w50 :: w51 :: w52 :: w53 :: w54 :: w55 :: w56 :: w57 :: w58 :: w59 :: w60 :: w61 :: w62 :: w63 :: w64 :: w65 :: w66 :: w67 :: w68 :: w69 :: w70 :: w71 :: w72 :: w73 :: w74 :: w75 :: w76 :: w77 :: w78 :: w79 :: w80 :: w81 :: w82 :: w83 :: w84 :: w85 :: w86 :: w87 :: w88 :: w89 :: w90 :: w91 :: w92 :: w93 :: []))]) hD hS hA [0] rfl
  refine va_calli (va_runV (As := [.int 0]) (rest := []) ⟨hx, hb, hml, hown, hts⟩ (m_byteAt l dC dI s.heap.size h0 (w0) (w1) (w2) (w3) (w4) (w5) (w6) (w7) (w8) (w9) (w10) (w11) (w12) (w13) (w14) (w15) (w16) (w17) (w18) (w19) (w20) (w21) (w22) (w23) (w24) (w25) (w26) (w27) (w28) (w29) (w30) (w31) (.int 0) (.int 0) (.int 0) (.int 0) (.int 0) (w38) (w39) (w40) (w41) (w42) (w43) (w44) (w45) (w46) (w47) (w48) (w49) (w50) (w51) (w52) (w53) (w54) (w55) (w56) (w57) (w58) (w59) (w60) (w61) (w62) (w63) (w64) (w65) (w66) (w67) (w68) (w69) (w70) (w71) (w72) (w73) (w74) (w75) (w76) (w77) (w78) (w79) (w80) (w81) (w82) (w83) (w84) (w85) (w86) (w87) (w88) (w89) (w90) (w91) (w92) (w93)) (cwV 1 hts gc_X12_scan__X12_byteAt rfl rfl rfl (by decide +kernel) ⟨Nat.le_of_ble_eq_true rfl, Nat.le_of_ble_eq_true rfl⟩) ⟨fun a U g mk q => by obtain ⟨q0, q1, qP, qK, qD⟩ := q; exact ⟨q0, q1, qP, va_K.moved (u := U) (U := U.calling g mk a) (Vm.Alike.refl U.vm) qK, qD⟩, va_recv hKc hPc (ci := 12) (q0 := 0) rfl rfl, fun U hU hW => ⟨rfl, by rw [hU], by rw [hU]; exact hPc, va_K.moved hW.alike hKc, hDc.weaken (fun _ _ _ _ => trivial)⟩⟩ rfl rfl hl.1 rfl (lv_room (Nat.le_of_ble_eq_true rfl)) dX12_scan_5 ⟨(show 0 + 0 ≤ 0 by omega), (show 0 + 0 ≤ 0 by omega)⟩) hS (fun q _ h => hFc q h) hFc (fun r0 u t H1 locs ht hvm hw hB hz1 hk1 hS => ?_)
  obtain ⟨hP1, hK1, hD1⟩ := hB
  rw [ht] at hP1
  have hK1 := va_K.moved hvm.symm hK1
  obtain ⟨hP, hD⟩ := va_join (wr := []) (w1 := [(h0, .inr (12, w0 :: w1 :: w2 :: w3 :: w4 :: w5 :: w6 :: w7 :: w8 :: w9 :: w10 :: w11 :: w12 :: w13 :: w14 :: w15 :: w16 :: w17 :: w18 :: w19 :: w20 :: w21 :: w22 :: w23 :: w24 :: w25 :: w26 :: w27 :: w28 :: w29 :: w30 :: w31 :: .int 0 :: .int 0 :: .int 0 :: .int 0 :: .int 0 :: .int 0 :: w38 :: w39 :: w40 :: w41 :: w42 :: w43 :: w44 :: w45 :: w46 :: w47 :: w48 :: w49 :: w50 :: w51 :: w52 :: w53 :: w54 :: w55 :: w56 :: w57 :: w58 :: w59 :: w60 :: w61 :: w62 :: w63 :: w64 :: w65 :: w66 :: w67 :: w68 :: w69 :: w70 :: w71 :: w72 :: w73 :: w74 :: w75 :: w76 :: w77 :: w78 :: w79 :: w80 :: w81 :: w82 :: w83 :: w84 :: w85 :: w86 :: w87 :: w88 :: w89 :: w90 :: w91 :: w92 :: w93 :: []))]) hP hD [0] [] rfl rfl (by decide) (by decide) hk1 hFc hP1 hD1
  have hK := (hK.sub (tys' := []) [] rfl).app hK1
  generalize H1 = H at hP hS ⊢
  have hP : va_P (dC, dI) vwCl [(h0, .inr (12, w0 :: w1 :: w2 :: w3 :: w4 :: w5 :: w6 :: w7 :: w8 :: w9 :: w10 :: w11 :: w12 :: w13 :: w14 :: w15 :: w16 :: w17 :: w18 :: w19 :: w20 :: w21 :: w22 :: w23 :: w24 :: w25 :: w26 :: w27 :: w28 :: w29 :: w30 :: w31 :: .int 0 :: .int 0 :: .int 0 :: .int 0 :: .int 0 :: .int 0 :: w38 :: w39 :: w40 :: w41 :: w42 :: w43 :: w44 :: w45 :: w46 :: w47 :: w48 :: w49 :: w50 :: w51 :: w52 :: w53 :: w54 :: w55 :: w56 :: w57 :: w58 :: w59 :: w60 :: w61 :: w62 :: w63 :: w64 :: w65 :: w66 :: w67 :: w68 :: w69 :: w70 :: w71 :: w72 :: w73 :: w74 :: w75 :: w76 :: w77 :: w78 :: w79 :: w80 :: w81 :: w82 :: w83 :: w84 :: w85 :: w86 :: w87 :: w88 :: w89 :: w90 :: w91 :: w92 :: w93 :: []))] H := hP
  have hD : va_D A [(h0, .inr (12, w0 :: w1 :: w2 :: w3 :: w4 :: w5 :: w6 :: w7 :: w8 :: w9 :: w10 :: w11 :: w12 :: w13 :: w14 :: w15 :: w16 :: w17 :: w18 :: w19 :: w20 :: w21 :: w22 :: w23 :: w24 :: w25 :: w26 :: w27 :: w28 :: w29 :: w30 :: w31 :: .int 0 :: .int 0 :: .int 0 :: .int 0 :: .int 0 :: .int 0 :: w38 :: w39 :: w40 :: w41 :: w42 :: w43 :: w44 :: w45 :: w46 :: w47 :: w48 :: w49 :: w50 :: w51 :: w52 :: w53 :: w54 :: w55 :: w56 :: w57 :: w58 :: w59 :: w60 :: w61 :: w62 :: w63 :: w64 :: w65 :: w66 :: w67 :: w68 :: w69 :: w70 :: w71 :: w72 :: w73 :: w74 :: w75 :: w76 :: w77 :: w78 :: w79 :: w80 :: w81 :: w82 :: w83 :: w84 :: w85 :: w86 :: w87 :: w88 :: w89 :: w90 :: w91 :: w92 :: w93 :: []))] := hD
  have hK : va_K (dC, dI) vwCl [] s := hK
  refine W.widen (k := 0) (n := 0) (by omega) (by omega) ?_
  subst hw
  refine lv_bipush (v := 32) hx hb dX12_scan_8 (by decide) ?_
  refine lv_icmp_eq (tgt := 26) hx hb dX12_scan_10 (by decide) (fun c9 => absurd c9 (by decide)) (fun _ => ?_)
  refine lv_aload_n hx hb dX12_scan_13 rfl (lv_at hl 0 rfl) ?_
  refine lv_aload_n hx hb dX12_scan_14 rfl (lv_at hl 0 rfl) ?_
  refine va_get (D := (dC, dI)) (ci := 12) (v := .int 0) (C := RX12) (T := TX12) (N := 94) hx hb hts (by decide +kernel) hown hK hP 0 rfl rfl 33 (by decide) (hts (.fieldLink RX12 147 "ProofBenchModel" "at" "I") (by decide +kernel)) (fun _ h9 => h9) rfl dX12_scan_15 ?_
  have hPc := hP.sub (ws' := [(h0, .inr (12, w0 :: w1 :: w2 :: w3 :: w4 :: w5 :: w6 :: w7 :: w8 :: w9 :: w10 :: w11 :: w12 :: w13 :: w14 :: w15 :: w16 :: w17 :: w18 :: w19 :: w20 :: w21 :: w22 :: w23 :: w24 :: w25 :: w26 :: w27 :: w28 :: w29 :: w30 :: w31 :: .int 0 :: .int 0 :: .int 0 :: .int 0 :: .int 0 :: .int 0 :: w38 :: w39 :: w40 :: w41 :: w42 :: w43 :: w44 :: w45 :: w46 :: w47 :: w48 :: w49 :: w50 :: w51 :: w52 :: w53 :: w54 :: w55 :: w56 :: w57 :: w58 :: w59 :: w60 :: w61 :: w62 :: w63 :: w64 :: w65 :: w66 :: w67 :: w68 :: w69 :: w70 :: w71 :: w72 :: w73 :: w74 :: w75 :: w76 :: w77 :: w78 :: w79 :: w80 :: w81 :: w82 :: w83 :: w84 :: w85 :: w86 :: w87 :: w88 :: w89 :: w90 :: w91 :: w92 :: w93 :: []))]) [0] rfl
  have hDc := hD.sub (ws' := [(h0, .inr (12, w0 :: w1 :: w2 :: w3 :: w4 :: w5 :: w6 :: w7 :: w8 :: w9 :: w10 :: w11 :: w12 :: w13 :: w14 :: w15 :: w16 :: w17 :: w18 :: w19 :: w20 :: w21 :: w22 :: w23 :: w24 :: w25 :: w26 :: w27 :: w28 :: w29 :: w30 :: w31 :: .int 0 :: .int 0 :: .int 0 :: .int 0 :: .int 0 :: .int 0 :: w38 :: w39 :: w40 :: w41 :: w42 :: w43 :: w44 :: w45 :: w46 :: w47 :: w48 :: w49 :: w50 :: w51 :: w52 :: w53 :: w54 :: w55 :: w56 :: w57 :: w58 :: w59 :: w60 :: w61 :: w62 :: w63 :: w64 :: w65 :: w66 :: w67 :: w68 :: w69 :: w70 :: w71 :: w72 :: w73 :: w74 :: w75 :: w76 :: w77 :: w78 :: w79 :: w80 :: w81 :: w82 :: w83 :: w84 :: w85 :: w86 :: w87 :: w88 :: w89 :: w90 :: w91 :: w92 :: w93 :: []))]) [0] (by decide) rfl
  have hKc := hK.sub (tys' := []) [] rfl
  have hFc := va_free (wc := [(h0, .inr (12, w0 :: w1 :: w2 :: w3 :: w4 :: w5 :: w6 :: w7 :: w8 :: w9 :: w10 :: w11 :: w12 :: w13 :: w14 :: w15 :: w16 :: w17 :: w18 :: w19 :: w20 :: w21 :: w22 :: w23 :: w24 :: w25 :: w26 :: w27 :: w28 :: w29 :: w30 :: w31 :: .int 0 :: .int 0 :: .int 0 :: .int 0 :: .int 0 :: .int 0 :: w38 :: w39 :: w40 :: w41 :: w42 :: w43 :: w44 :: w45 :: w46 :: w47 :: w48 :: w49 :: w50 :: w51 :: w52 :: w53 :: w54 :: w55 :: w56 :: w57 :: w58 :: w59 :: w60 :: w61 :: w62 :: w63 :: w64 :: w65 :: w66 :: w67 :: w68 :: w69 :: w70 :: w71 :: w72 :: w73 :: w74 :: w75 :: w76 :: w77 :: w78 :: w79 :: w80 :: w81 :: w82 :: w83 :: w84 :: w85 :: w86 :: w87 :: w88 :: w89 :: w90 :: w91 :: w92 :: w93 :: []))]) hD hS hA [0] rfl
  refine va_calli (va_runV (As := [.int 0]) (rest := []) ⟨hx, hb, hml, hown, hts⟩ (m_byteAt l dC dI H.size h0 (w0) (w1) (w2) (w3) (w4) (w5) (w6) (w7) (w8) (w9) (w10) (w11) (w12) (w13) (w14) (w15) (w16) (w17) (w18) (w19) (w20) (w21) (w22) (w23) (w24) (w25) (w26) (w27) (w28) (w29) (w30) (w31) (.int 0) (.int 0) (.int 0) (.int 0) (.int 0) (w38) (w39) (w40) (w41) (w42) (w43) (w44) (w45) (w46) (w47) (w48) (w49) (w50) (w51) (w52) (w53) (w54) (w55) (w56) (w57) (w58) (w59) (w60) (w61) (w62) (w63) (w64) (w65) (w66) (w67) (w68) (w69) (w70) (w71) (w72) (w73) (w74) (w75) (w76) (w77) (w78) (w79) (w80) (w81) (w82) (w83) (w84) (w85) (w86) (w87) (w88) (w89) (w90) (w91) (w92) (w93)) (cwV 1 hts gc_X12_scan__X12_byteAt rfl rfl rfl (by decide +kernel) ⟨Nat.le_of_ble_eq_true rfl, Nat.le_of_ble_eq_true rfl⟩) ⟨fun a U g mk q => by obtain ⟨q0, q1, qP, qK, qD⟩ := q; exact ⟨q0, q1, qP, va_K.moved (u := U) (U := U.calling g mk a) (Vm.Alike.refl U.vm) qK, qD⟩, va_recv hKc hPc (ci := 12) (q0 := 0) rfl rfl, fun U hU hW => ⟨rfl, by rw [hU], by rw [hU]; exact hPc, va_K.moved hW.alike hKc, hDc.weaken (fun _ _ _ _ => trivial)⟩⟩ rfl rfl hl.1 rfl (lv_room (Nat.le_of_ble_eq_true rfl)) dX12_scan_18 ⟨(show 0 + 0 ≤ 0 by omega), (show 0 + 0 ≤ 0 by omega)⟩) hS (fun q _ h => hFc q h) hFc (fun r1 u t H1 locs ht hvm hw hB hz1 hk1 hS => ?_)
  obtain ⟨hP1, hK1, hD1⟩ := hB
  rw [ht] at hP1
  have hK1 := va_K.moved hvm.symm hK1
  obtain ⟨hP, hD⟩ := va_join (wr := []) (w1 := [(h0, .inr (12, w0 :: w1 :: w2 :: w3 :: w4 :: w5 :: w6 :: w7 :: w8 :: w9 :: w10 :: w11 :: w12 :: w13 :: w14 :: w15 :: w16 :: w17 :: w18 :: w19 :: w20 :: w21 :: w22 :: w23 :: w24 :: w25 :: w26 :: w27 :: w28 :: w29 :: w30 :: w31 :: .int 0 :: .int 0 :: .int 0 :: .int 0 :: .int 0 :: .int 0 :: w38 :: w39 :: w40 :: w41 :: w42 :: w43 :: w44 :: w45 :: w46 :: w47 :: w48 :: w49 :: w50 :: w51 :: w52 :: w53 :: w54 :: w55 :: w56 :: w57 :: w58 :: w59 :: w60 :: w61 :: w62 :: w63 :: w64 :: w65 :: w66 :: w67 :: w68 :: w69 :: w70 :: w71 :: w72 :: w73 :: w74 :: w75 :: w76 :: w77 :: w78 :: w79 :: w80 :: w81 :: w82 :: w83 :: w84 :: w85 :: w86 :: w87 :: w88 :: w89 :: w90 :: w91 :: w92 :: w93 :: []))]) hP hD [0] [] rfl rfl (by decide) (by decide) hk1 hFc hP1 hD1
  have hK := (hK.sub (tys' := []) [] rfl).app hK1
  generalize H1 = H at hP hS ⊢
  have hP : va_P (dC, dI) vwCl [(h0, .inr (12, w0 :: w1 :: w2 :: w3 :: w4 :: w5 :: w6 :: w7 :: w8 :: w9 :: w10 :: w11 :: w12 :: w13 :: w14 :: w15 :: w16 :: w17 :: w18 :: w19 :: w20 :: w21 :: w22 :: w23 :: w24 :: w25 :: w26 :: w27 :: w28 :: w29 :: w30 :: w31 :: .int 0 :: .int 0 :: .int 0 :: .int 0 :: .int 0 :: .int 0 :: w38 :: w39 :: w40 :: w41 :: w42 :: w43 :: w44 :: w45 :: w46 :: w47 :: w48 :: w49 :: w50 :: w51 :: w52 :: w53 :: w54 :: w55 :: w56 :: w57 :: w58 :: w59 :: w60 :: w61 :: w62 :: w63 :: w64 :: w65 :: w66 :: w67 :: w68 :: w69 :: w70 :: w71 :: w72 :: w73 :: w74 :: w75 :: w76 :: w77 :: w78 :: w79 :: w80 :: w81 :: w82 :: w83 :: w84 :: w85 :: w86 :: w87 :: w88 :: w89 :: w90 :: w91 :: w92 :: w93 :: []))] H := hP
  have hD : va_D A [(h0, .inr (12, w0 :: w1 :: w2 :: w3 :: w4 :: w5 :: w6 :: w7 :: w8 :: w9 :: w10 :: w11 :: w12 :: w13 :: w14 :: w15 :: w16 :: w17 :: w18 :: w19 :: w20 :: w21 :: w22 :: w23 :: w24 :: w25 :: w26 :: w27 :: w28 :: w29 :: w30 :: w31 :: .int 0 :: .int 0 :: .int 0 :: .int 0 :: .int 0 :: .int 0 :: w38 :: w39 :: w40 :: w41 :: w42 :: w43 :: w44 :: w45 :: w46 :: w47 :: w48 :: w49 :: w50 :: w51 :: w52 :: w53 :: w54 :: w55 :: w56 :: w57 :: w58 :: w59 :: w60 :: w61 :: w62 :: w63 :: w64 :: w65 :: w66 :: w67 :: w68 :: w69 :: w70 :: w71 :: w72 :: w73 :: w74 :: w75 :: w76 :: w77 :: w78 :: w79 :: w80 :: w81 :: w82 :: w83 :: w84 :: w85 :: w86 :: w87 :: w88 :: w89 :: w90 :: w91 :: w92 :: w93 :: []))] := hD
  have hK : va_K (dC, dI) vwCl [] s := hK
  refine W.widen (k := 0) (n := 0) (by omega) (by omega) ?_
  subst hw
  refine lv_bipush (v := 10) hx hb dX12_scan_21 (by decide) ?_
  refine lv_icmp_ne (tgt := 39) hx hb dX12_scan_23 (by decide) (fun _ => ?_) (fun c9 => absurd c9 (by decide))
  refine lv_aload_n hx hb dX12_scan_39 rfl (lv_at hl 0 rfl) ?_
  refine lv_aload_n hx hb dX12_scan_40 rfl (lv_at hl 0 rfl) ?_
  refine va_get (D := (dC, dI)) (ci := 12) (v := .int 0) (C := RX12) (T := TX12) (N := 94) hx hb hts (by decide +kernel) hown hK hP 0 rfl rfl 33 (by decide) (hts (.fieldLink RX12 147 "ProofBenchModel" "at" "I") (by decide +kernel)) (fun _ h9 => h9) rfl dX12_scan_41 ?_
  refine va_put (D := (dC, dI)) (ci := 12) (v := .int 0) (ty := .int) (C := RX12) (T := TX12) (N := 94) hx hb hts (by decide +kernel) tyX12 tyX12_ok nmX12 hown hK hP hD hS 0 rfl rfl 35 (by decide) (hts (.fieldLink RX12 153 "ProofBenchModel" "tokenAt" "I") (by decide +kernel)) (fun _ h9 => h9) rfl (by decide +kernel) rfl rfl (Nat.le_of_ble_eq_true rfl) dX12_scan_44 (fun H locs hP hD hS => ?_)
  have hP : va_P (dC, dI) vwCl [(h0, .inr (12, w0 :: w1 :: w2 :: w3 :: w4 :: w5 :: w6 :: w7 :: w8 :: w9 :: w10 :: w11 :: w12 :: w13 :: w14 :: w15 :: w16 :: w17 :: w18 :: w19 :: w20 :: w21 :: w22 :: w23 :: w24 :: w25 :: w26 :: w27 :: w28 :: w29 :: w30 :: w31 :: .int 0 :: .int 0 :: .int 0 :: .int 0 :: .int 0 :: .int 0 :: w38 :: w39 :: w40 :: w41 :: w42 :: w43 :: w44 :: w45 :: w46 :: w47 :: w48 :: w49 :: w50 :: w51 :: w52 :: w53 :: w54 :: w55 :: w56 :: w57 :: w58 :: w59 :: w60 :: w61 :: w62 :: w63 :: w64 :: w65 :: w66 :: w67 :: w68 :: w69 :: w70 :: w71 :: w72 :: w73 :: w74 :: w75 :: w76 :: w77 :: w78 :: w79 :: w80 :: w81 :: w82 :: w83 :: w84 :: w85 :: w86 :: w87 :: w88 :: w89 :: w90 :: w91 :: w92 :: w93 :: []))] H := hP
  have hD : va_D A [(h0, .inr (12, w0 :: w1 :: w2 :: w3 :: w4 :: w5 :: w6 :: w7 :: w8 :: w9 :: w10 :: w11 :: w12 :: w13 :: w14 :: w15 :: w16 :: w17 :: w18 :: w19 :: w20 :: w21 :: w22 :: w23 :: w24 :: w25 :: w26 :: w27 :: w28 :: w29 :: w30 :: w31 :: .int 0 :: .int 0 :: .int 0 :: .int 0 :: .int 0 :: .int 0 :: w38 :: w39 :: w40 :: w41 :: w42 :: w43 :: w44 :: w45 :: w46 :: w47 :: w48 :: w49 :: w50 :: w51 :: w52 :: w53 :: w54 :: w55 :: w56 :: w57 :: w58 :: w59 :: w60 :: w61 :: w62 :: w63 :: w64 :: w65 :: w66 :: w67 :: w68 :: w69 :: w70 :: w71 :: w72 :: w73 :: w74 :: w75 :: w76 :: w77 :: w78 :: w79 :: w80 :: w81 :: w82 :: w83 :: w84 :: w85 :: w86 :: w87 :: w88 :: w89 :: w90 :: w91 :: w92 :: w93 :: []))] := hD
  refine lv_aload_n hx hb dX12_scan_47 rfl (lv_at hl 0 rfl) ?_
  refine lv_iconst (v := 0) hx hb dX12_scan_48 (by decide) ?_
  refine va_put (D := (dC, dI)) (ci := 12) (v := .int 0) (ty := .int) (C := RX12) (T := TX12) (N := 94) hx hb hts (by decide +kernel) tyX12 tyX12_ok nmX12 hown hK hP hD hS 0 rfl rfl 37 (by decide) (hts (.fieldLink RX12 156 "ProofBenchModel" "tokenValue" "I") (by decide +kernel)) (fun _ h9 => h9) rfl (by decide +kernel) rfl rfl (Nat.le_of_ble_eq_true rfl) dX12_scan_49 (fun H locs hP hD hS => ?_)
  have hP : va_P (dC, dI) vwCl [(h0, .inr (12, w0 :: w1 :: w2 :: w3 :: w4 :: w5 :: w6 :: w7 :: w8 :: w9 :: w10 :: w11 :: w12 :: w13 :: w14 :: w15 :: w16 :: w17 :: w18 :: w19 :: w20 :: w21 :: w22 :: w23 :: w24 :: w25 :: w26 :: w27 :: w28 :: w29 :: w30 :: w31 :: .int 0 :: .int 0 :: .int 0 :: .int 0 :: .int 0 :: .int 0 :: w38 :: w39 :: w40 :: w41 :: w42 :: w43 :: w44 :: w45 :: w46 :: w47 :: w48 :: w49 :: w50 :: w51 :: w52 :: w53 :: w54 :: w55 :: w56 :: w57 :: w58 :: w59 :: w60 :: w61 :: w62 :: w63 :: w64 :: w65 :: w66 :: w67 :: w68 :: w69 :: w70 :: w71 :: w72 :: w73 :: w74 :: w75 :: w76 :: w77 :: w78 :: w79 :: w80 :: w81 :: w82 :: w83 :: w84 :: w85 :: w86 :: w87 :: w88 :: w89 :: w90 :: w91 :: w92 :: w93 :: []))] H := hP
  have hD : va_D A [(h0, .inr (12, w0 :: w1 :: w2 :: w3 :: w4 :: w5 :: w6 :: w7 :: w8 :: w9 :: w10 :: w11 :: w12 :: w13 :: w14 :: w15 :: w16 :: w17 :: w18 :: w19 :: w20 :: w21 :: w22 :: w23 :: w24 :: w25 :: w26 :: w27 :: w28 :: w29 :: w30 :: w31 :: .int 0 :: .int 0 :: .int 0 :: .int 0 :: .int 0 :: .int 0 :: w38 :: w39 :: w40 :: w41 :: w42 :: w43 :: w44 :: w45 :: w46 :: w47 :: w48 :: w49 :: w50 :: w51 :: w52 :: w53 :: w54 :: w55 :: w56 :: w57 :: w58 :: w59 :: w60 :: w61 :: w62 :: w63 :: w64 :: w65 :: w66 :: w67 :: w68 :: w69 :: w70 :: w71 :: w72 :: w73 :: w74 :: w75 :: w76 :: w77 :: w78 :: w79 :: w80 :: w81 :: w82 :: w83 :: w84 :: w85 :: w86 :: w87 :: w88 :: w89 :: w90 :: w91 :: w92 :: w93 :: []))] := hD
  refine lv_aload_n hx hb dX12_scan_52 rfl (lv_at hl 0 rfl) ?_
  refine lv_aload_n hx hb dX12_scan_53 rfl (lv_at hl 0 rfl) ?_
  refine va_get (D := (dC, dI)) (ci := 12) (v := .int 0) (C := RX12) (T := TX12) (N := 94) hx hb hts (by decide +kernel) hown hK hP 0 rfl rfl 33 (by decide) (hts (.fieldLink RX12 147 "ProofBenchModel" "at" "I") (by decide +kernel)) (fun _ h9 => h9) rfl dX12_scan_54 ?_
  have hPc := hP.sub (ws' := [(h0, .inr (12, w0 :: w1 :: w2 :: w3 :: w4 :: w5 :: w6 :: w7 :: w8 :: w9 :: w10 :: w11 :: w12 :: w13 :: w14 :: w15 :: w16 :: w17 :: w18 :: w19 :: w20 :: w21 :: w22 :: w23 :: w24 :: w25 :: w26 :: w27 :: w28 :: w29 :: w30 :: w31 :: .int 0 :: .int 0 :: .int 0 :: .int 0 :: .int 0 :: .int 0 :: w38 :: w39 :: w40 :: w41 :: w42 :: w43 :: w44 :: w45 :: w46 :: w47 :: w48 :: w49 :: w50 :: w51 :: w52 :: w53 :: w54 :: w55 :: w56 :: w57 :: w58 :: w59 :: w60 :: w61 :: w62 :: w63 :: w64 :: w65 :: w66 :: w67 :: w68 :: w69 :: w70 :: w71 :: w72 :: w73 :: w74 :: w75 :: w76 :: w77 :: w78 :: w79 :: w80 :: w81 :: w82 :: w83 :: w84 :: w85 :: w86 :: w87 :: w88 :: w89 :: w90 :: w91 :: w92 :: w93 :: []))]) [0] rfl
  have hDc := hD.sub (ws' := [(h0, .inr (12, w0 :: w1 :: w2 :: w3 :: w4 :: w5 :: w6 :: w7 :: w8 :: w9 :: w10 :: w11 :: w12 :: w13 :: w14 :: w15 :: w16 :: w17 :: w18 :: w19 :: w20 :: w21 :: w22 :: w23 :: w24 :: w25 :: w26 :: w27 :: w28 :: w29 :: w30 :: w31 :: .int 0 :: .int 0 :: .int 0 :: .int 0 :: .int 0 :: .int 0 :: w38 :: w39 :: w40 :: w41 :: w42 :: w43 :: w44 :: w45 :: w46 :: w47 :: w48 :: w49 :: w50 :: w51 :: w52 :: w53 :: w54 :: w55 :: w56 :: w57 :: w58 :: w59 :: w60 :: w61 :: w62 :: w63 :: w64 :: w65 :: w66 :: w67 :: w68 :: w69 :: w70 :: w71 :: w72 :: w73 :: w74 :: w75 :: w76 :: w77 :: w78 :: w79 :: w80 :: w81 :: w82 :: w83 :: w84 :: w85 :: w86 :: w87 :: w88 :: w89 :: w90 :: w91 :: w92 :: w93 :: []))]) [0] (by decide) rfl
  have hKc := hK.sub (tys' := []) [] rfl
  have hFc := va_free (wc := [(h0, .inr (12, w0 :: w1 :: w2 :: w3 :: w4 :: w5 :: w6 :: w7 :: w8 :: w9 :: w10 :: w11 :: w12 :: w13 :: w14 :: w15 :: w16 :: w17 :: w18 :: w19 :: w20 :: w21 :: w22 :: w23 :: w24 :: w25 :: w26 :: w27 :: w28 :: w29 :: w30 :: w31 :: .int 0 :: .int 0 :: .int 0 :: .int 0 :: .int 0 :: .int 0 :: w38 :: w39 :: w40 :: w41 :: w42 :: w43 :: w44 :: w45 :: w46 :: w47 :: w48 :: w49 :: w50 :: w51 :: w52 :: w53 :: w54 :: w55 :: w56 :: w57 :: w58 :: w59 :: w60 :: w61 :: w62 :: w63 :: w64 :: w65 :: w66 :: w67 :: w68 :: w69 :: w70 :: w71 :: w72 :: w73 :: w74 :: w75 :: w76 :: w77 :: w78 :: w79 :: w80 :: w81 :: w82 :: w83 :: w84 :: w85 :: w86 :: w87 :: w88 :: w89 :: w90 :: w91 :: w92 :: w93 :: []))]) hD hS hA [0] rfl
  refine va_calli (va_runV (As := [.int 0]) (rest := []) ⟨hx, hb, hml, hown, hts⟩ (m_byteAt l dC dI H.size h0 (w0) (w1) (w2) (w3) (w4) (w5) (w6) (w7) (w8) (w9) (w10) (w11) (w12) (w13) (w14) (w15) (w16) (w17) (w18) (w19) (w20) (w21) (w22) (w23) (w24) (w25) (w26) (w27) (w28) (w29) (w30) (w31) (.int 0) (.int 0) (.int 0) (.int 0) (.int 0) (w38) (w39) (w40) (w41) (w42) (w43) (w44) (w45) (w46) (w47) (w48) (w49) (w50) (w51) (w52) (w53) (w54) (w55) (w56) (w57) (w58) (w59) (w60) (w61) (w62) (w63) (w64) (w65) (w66) (w67) (w68) (w69) (w70) (w71) (w72) (w73) (w74) (w75) (w76) (w77) (w78) (w79) (w80) (w81) (w82) (w83) (w84) (w85) (w86) (w87) (w88) (w89) (w90) (w91) (w92) (w93)) (cwV 1 hts gc_X12_scan__X12_byteAt rfl rfl rfl (by decide +kernel) ⟨Nat.le_of_ble_eq_true rfl, Nat.le_of_ble_eq_true rfl⟩) ⟨fun a U g mk q => by obtain ⟨q0, q1, qP, qK, qD⟩ := q; exact ⟨q0, q1, qP, va_K.moved (u := U) (U := U.calling g mk a) (Vm.Alike.refl U.vm) qK, qD⟩, va_recv hKc hPc (ci := 12) (q0 := 0) rfl rfl, fun U hU hW => ⟨rfl, by rw [hU], by rw [hU]; exact hPc, va_K.moved hW.alike hKc, hDc.weaken (fun _ _ _ _ => trivial)⟩⟩ rfl rfl hl.1 rfl (lv_room (Nat.le_of_ble_eq_true rfl)) dX12_scan_57 ⟨(show 0 + 0 ≤ 0 by omega), (show 0 + 0 ≤ 0 by omega)⟩) hS (fun q _ h => hFc q h) hFc (fun r2 u t H1 locs ht hvm hw hB hz1 hk1 hS => ?_)
  obtain ⟨hP1, hK1, hD1⟩ := hB
  rw [ht] at hP1
  have hK1 := va_K.moved hvm.symm hK1
  obtain ⟨hP, hD⟩ := va_join (wr := []) (w1 := [(h0, .inr (12, w0 :: w1 :: w2 :: w3 :: w4 :: w5 :: w6 :: w7 :: w8 :: w9 :: w10 :: w11 :: w12 :: w13 :: w14 :: w15 :: w16 :: w17 :: w18 :: w19 :: w20 :: w21 :: w22 :: w23 :: w24 :: w25 :: w26 :: w27 :: w28 :: w29 :: w30 :: w31 :: .int 0 :: .int 0 :: .int 0 :: .int 0 :: .int 0 :: .int 0 :: w38 :: w39 :: w40 :: w41 :: w42 :: w43 :: w44 :: w45 :: w46 :: w47 :: w48 :: w49 :: w50 :: w51 :: w52 :: w53 :: w54 :: w55 :: w56 :: w57 :: w58 :: w59 :: w60 :: w61 :: w62 :: w63 :: w64 :: w65 :: w66 :: w67 :: w68 :: w69 :: w70 :: w71 :: w72 :: w73 :: w74 :: w75 :: w76 :: w77 :: w78 :: w79 :: w80 :: w81 :: w82 :: w83 :: w84 :: w85 :: w86 :: w87 :: w88 :: w89 :: w90 :: w91 :: w92 :: w93 :: []))]) hP hD [0] [] rfl rfl (by decide) (by decide) hk1 hFc hP1 hD1
  have hK := (hK.sub (tys' := []) [] rfl).app hK1
  generalize H1 = H at hP hS ⊢
  have hP : va_P (dC, dI) vwCl [(h0, .inr (12, w0 :: w1 :: w2 :: w3 :: w4 :: w5 :: w6 :: w7 :: w8 :: w9 :: w10 :: w11 :: w12 :: w13 :: w14 :: w15 :: w16 :: w17 :: w18 :: w19 :: w20 :: w21 :: w22 :: w23 :: w24 :: w25 :: w26 :: w27 :: w28 :: w29 :: w30 :: w31 :: .int 0 :: .int 0 :: .int 0 :: .int 0 :: .int 0 :: .int 0 :: w38 :: w39 :: w40 :: w41 :: w42 :: w43 :: w44 :: w45 :: w46 :: w47 :: w48 :: w49 :: w50 :: w51 :: w52 :: w53 :: w54 :: w55 :: w56 :: w57 :: w58 :: w59 :: w60 :: w61 :: w62 :: w63 :: w64 :: w65 :: w66 :: w67 :: w68 :: w69 :: w70 :: w71 :: w72 :: w73 :: w74 :: w75 :: w76 :: w77 :: w78 :: w79 :: w80 :: w81 :: w82 :: w83 :: w84 :: w85 :: w86 :: w87 :: w88 :: w89 :: w90 :: w91 :: w92 :: w93 :: []))] H := hP
  have hD : va_D A [(h0, .inr (12, w0 :: w1 :: w2 :: w3 :: w4 :: w5 :: w6 :: w7 :: w8 :: w9 :: w10 :: w11 :: w12 :: w13 :: w14 :: w15 :: w16 :: w17 :: w18 :: w19 :: w20 :: w21 :: w22 :: w23 :: w24 :: w25 :: w26 :: w27 :: w28 :: w29 :: w30 :: w31 :: .int 0 :: .int 0 :: .int 0 :: .int 0 :: .int 0 :: .int 0 :: w38 :: w39 :: w40 :: w41 :: w42 :: w43 :: w44 :: w45 :: w46 :: w47 :: w48 :: w49 :: w50 :: w51 :: w52 :: w53 :: w54 :: w55 :: w56 :: w57 :: w58 :: w59 :: w60 :: w61 :: w62 :: w63 :: w64 :: w65 :: w66 :: w67 :: w68 :: w69 :: w70 :: w71 :: w72 :: w73 :: w74 :: w75 :: w76 :: w77 :: w78 :: w79 :: w80 :: w81 :: w82 :: w83 :: w84 :: w85 :: w86 :: w87 :: w88 :: w89 :: w90 :: w91 :: w92 :: w93 :: []))] := hD
  have hK : va_K (dC, dI) vwCl [] s := hK
  refine W.widen (k := 0) (n := 0) (by omega) (by omega) ?_
  subst hw
  refine lv_istore_n (lv' := [(1, .int (-1)), (0, .ref h0)]) hx hb dX12_scan_60 rfl hl (by decide) rfl (fun ls hl => ?_)
  refine lv_iload_n hx hb dX12_scan_61 rfl (lv_at hl 0 rfl) ?_
  refine lv_if_ge (tgt := 73) hx hb dX12_scan_62 (by decide) (fun c9 => absurd c9 (by decide)) (fun _ => ?_)
  refine lv_aload_n hx hb dX12_scan_65 rfl (lv_at hl 1 rfl) ?_
  refine lv_iconst (v := 0) hx hb dX12_scan_66 (by decide) ?_
  refine va_put (D := (dC, dI)) (ci := 12) (v := .int 0) (ty := .int) (C := RX12) (T := TX12) (N := 94) hx hb hts (by decide +kernel) tyX12 tyX12_ok nmX12 hown hK hP hD hS 0 rfl rfl 34 (by decide) (hts (.fieldLink RX12 159 "ProofBenchModel" "token" "I") (by decide +kernel)) (fun _ h9 => h9) rfl (by decide +kernel) rfl rfl (Nat.le_of_ble_eq_true rfl) dX12_scan_67 (fun H locs hP hD hS => ?_)
  have hP : va_P (dC, dI) vwCl [(h0, .inr (12, w0 :: w1 :: w2 :: w3 :: w4 :: w5 :: w6 :: w7 :: w8 :: w9 :: w10 :: w11 :: w12 :: w13 :: w14 :: w15 :: w16 :: w17 :: w18 :: w19 :: w20 :: w21 :: w22 :: w23 :: w24 :: w25 :: w26 :: w27 :: w28 :: w29 :: w30 :: w31 :: .int 0 :: .int 0 :: .int 0 :: .int 0 :: .int 0 :: .int 0 :: w38 :: w39 :: w40 :: w41 :: w42 :: w43 :: w44 :: w45 :: w46 :: w47 :: w48 :: w49 :: w50 :: w51 :: w52 :: w53 :: w54 :: w55 :: w56 :: w57 :: w58 :: w59 :: w60 :: w61 :: w62 :: w63 :: w64 :: w65 :: w66 :: w67 :: w68 :: w69 :: w70 :: w71 :: w72 :: w73 :: w74 :: w75 :: w76 :: w77 :: w78 :: w79 :: w80 :: w81 :: w82 :: w83 :: w84 :: w85 :: w86 :: w87 :: w88 :: w89 :: w90 :: w91 :: w92 :: w93 :: []))] H := hP
  have hD : va_D A [(h0, .inr (12, w0 :: w1 :: w2 :: w3 :: w4 :: w5 :: w6 :: w7 :: w8 :: w9 :: w10 :: w11 :: w12 :: w13 :: w14 :: w15 :: w16 :: w17 :: w18 :: w19 :: w20 :: w21 :: w22 :: w23 :: w24 :: w25 :: w26 :: w27 :: w28 :: w29 :: w30 :: w31 :: .int 0 :: .int 0 :: .int 0 :: .int 0 :: .int 0 :: .int 0 :: w38 :: w39 :: w40 :: w41 :: w42 :: w43 :: w44 :: w45 :: w46 :: w47 :: w48 :: w49 :: w50 :: w51 :: w52 :: w53 :: w54 :: w55 :: w56 :: w57 :: w58 :: w59 :: w60 :: w61 :: w62 :: w63 :: w64 :: w65 :: w66 :: w67 :: w68 :: w69 :: w70 :: w71 :: w72 :: w73 :: w74 :: w75 :: w76 :: w77 :: w78 :: w79 :: w80 :: w81 :: w82 :: w83 :: w84 :: w85 :: w86 :: w87 :: w88 :: w89 :: w90 :: w91 :: w92 :: w93 :: []))] := hD
  refine lv_goto (tgt := 248) hx hb dX12_scan_70 (by decide) ?_
  refine lv_aload_n hx hb dX12_scan_248 rfl (lv_at hl 1 rfl) ?_
  refine lv_aload_n hx hb dX12_scan_249 rfl (lv_at hl 1 rfl) ?_
  refine va_get (D := (dC, dI)) (ci := 12) (v := .int 0) (C := RX12) (T := TX12) (N := 94) hx hb hts (by decide +kernel) hown hK hP 0 rfl rfl 33 (by decide) (hts (.fieldLink RX12 147 "ProofBenchModel" "at" "I") (by decide +kernel)) (fun _ h9 => h9) rfl dX12_scan_250 ?_
  refine lv_aload_n hx hb dX12_scan_253 rfl (lv_at hl 1 rfl) ?_
  refine va_get (D := (dC, dI)) (ci := 12) (v := .int 0) (C := RX12) (T := TX12) (N := 94) hx hb hts (by decide +kernel) hown hK hP 0 rfl rfl 35 (by decide) (hts (.fieldLink RX12 153 "ProofBenchModel" "tokenAt" "I") (by decide +kernel)) (fun _ h9 => h9) rfl dX12_scan_254 ?_
  refine lv_isub hx hb dX12_scan_257 ?_
  refine lv_topi (fun z_1 e9 => ?_)
  obtain rfl : z_1 = 0 := by rw [e9]; decide
  refine va_put (D := (dC, dI)) (ci := 12) (v := .int 0) (ty := .int) (C := RX12) (T := TX12) (N := 94) hx hb hts (by decide +kernel) tyX12 tyX12_ok nmX12 hown hK hP hD hS 0 rfl rfl 36 (by decide) (hts (.fieldLink RX12 178 "ProofBenchModel" "tokenLong" "I") (by decide +kernel)) (fun _ h9 => h9) rfl (by decide +kernel) rfl rfl (Nat.le_of_ble_eq_true rfl) dX12_scan_258 (fun H locs hP hD hS => ?_)
  have hP : va_P (dC, dI) vwCl [(h0, .inr (12, w0 :: w1 :: w2 :: w3 :: w4 :: w5 :: w6 :: w7 :: w8 :: w9 :: w10 :: w11 :: w12 :: w13 :: w14 :: w15 :: w16 :: w17 :: w18 :: w19 :: w20 :: w21 :: w22 :: w23 :: w24 :: w25 :: w26 :: w27 :: w28 :: w29 :: w30 :: w31 :: .int 0 :: .int 0 :: .int 0 :: .int 0 :: .int 0 :: .int 0 :: w38 :: w39 :: w40 :: w41 :: w42 :: w43 :: w44 :: w45 :: w46 :: w47 :: w48 :: w49 :: w50 :: w51 :: w52 :: w53 :: w54 :: w55 :: w56 :: w57 :: w58 :: w59 :: w60 :: w61 :: w62 :: w63 :: w64 :: w65 :: w66 :: w67 :: w68 :: w69 :: w70 :: w71 :: w72 :: w73 :: w74 :: w75 :: w76 :: w77 :: w78 :: w79 :: w80 :: w81 :: w82 :: w83 :: w84 :: w85 :: w86 :: w87 :: w88 :: w89 :: w90 :: w91 :: w92 :: w93 :: []))] H := hP
  have hD : va_D A [(h0, .inr (12, w0 :: w1 :: w2 :: w3 :: w4 :: w5 :: w6 :: w7 :: w8 :: w9 :: w10 :: w11 :: w12 :: w13 :: w14 :: w15 :: w16 :: w17 :: w18 :: w19 :: w20 :: w21 :: w22 :: w23 :: w24 :: w25 :: w26 :: w27 :: w28 :: w29 :: w30 :: w31 :: .int 0 :: .int 0 :: .int 0 :: .int 0 :: .int 0 :: .int 0 :: w38 :: w39 :: w40 :: w41 :: w42 :: w43 :: w44 :: w45 :: w46 :: w47 :: w48 :: w49 :: w50 :: w51 :: w52 :: w53 :: w54 :: w55 :: w56 :: w57 :: w58 :: w59 :: w60 :: w61 :: w62 :: w63 :: w64 :: w65 :: w66 :: w67 :: w68 :: w69 :: w70 :: w71 :: w72 :: w73 :: w74 :: w75 :: w76 :: w77 :: w78 :: w79 :: w80 :: w81 :: w82 :: w83 :: w84 :: w85 :: w86 :: w87 :: w88 :: w89 :: w90 :: w91 :: w92 :: w93 :: []))] := hD
  have hP9 := hP.sub (ws' := [(h0, .inr (12, w0 :: w1 :: w2 :: w3 :: w4 :: w5 :: w6 :: w7 :: w8 :: w9 :: w10 :: w11 :: w12 :: w13 :: w14 :: w15 :: w16 :: w17 :: w18 :: w19 :: w20 :: w21 :: w22 :: w23 :: w24 :: w25 :: w26 :: w27 :: w28 :: w29 :: w30 :: w31 :: .int 0 :: .int 0 :: .int 0 :: .int 0 :: .int 0 :: .int 0 :: w38 :: w39 :: w40 :: w41 :: w42 :: w43 :: w44 :: w45 :: w46 :: w47 :: w48 :: w49 :: w50 :: w51 :: w52 :: w53 :: w54 :: w55 :: w56 :: w57 :: w58 :: w59 :: w60 :: w61 :: w62 :: w63 :: w64 :: w65 :: w66 :: w67 :: w68 :: w69 :: w70 :: w71 :: w72 :: w73 :: w74 :: w75 :: w76 :: w77 :: w78 :: w79 :: w80 :: w81 :: w82 :: w83 :: w84 :: w85 :: w86 :: w87 :: w88 :: w89 :: w90 :: w91 :: w92 :: w93 :: []))]) [0] rfl
  have hD9 := hD.sub (ws' := [(h0, .inr (12, w0 :: w1 :: w2 :: w3 :: w4 :: w5 :: w6 :: w7 :: w8 :: w9 :: w10 :: w11 :: w12 :: w13 :: w14 :: w15 :: w16 :: w17 :: w18 :: w19 :: w20 :: w21 :: w22 :: w23 :: w24 :: w25 :: w26 :: w27 :: w28 :: w29 :: w30 :: w31 :: .int 0 :: .int 0 :: .int 0 :: .int 0 :: .int 0 :: .int 0 :: w38 :: w39 :: w40 :: w41 :: w42 :: w43 :: w44 :: w45 :: w46 :: w47 :: w48 :: w49 :: w50 :: w51 :: w52 :: w53 :: w54 :: w55 :: w56 :: w57 :: w58 :: w59 :: w60 :: w61 :: w62 :: w63 :: w64 :: w65 :: w66 :: w67 :: w68 :: w69 :: w70 :: w71 :: w72 :: w73 :: w74 :: w75 :: w76 :: w77 :: w78 :: w79 :: w80 :: w81 :: w82 :: w83 :: w84 :: w85 :: w86 :: w87 :: w88 :: w89 :: w90 :: w91 :: w92 :: w93 :: []))]) [0] (by decide) rfl
  have hK9 := hK.sub (tys' := []) [] rfl
  refine W.widen (k := 0) (n := 0) (by omega) (by omega) ?_
  exact W.vret hx hb hr (fun t ht hW => ⟨⟨(), rfl, trivial, by rw [ht]; exact hP9, va_K.moved hW.alike hK9, hD9⟩, hS.F ht⟩) hS.2.2 dX12_scan_261
def wc_X12_run : List Cond := .code yX12_run cX12_run 2 (some .int) :: ([Cond.fieldLink RX12 527 "ProofBenchModel" "outs" "I", Cond.fieldLink RX12 604 "ProofBenchModel" "wrongAt" "I", Cond.fieldLink RX12 147 "ProofBenchModel" "at" "I", Cond.fieldLink RX12 159 "ProofBenchModel" "token" "I", Cond.fieldLink RX12 128 "ProofBenchModel" "taped" "I"] ++ wsX120 ++ wsV RX12 190 RX12 yX12_scan wc_X12_scan)
set_option maxRecDepth 20000 in
theorem gc_X12_run__X12_scan : GoodIn wc_X12_run (wsV RX12 190 RX12 yX12_scan wc_X12_scan) := goodIn_of _ (by decide +kernel)
set_option maxHeartbeats 1000000 in
set_option maxRecDepth 100000 in
/-- run() of an empty TAPE -/
theorem m_run (l : Launch) (dC : Nat → ClassId) (dI : Nat → Nat → Nat) (sz : Nat) (h0 : Nat) (w0 w1 w2 w3 w4 w5 w6 w7 w8 w9 w10 w11 w12 w13 w14 w15 w16 w17 w18 w19 w20 w21 w22 w23 w24 w25 w26 w27 w28 w29 w30 w31 w38 w39 w40 w41 w42 w43 w44 w45 w46 w47 w48 w49 w50 w51 w52 w53 w54 w55 w56 w57 w58 w59 w60 w61 w62 w63 w64 w65 w66 w67 w68 w69 w70 w71 w72 w73 w74 w75 w76 w77 w78 w79 w80 w81 w82 w83 w84 w85 w86 w87 w89 w90 w91 w93 : Value) : Met l yX12_run wc_X12_run ({ frames := 2, cells := 0, slots := 0, locals := 42 }) (va_Pc [.ref h0] (fun U => U.heap.size = sz ∧ va_P (dC, dI) vwCl [(h0, .inr (12, w0 :: w1 :: w2 :: w3 :: w4 :: w5 :: w6 :: w7 :: w8 :: w9 :: w10 :: w11 :: w12 :: w13 :: w14 :: w15 :: w16 :: w17 :: w18 :: w19 :: w20 :: w21 :: w22 :: w23 :: w24 :: w25 :: w26 :: w27 :: w28 :: w29 :: w30 :: w31 :: .int 0 :: .int 0 :: .int 0 :: .int 0 :: .int 0 :: .int 0 :: w38 :: w39 :: w40 :: w41 :: w42 :: w43 :: w44 :: w45 :: w46 :: w47 :: w48 :: w49 :: w50 :: w51 :: w52 :: w53 :: w54 :: w55 :: w56 :: w57 :: w58 :: w59 :: w60 :: w61 :: w62 :: w63 :: w64 :: w65 :: w66 :: w67 :: w68 :: w69 :: w70 :: w71 :: w72 :: w73 :: w74 :: w75 :: w76 :: w77 :: w78 :: w79 :: w80 :: w81 :: w82 :: w83 :: w84 :: w85 :: w86 :: w87 :: .int 0 :: w89 :: w90 :: w91 :: .int (-1) :: w93 :: []))] U.heap ∧ va_K (dC, dI) vwCl [] U ∧ va_D (fun _ => True) [(h0, .inr (12, w0 :: w1 :: w2 :: w3 :: w4 :: w5 :: w6 :: w7 :: w8 :: w9 :: w10 :: w11 :: w12 :: w13 :: w14 :: w15 :: w16 :: w17 :: w18 :: w19 :: w20 :: w21 :: w22 :: w23 :: w24 :: w25 :: w26 :: w27 :: w28 :: w29 :: w30 :: w31 :: .int 0 :: .int 0 :: .int 0 :: .int 0 :: .int 0 :: .int 0 :: w38 :: w39 :: w40 :: w41 :: w42 :: w43 :: w44 :: w45 :: w46 :: w47 :: w48 :: w49 :: w50 :: w51 :: w52 :: w53 :: w54 :: w55 :: w56 :: w57 :: w58 :: w59 :: w60 :: w61 :: w62 :: w63 :: w64 :: w65 :: w66 :: w67 :: w68 :: w69 :: w70 :: w71 :: w72 :: w73 :: w74 :: w75 :: w76 :: w77 :: w78 :: w79 :: w80 :: w81 :: w82 :: w83 :: w84 :: w85 :: w86 :: w87 :: .int 0 :: w89 :: w90 :: w91 :: .int (-1) :: w93 :: []))])) (va_Qi (fun (r : Int32) (_ : Unit) => r = 0) (fun _ t => va_P (dC, dI) vwCl [] t.heap ∧ va_K (dC, dI) vwCl [] t ∧ va_D (va_A [(h0, .inr (12, w0 :: w1 :: w2 :: w3 :: w4 :: w5 :: w6 :: w7 :: w8 :: w9 :: w10 :: w11 :: w12 :: w13 :: w14 :: w15 :: w16 :: w17 :: w18 :: w19 :: w20 :: w21 :: w22 :: w23 :: w24 :: w25 :: w26 :: w27 :: w28 :: w29 :: w30 :: w31 :: .int 0 :: .int 0 :: .int 0 :: .int 0 :: .int 0 :: .int 0 :: w38 :: w39 :: w40 :: w41 :: w42 :: w43 :: w44 :: w45 :: w46 :: w47 :: w48 :: w49 :: w50 :: w51 :: w52 :: w53 :: w54 :: w55 :: w56 :: w57 :: w58 :: w59 :: w60 :: w61 :: w62 :: w63 :: w64 :: w65 :: w66 :: w67 :: w68 :: w69 :: w70 :: w71 :: w72 :: w73 :: w74 :: w75 :: w76 :: w77 :: w78 :: w79 :: w80 :: w81 :: w82 :: w83 :: w84 :: w85 :: w86 :: w87 :: .int 0 :: w89 :: w90 :: w91 :: .int (-1) :: w93 :: []))] sz) []) (va_A [(h0, .inr (12, w0 :: w1 :: w2 :: w3 :: w4 :: w5 :: w6 :: w7 :: w8 :: w9 :: w10 :: w11 :: w12 :: w13 :: w14 :: w15 :: w16 :: w17 :: w18 :: w19 :: w20 :: w21 :: w22 :: w23 :: w24 :: w25 :: w26 :: w27 :: w28 :: w29 :: w30 :: w31 :: .int 0 :: .int 0 :: .int 0 :: .int 0 :: .int 0 :: .int 0 :: w38 :: w39 :: w40 :: w41 :: w42 :: w43 :: w44 :: w45 :: w46 :: w47 :: w48 :: w49 :: w50 :: w51 :: w52 :: w53 :: w54 :: w55 :: w56 :: w57 :: w58 :: w59 :: w60 :: w61 :: w62 :: w63 :: w64 :: w65 :: w66 :: w67 :: w68 :: w69 :: w70 :: w71 :: w72 :: w73 :: w74 :: w75 :: w76 :: w77 :: w78 :: w79 :: w80 :: w81 :: w82 :: w83 :: w84 :: w85 :: w86 :: w87 :: .int 0 :: w89 :: w90 :: w91 :: .int (-1) :: w93 :: []))] sz)) (0) (0) (va_A [(h0, .inr (12, w0 :: w1 :: w2 :: w3 :: w4 :: w5 :: w6 :: w7 :: w8 :: w9 :: w10 :: w11 :: w12 :: w13 :: w14 :: w15 :: w16 :: w17 :: w18 :: w19 :: w20 :: w21 :: w22 :: w23 :: w24 :: w25 :: w26 :: w27 :: w28 :: w29 :: w30 :: w31 :: .int 0 :: .int 0 :: .int 0 :: .int 0 :: .int 0 :: .int 0 :: w38 :: w39 :: w40 :: w41 :: w42 :: w43 :: w44 :: w45 :: w46 :: w47 :: w48 :: w49 :: w50 :: w51 :: w52 :: w53 :: w54 :: w55 :: w56 :: w57 :: w58 :: w59 :: w60 :: w61 :: w62 :: w63 :: w64 :: w65 :: w66 :: w67 :: w68 :: w69 :: w70 :: w71 :: w72 :: w73 :: w74 :: w75 :: w76 :: w77 :: w78 :: w79 :: w80 :: w81 :: w82 :: w83 :: w84 :: w85 :: w86 :: w87 :: .int 0 :: w89 :: w90 :: w91 :: .int (-1) :: w93 :: []))] sz) := by
  refine Met.ofW (cc := cX12_run) (maxL := 2) (ret := (some .int)) (by decide) rfl ?_
  intro p e s m args below meth c s₁ B hml hv
  obtain ⟨rfl, hsz, hP, hK, hD0⟩ := hv
  have hx := B.exec
  have hb := B.bytes
  have hr := B.returns
  have hts := atoms_spec (ws := wc_X12_run) B.pre
  have hown : s.vm.findClass RX12 = some m.cls := findClass_of_methodNamed B.named
  have hlocks := B.notSynchronized
  subst hsz
  have hD := hD0.self (sz := s.heap.size)
  generalize hAe : va_A [(h0, .inr (12, w0 :: w1 :: w2 :: w3 :: w4 :: w5 :: w6 :: w7 :: w8 :: w9 :: w10 :: w11 :: w12 :: w13 :: w14 :: w15 :: w16 :: w17 :: w18 :: w19 :: w20 :: w21 :: w22 :: w23 :: w24 :: w25 :: w26 :: w27 :: w28 :: w29 :: w30 :: w31 :: .int 0 :: .int 0 :: .int 0 :: .int 0 :: .int 0 :: .int 0 :: w38 :: w39 :: w40 :: w41 :: w42 :: w43 :: w44 :: w45 :: w46 :: w47 :: w48 :: w49 :: w50 :: w51 :: w52 :: w53 :: w54 :: w55 :: w56 :: w57 :: w58 :: w59 :: w60 :: w61 :: w62 :: w63 :: w64 :: w65 :: w66 :: w67 :: w68 :: w69 :: w70 :: w71 :: w72 :: w73 :: w74 :: w75 :: w76 :: w77 :: w78 :: w79 :: w80 :: w81 :: w82 :: w83 :: w84 :: w85 :: w86 :: w87 :: .int 0 :: w89 :: w90 :: w91 :: .int (-1) :: w93 :: []))] s.heap.size = A at hD ⊢
  have hA : ∀ q : Nat, s.heap.size ≤ q → A q := fun q h => by rw [← hAe]; exact Or.inr h
  have hS : va_S A s.heap s.heap [] := va_S.rf
  have hl := lv_entry ([.ref h0]) (n := 2) (Nat.le_of_ble_eq_true rfl)
  rw [lg_entry_eq]
  generalize (lg_sl ([.ref h0]) ++ List.replicate (2 - (lg_sl ([.ref h0])).length) Slot.unset).toArray = ls at hl ⊢
  have hl : lv_has ls 2 [(0, .ref h0)] := hl
  refine lv_aload_n hx hb dX12_run_0 rfl (lv_at hl 0 rfl) ?_
  refine lv_iconst (v := 0) hx hb dX12_run_1 (by decide) ?_
  refine va_put (D := (dC, dI)) (ci := 12) (v := .int 0) (ty := .int) (C := RX12) (T := TX12) (N := 94) hx hb hts (by decide +kernel) tyX12 tyX12_ok nmX12 hown hK hP hD hS 0 rfl rfl 88 (by decide) (hts (.fieldLink RX12 527 "ProofBenchModel" "outs" "I") (by decide +kernel)) (fun _ h9 => h9) rfl (by decide +kernel) rfl rfl (Nat.le_of_ble_eq_true rfl) dX12_run_2 (fun H locs hP hD hS => ?_)
  have hP : va_P (dC, dI) vwCl [(h0, .inr (12, w0 :: w1 :: w2 :: w3 :: w4 :: w5 :: w6 :: w7 :: w8 :: w9 :: w10 :: w11 :: w12 :: w13 :: w14 :: w15 :: w16 :: w17 :: w18 :: w19 :: w20 :: w21 :: w22 :: w23 :: w24 :: w25 :: w26 :: w27 :: w28 :: w29 :: w30 :: w31 :: .int 0 :: .int 0 :: .int 0 :: .int 0 :: .int 0 :: .int 0 :: w38 :: w39 :: w40 :: w41 :: w42 :: w43 :: w44 :: w45 :: w46 :: w47 :: w48 :: w49 :: w50 :: w51 :: w52 :: w53 :: w54 :: w55 :: w56 :: w57 :: w58 :: w59 :: w60 :: w61 :: w62 :: w63 :: w64 :: w65 :: w66 :: w67 :: w68 :: w69 :: w70 :: w71 :: w72 :: w73 :: w74 :: w75 :: w76 :: w77 :: w78 :: w79 :: w80 :: w81 :: w82 :: w83 :: w84 :: w85 :: w86 :: w87 :: .int 0 :: w89 :: w90 :: w91 :: .int (-1) :: w93 :: []))] H := hP
  have hD : va_D A [(h0, .inr (12, w0 :: w1 :: w2 :: w3 :: w4 :: w5 :: w6 :: w7 :: w8 :: w9 :: w10 :: w11 :: w12 :: w13 :: w14 :: w15 :: w16 :: w17 :: w18 :: w19 :: w20 :: w21 :: w22 :: w23 :: w24 :: w25 :: w26 :: w27 :: w28 :: w29 :: w30 :: w31 :: .int 0 :: .int 0 :: .int 0 :: .int 0 :: .int 0 :: .int 0 :: w38 :: w39 :: w40 :: w41 :: w42 :: w43 :: w44 :: w45 :: w46 :: w47 :: w48 :: w49 :: w50 :: w51 :: w52 :: w53 :: w54 :: w55 :: w56 :: w57 :: w58 :: w59 :: w60 :: w61 :: w62 :: w63 :: w64 :: w65 :: w66 :: w67 :: w68 :: w69 :: w70 :: w71 :: w72 :: w73 :: w74 :: w75 :: w76 :: w77 :: w78 :: w79 :: w80 :: w81 :: w82 :: w83 :: w84 :: w85 :: w86 :: w87 :: .int 0 :: w89 :: w90 :: w91 :: .int (-1) :: w93 :: []))] := hD
  refine lv_aload_n hx hb dX12_run_5 rfl (lv_at hl 0 rfl) ?_
  refine lv_iconst (v := -1) hx hb dX12_run_6 (by decide) ?_
  refine va_put (D := (dC, dI)) (ci := 12) (v := .int (-1)) (ty := .int) (C := RX12) (T := TX12) (N := 94) hx hb hts (by decide +kernel) tyX12 tyX12_ok nmX12 hown hK hP hD hS 0 rfl rfl 92 (by decide) (hts (.fieldLink RX12 604 "ProofBenchModel" "wrongAt" "I") (by decide +kernel)) (fun _ h9 => h9) rfl (by decide +kernel) rfl rfl (Nat.le_of_ble_eq_true rfl) dX12_run_7 (fun H locs hP hD hS => ?_)
  have hP : va_P (dC, dI) vwCl [(h0, .inr (12, w0 :: w1 :: w2 :: w3 :: w4 :: w5 :: w6 :: w7 :: w8 :: w9 :: w10 :: w11 :: w12 :: w13 :: w14 :: w15 :: w16 :: w17 :: w18 :: w19 :: w20 :: w21 :: w22 :: w23 :: w24 :: w25 :: w26 :: w27 :: w28 :: w29 :: w30 :: w31 :: .int 0 :: .int 0 :: .int 0 :: .int 0 :: .int 0 :: .int 0 :: w38 :: w39 :: w40 :: w41 :: w42 :: w43 :: w44 :: w45 :: w46 :: w47 :: w48 :: w49 :: w50 :: w51 :: w52 :: w53 :: w54 :: w55 :: w56 :: w57 :: w58 :: w59 :: w60 :: w61 :: w62 :: w63 :: w64 :: w65 :: w66 :: w67 :: w68 :: w69 :: w70 :: w71 :: w72 :: w73 :: w74 :: w75 :: w76 :: w77 :: w78 :: w79 :: w80 :: w81 :: w82 :: w83 :: w84 :: w85 :: w86 :: w87 :: .int 0 :: w89 :: w90 :: w91 :: .int (-1) :: w93 :: []))] H := hP
  have hD : va_D A [(h0, .inr (12, w0 :: w1 :: w2 :: w3 :: w4 :: w5 :: w6 :: w7 :: w8 :: w9 :: w10 :: w11 :: w12 :: w13 :: w14 :: w15 :: w16 :: w17 :: w18 :: w19 :: w20 :: w21 :: w22 :: w23 :: w24 :: w25 :: w26 :: w27 :: w28 :: w29 :: w30 :: w31 :: .int 0 :: .int 0 :: .int 0 :: .int 0 :: .int 0 :: .int 0 :: w38 :: w39 :: w40 :: w41 :: w42 :: w43 :: w44 :: w45 :: w46 :: w47 :: w48 :: w49 :: w50 :: w51 :: w52 :: w53 :: w54 :: w55 :: w56 :: w57 :: w58 :: w59 :: w60 :: w61 :: w62 :: w63 :: w64 :: w65 :: w66 :: w67 :: w68 :: w69 :: w70 :: w71 :: w72 :: w73 :: w74 :: w75 :: w76 :: w77 :: w78 :: w79 :: w80 :: w81 :: w82 :: w83 :: w84 :: w85 :: w86 :: w87 :: .int 0 :: w89 :: w90 :: w91 :: .int (-1) :: w93 :: []))] := hD
  refine lv_aload_n hx hb dX12_run_10 rfl (lv_at hl 0 rfl) ?_
  refine lv_iconst (v := 0) hx hb dX12_run_11 (by decide) ?_
  refine va_put (D := (dC, dI)) (ci := 12) (v := .int 0) (ty := .int) (C := RX12) (T := TX12) (N := 94) hx hb hts (by decide +kernel) tyX12 tyX12_ok nmX12 hown hK hP hD hS 0 rfl rfl 33 (by decide) (hts (.fieldLink RX12 147 "ProofBenchModel" "at" "I") (by decide +kernel)) (fun _ h9 => h9) rfl (by decide +kernel) rfl rfl (Nat.le_of_ble_eq_true rfl) dX12_run_12 (fun H locs hP hD hS => ?_)
  have hP : va_P (dC, dI) vwCl [(h0, .inr (12, w0 :: w1 :: w2 :: w3 :: w4 :: w5 :: w6 :: w7 :: w8 :: w9 :: w10 :: w11 :: w12 :: w13 :: w14 :: w15 :: w16 :: w17 :: w18 :: w19 :: w20 :: w21 :: w22 :: w23 :: w24 :: w25 :: w26 :: w27 :: w28 :: w29 :: w30 :: w31 :: .int 0 :: .int 0 :: .int 0 :: .int 0 :: .int 0 :: .int 0 :: w38 :: w39 :: w40 :: w41 :: w42 :: w43 :: w44 :: w45 :: w46 :: w47 :: w48 :: w49 :: w50 :: w51 :: w52 :: w53 :: w54 :: w55 :: w56 :: w57 :: w58 :: w59 :: w60 :: w61 :: w62 :: w63 :: w64 :: w65 :: w66 :: w67 :: w68 :: w69 :: w70 :: w71 :: w72 :: w73 :: w74 :: w75 :: w76 :: w77 :: w78 :: w79 :: w80 :: w81 :: w82 :: w83 :: w84 :: w85 :: w86 :: w87 :: .int 0 :: w89 :: w90 :: w91 :: .int (-1) :: w93 :: []))] H := hP
  have hD : va_D A [(h0, .inr (12, w0 :: w1 :: w2 :: w3 :: w4 :: w5 :: w6 :: w7 :: w8 :: w9 :: w10 :: w11 :: w12 :: w13 :: w14 :: w15 :: w16 :: w17 :: w18 :: w19 :: w20 :: w21 :: w22 :: w23 :: w24 :: w25 :: w26 :: w27 :: w28 :: w29 :: w30 :: w31 :: .int 0 :: .int 0 :: .int 0 :: .int 0 :: .int 0 :: .int 0 :: w38 :: w39 :: w40 :: w41 :: w42 :: w43 :: w44 :: w45 :: w46 :: w47 :: w48 :: w49 :: w50 :: w51 :: w52 :: w53 :: w54 :: w55 :: w56 :: w57 :: w58 :: w59 :: w60 :: w61 :: w62 :: w63 :: w64 :: w65 :: w66 :: w67 :: w68 :: w69 :: w70 :: w71 :: w72 :: w73 :: w74 :: w75 :: w76 :: w77 :: w78 :: w79 :: w80 :: w81 :: w82 :: w83 :: w84 :: w85 :: w86 :: w87 :: .int 0 :: w89 :: w90 :: w91 :: .int (-1) :: w93 :: []))] := hD
  refine lv_iconst (v := 0) hx hb dX12_run_15 (by decide) ?_
  refine lv_istore_n (lv' := [(1, .int 0), (0, .ref h0)]) hx hb dX12_run_16 rfl hl (by decide) rfl (fun ls hl => ?_)
  refine lv_aload_n hx hb dX12_run_17 rfl (lv_at hl 1 rfl) ?_
  have hPc := hP.sub (ws' := [(h0, .inr (12, w0 :: w1 :: w2 :: w3 :: w4 :: w5 :: w6 :: w7 :: w8 :: w9 :: w10 :: w11 :: w12 :: w13 :: w14 :: w15 :: w16 :: w17 :: w18 :: w19 :: w20 :: w21 :: w22 :: w23 :: w24 :: w25 :: w26 :: w27 :: w28 :: w29 :: w30 :: w31 :: .int 0 :: .int 0 :: .int 0 :: .int 0 :: .int 0 :: .int 0 :: w38 :: w39 :: w40 :: w41 :: w42 :: w43 :: w44 :: w45 :: w46 :: w47 :: w48 :: w49 :: w50 :: w51 :: w52 :: w53 :: w54 :: w55 :: w56 :: w57 :: w58 :: w59 :: w60 :: w61 :: w62 :: w63 :: w64 :: w65 :: w66 :: w67 :: w68 :: w69 :: w70 :: w71 :: w72 :: w73 :: w74 :: w75 :: w76 :: w77 :: w78 :: w79 :: w80 :: w81 :: w82 :: w83 :: w84 :: w85 :: w86 :: w87 :: .int 0 :: w89 :: w90 :: w91 :: .int (-1) :: w93 :: []))]) [0] rfl
  have hDc := hD.sub (ws' := [(h0, .inr (12, w0 :: w1 :: w2 :: w3 :: w4 :: w5 :: w6 :: w7 :: w8 :: w9 :: w10 :: w11 :: w12 :: w13 :: w14 :: w15 :: w16 :: w17 :: w18 :: w19 :: w20 :: w21 :: w22 :: w23 :: w24 :: w25 :: w26 :: w27 :: w28 :: w29 :: w30 :: w31 :: .int 0 :: .int 0 :: .int 0 :: .int 0 :: .int 0 :: .int 0 :: w38 :: w39 :: w40 :: w41 :: w42 :: w43 :: w44 :: w45 :: w46 :: w47 :: w48 :: w49 :: w50 :: w51 :: w52 :: w53 :: w54 :: w55 :: w56 :: w57 :: w58 :: w59 :: w60 :: w61 :: w62 :: w63 :: w64 :: w65 :: w66 :: w67 :: w68 :: w69 :: w70 :: w71 :: w72 :: w73 :: w74 :: w75 :: w76 :: w77 :: w78 :: w79 :: w80 :: w81 :: w82 :: w83 :: w84 :: w85 :: w86 :: w87 :: .int 0 :: w89 :: w90 :: w91 :: .int (-1) :: w93 :: []))]) [0] (by decide) rfl
  have hKc := hK.sub (tys' := []) [] rfl
  have hFc := va_free (wc := [(h0, .inr (12, w0 :: w1 :: w2 :: w3 :: w4 :: w5 :: w6 :: w7 :: w8 :: w9 :: w10 :: w11 :: w12 :: w13 :: w14 :: w15 :: w16 :: w17 :: w18 :: w19 :: w20 :: w21 :: w22 :: w23 :: w24 :: w25 :: w26 :: w27 :: w28 :: w29 :: w30 :: w31 :: .int 0 :: .int 0 :: .int 0 :: .int 0 :: .int 0 :: .int 0 :: w38 :: w39 :: w40 :: w41 :: w42 :: w43 :: w44 :: w45 :: w46 :: w47 :: w48 :: w49 :: w50 :: w51 :: w52 :: w53 :: w54 :: w55 :: w56 :: w57 :: w58 :: w59 :: w60 :: w61 :: w62 :: w63 :: w64 :: w65 :: w66 :: w67 :: w68 :: w69 :: w70 :: w71 :: w72 :: w73 :: w74 :: w75 :: w76 :: w77 :: w78 :: w79 :: w80 :: w81 :: w82 :: w83 :: w84 :: w85 :: w86 :: w87 :: .int 0 :: w89 :: w90 :: w91 :: .int (-1) :: w93 :: []))]) hD hS hA [0] rfl
  refine va_callv (va_runV (As := []) (rest := []) ⟨hx, hb, hml, hown, hts⟩ (m_scan l dC dI H.size h0 (w0) (w1) (w2) (w3) (w4) (w5) (w6) (w7) (w8) (w9) (w10) (w11) (w12) (w13) (w14) (w15) (w16) (w17) (w18) (w19) (w20) (w21) (w22) (w23) (w24) (w25) (w26) (w27) (w28) (w29) (w30) (w31) (w38) (w39) (w40) (w41) (w42) (w43) (w44) (w45) (w46) (w47) (w48) (w49) (w50) (w51) (w52) (w53) (w54) (w55) (w56) (w57) (w58) (w59) (w60) (w61) (w62) (w63) (w64) (w65) (w66) (w67) (w68) (w69) (w70) (w71) (w72) (w73) (w74) (w75) (w76) (w77) (w78) (w79) (w80) (w81) (w82) (w83) (w84) (w85) (w86) (w87) (.int 0) (w89) (w90) (w91) (.int (-1)) (w93)) (cwV 0 hts gc_X12_run__X12_scan rfl rfl rfl (by decide +kernel) ⟨Nat.le_of_ble_eq_true rfl, Nat.le_of_ble_eq_true rfl⟩) ⟨fun a U g mk q => by obtain ⟨q0, q1, qP, qK, qD⟩ := q; exact ⟨q0, q1, qP, va_K.moved (u := U) (U := U.calling g mk a) (Vm.Alike.refl U.vm) qK, qD⟩, va_recv hKc hPc (ci := 12) (q0 := 0) rfl rfl, fun U hU hW => ⟨rfl, by rw [hU], by rw [hU]; exact hPc, va_K.moved hW.alike hKc, hDc.weaken (fun _ _ _ _ => trivial)⟩⟩ rfl rfl hl.1 rfl (lv_room (Nat.le_of_ble_eq_true rfl)) dX12_run_18 ⟨(show 0 + 0 ≤ 0 by omega), (show 0 + 0 ≤ 0 by omega)⟩) hS (fun q _ h => hFc q h) hFc (fun u t H1 locs ht hvm hw hB hz1 hk1 hS => ?_)
  obtain ⟨hP1, hK1, hD1⟩ := hB
  rw [ht] at hP1
  have hK1 := va_K.moved hvm.symm hK1
  obtain ⟨hP, hD⟩ := va_join (wr := []) (w1 := [(h0, .inr (12, w0 :: w1 :: w2 :: w3 :: w4 :: w5 :: w6 :: w7 :: w8 :: w9 :: w10 :: w11 :: w12 :: w13 :: w14 :: w15 :: w16 :: w17 :: w18 :: w19 :: w20 :: w21 :: w22 :: w23 :: w24 :: w25 :: w26 :: w27 :: w28 :: w29 :: w30 :: w31 :: .int 0 :: .int 0 :: .int 0 :: .int 0 :: .int 0 :: .int 0 :: w38 :: w39 :: w40 :: w41 :: w42 :: w43 :: w44 :: w45 :: w46 :: w47 :: w48 :: w49 :: w50 :: w51 :: w52 :: w53 :: w54 :: w55 :: w56 :: w57 :: w58 :: w59 :: w60 :: w61 :: w62 :: w63 :: w64 :: w65 :: w66 :: w67 :: w68 :: w69 :: w70 :: w71 :: w72 :: w73 :: w74 :: w75 :: w76 :: w77 :: w78 :: w79 :: w80 :: w81 :: w82 :: w83 :: w84 :: w85 :: w86 :: w87 :: .int 0 :: w89 :: w90 :: w91 :: .int (-1) :: w93 :: []))]) hP hD [0] [] rfl rfl (by decide) (by decide) hk1 hFc hP1 hD1
  have hK := (hK.sub (tys' := []) [] rfl).app hK1
  generalize H1 = H at hP hS ⊢
  have hP : va_P (dC, dI) vwCl [(h0, .inr (12, w0 :: w1 :: w2 :: w3 :: w4 :: w5 :: w6 :: w7 :: w8 :: w9 :: w10 :: w11 :: w12 :: w13 :: w14 :: w15 :: w16 :: w17 :: w18 :: w19 :: w20 :: w21 :: w22 :: w23 :: w24 :: w25 :: w26 :: w27 :: w28 :: w29 :: w30 :: w31 :: .int 0 :: .int 0 :: .int 0 :: .int 0 :: .int 0 :: .int 0 :: w38 :: w39 :: w40 :: w41 :: w42 :: w43 :: w44 :: w45 :: w46 :: w47 :: w48 :: w49 :: w50 :: w51 :: w52 :: w53 :: w54 :: w55 :: w56 :: w57 :: w58 :: w59 :: w60 :: w61 :: w62 :: w63 :: w64 :: w65 :: w66 :: w67 :: w68 :: w69 :: w70 :: w71 :: w72 :: w73 :: w74 :: w75 :: w76 :: w77 :: w78 :: w79 :: w80 :: w81 :: w82 :: w83 :: w84 :: w85 :: w86 :: w87 :: .int 0 :: w89 :: w90 :: w91 :: .int (-1) :: w93 :: []))] H := hP
  have hD : va_D A [(h0, .inr (12, w0 :: w1 :: w2 :: w3 :: w4 :: w5 :: w6 :: w7 :: w8 :: w9 :: w10 :: w11 :: w12 :: w13 :: w14 :: w15 :: w16 :: w17 :: w18 :: w19 :: w20 :: w21 :: w22 :: w23 :: w24 :: w25 :: w26 :: w27 :: w28 :: w29 :: w30 :: w31 :: .int 0 :: .int 0 :: .int 0 :: .int 0 :: .int 0 :: .int 0 :: w38 :: w39 :: w40 :: w41 :: w42 :: w43 :: w44 :: w45 :: w46 :: w47 :: w48 :: w49 :: w50 :: w51 :: w52 :: w53 :: w54 :: w55 :: w56 :: w57 :: w58 :: w59 :: w60 :: w61 :: w62 :: w63 :: w64 :: w65 :: w66 :: w67 :: w68 :: w69 :: w70 :: w71 :: w72 :: w73 :: w74 :: w75 :: w76 :: w77 :: w78 :: w79 :: w80 :: w81 :: w82 :: w83 :: w84 :: w85 :: w86 :: w87 :: .int 0 :: w89 :: w90 :: w91 :: .int (-1) :: w93 :: []))] := hD
  have hK : va_K (dC, dI) vwCl [] s := hK
  refine W.widen (k := 0) (n := 0) (by omega) (by omega) ?_
  refine lv_aload_n hx hb dX12_run_21 rfl (lv_at hl 1 rfl) ?_
  refine va_get (D := (dC, dI)) (ci := 12) (v := .int 0) (C := RX12) (T := TX12) (N := 94) hx hb hts (by decide +kernel) hown hK hP 0 rfl rfl 34 (by decide) (hts (.fieldLink RX12 159 "ProofBenchModel" "token" "I") (by decide +kernel)) (fun _ h9 => h9) rfl dX12_run_22 ?_
  refine lv_if_eq (tgt := 67) hx hb dX12_run_25 (by decide) (fun _ => ?_) (fun c9 => absurd c9 (by decide))
  refine lv_aload_n hx hb dX12_run_67 rfl (lv_at hl 1 rfl) ?_
  refine lv_iconst (v := 0) hx hb dX12_run_68 (by decide) ?_
  refine va_put (D := (dC, dI)) (ci := 12) (v := .int 0) (ty := .int) (C := RX12) (T := TX12) (N := 94) hx hb hts (by decide +kernel) tyX12 tyX12_ok nmX12 hown hK hP hD hS 0 rfl rfl 32 (by decide) (hts (.fieldLink RX12 128 "ProofBenchModel" "taped" "I") (by decide +kernel)) (fun _ h9 => h9) rfl (by decide +kernel) rfl rfl (Nat.le_of_ble_eq_true rfl) dX12_run_69 (fun H locs hP hD hS => ?_)
  have hP : va_P (dC, dI) vwCl [(h0, .inr (12, w0 :: w1 :: w2 :: w3 :: w4 :: w5 :: w6 :: w7 :: w8 :: w9 :: w10 :: w11 :: w12 :: w13 :: w14 :: w15 :: w16 :: w17 :: w18 :: w19 :: w20 :: w21 :: w22 :: w23 :: w24 :: w25 :: w26 :: w27 :: w28 :: w29 :: w30 :: w31 :: .int 0 :: .int 0 :: .int 0 :: .int 0 :: .int 0 :: .int 0 :: w38 :: w39 :: w40 :: w41 :: w42 :: w43 :: w44 :: w45 :: w46 :: w47 :: w48 :: w49 :: w50 :: w51 :: w52 :: w53 :: w54 :: w55 :: w56 :: w57 :: w58 :: w59 :: w60 :: w61 :: w62 :: w63 :: w64 :: w65 :: w66 :: w67 :: w68 :: w69 :: w70 :: w71 :: w72 :: w73 :: w74 :: w75 :: w76 :: w77 :: w78 :: w79 :: w80 :: w81 :: w82 :: w83 :: w84 :: w85 :: w86 :: w87 :: .int 0 :: w89 :: w90 :: w91 :: .int (-1) :: w93 :: []))] H := hP
  have hD : va_D A [(h0, .inr (12, w0 :: w1 :: w2 :: w3 :: w4 :: w5 :: w6 :: w7 :: w8 :: w9 :: w10 :: w11 :: w12 :: w13 :: w14 :: w15 :: w16 :: w17 :: w18 :: w19 :: w20 :: w21 :: w22 :: w23 :: w24 :: w25 :: w26 :: w27 :: w28 :: w29 :: w30 :: w31 :: .int 0 :: .int 0 :: .int 0 :: .int 0 :: .int 0 :: .int 0 :: w38 :: w39 :: w40 :: w41 :: w42 :: w43 :: w44 :: w45 :: w46 :: w47 :: w48 :: w49 :: w50 :: w51 :: w52 :: w53 :: w54 :: w55 :: w56 :: w57 :: w58 :: w59 :: w60 :: w61 :: w62 :: w63 :: w64 :: w65 :: w66 :: w67 :: w68 :: w69 :: w70 :: w71 :: w72 :: w73 :: w74 :: w75 :: w76 :: w77 :: w78 :: w79 :: w80 :: w81 :: w82 :: w83 :: w84 :: w85 :: w86 :: w87 :: .int 0 :: w89 :: w90 :: w91 :: .int (-1) :: w93 :: []))] := hD
  refine lv_iload_n hx hb dX12_run_72 rfl (lv_at hl 0 rfl) ?_
  have hP9 := hP.sub (ws' := []) [] rfl
  have hD9 := hD.sub (ws' := []) [] (by decide) rfl
  have hK9 := hK.sub (tys' := []) [] rfl
  refine W.widen (k := 0) (n := 0) (by omega) (by omega) ?_
  exact W.iret (v := 0) hx hb hr (fun t ht hW => ⟨⟨0, (), rfl, rfl, by rw [ht]; exact hP9, va_K.moved hW.alike hK9, hD9⟩, hS.F ht⟩) hS.2.2 dX12_run_73
def wc_X12_feed : List Cond := .code yX12_feed cX12_feed 14 (some .int) :: ([Cond.fieldLink RX12 17 "ProofBenchModel" "tape" "[I", Cond.fieldLink RX12 128 "ProofBenchModel" "taped" "I", Cond.constantLong RX12 617 (255)] ++ wsX120)
set_option maxHeartbeats 1000000 in
set_option maxRecDepth 100000 in
theorem tl_feed {p : Program} {l : Launch} {e : Env} {s : State} {m : MethodId} {args : Array Value} {below : List Frame} {meth : Method} {c : Code} {Q : State → Prop} {dC : Nat → ClassId} {dI : Nat → Nat → Nat} {A : Nat → Prop} {h0 a31 : Nat} {c31 : ClassId} {xa xb xc xd xe : Int64} {w0 w1 w2 w3 w4 w5 w6 w7 w8 w9 w10 w11 w12 w13 w14 w15 w16 w17 w18 w19 w20 w21 w22 w23 w24 w25 w26 w27 w28 w29 w30 w33 w34 w35 w36 w37 w38 w39 w40 w41 w42 w43 w44 w45 w46 w47 w48 w49 w50 w51 w52 w53 w54 w55 w56 w57 w58 w59 w60 w61 w62 w63 w64 w65 w66 w67 w68 w69 w70 w71 w72 w73 w74 w75 w76 w77 w78 w79 w80 w81 w82 w83 w84 w85 w86 w87 w88 w89 w90 w91 w92 w93 : Value} (hx : p.tables.exec = Jvm.exec) (hb : c.code = cX12_feed) (hml : c.maxLocals = 14) (hown : s.vm.findClass RX12 = some m.cls) (hts : ∀ w ∈ wc_X12_feed, w.before args s = true) (hA : ∀ q : Nat, s.heap.size ≤ q → A q) (hK : va_K (dC, dI) vwCl [(c31, .int)] s) {k : Nat} (hk : k < 40) (hnext : ∀ (g : Nat → Int32) (H : Heap) (locs : List Loc) (ls : Array Slot), va_P (dC, dI) vwCl [(h0, .inr (12, w0 :: w1 :: w2 :: w3 :: w4 :: w5 :: w6 :: w7 :: w8 :: w9 :: w10 :: w11 :: w12 :: w13 :: w14 :: w15 :: w16 :: w17 :: w18 :: w19 :: w20 :: w21 :: w22 :: w23 :: w24 :: w25 :: w26 :: w27 :: w28 :: w29 :: w30 :: .ref a31 :: .int (nI (k + 1)) :: w33 :: w34 :: w35 :: w36 :: w37 :: w38 :: w39 :: w40 :: w41 :: w42 :: w43 :: w44 :: w45 :: w46 :: w47 :: w48 :: w49 :: w50 :: w51 :: w52 :: w53 :: w54 :: w55 :: w56 :: w57 :: w58 :: w59 :: w60 :: w61 :: w62 :: w63 :: w64 :: w65 :: w66 :: w67 :: w68 :: w69 :: w70 :: w71 :: w72 :: w73 :: w74 :: w75 :: w76 :: w77 :: w78 :: w79 :: w80 :: w81 :: w82 :: w83 :: w84 :: w85 :: w86 :: w87 :: w88 :: w89 :: w90 :: w91 :: w92 :: w93 :: [])), (a31, .inl (c31, 4000, .inl (g)))] H → va_D A [(h0, .inr (12, w0 :: w1 :: w2 :: w3 :: w4 :: w5 :: w6 :: w7 :: w8 :: w9 :: w10 :: w11 :: w12 :: w13 :: w14 :: w15 :: w16 :: w17 :: w18 :: w19 :: w20 :: w21 :: w22 :: w23 :: w24 :: w25 :: w26 :: w27 :: w28 :: w29 :: w30 :: .ref a31 :: .int (nI (k + 1)) :: w33 :: w34 :: w35 :: w36 :: w37 :: w38 :: w39 :: w40 :: w41 :: w42 :: w43 :: w44 :: w45 :: w46 :: w47 :: w48 :: w49 :: w50 :: w51 :: w52 :: w53 :: w54 :: w55 :: w56 :: w57 :: w58 :: w59 :: w60 :: w61 :: w62 :: w63 :: w64 :: w65 :: w66 :: w67 :: w68 :: w69 :: w70 :: w71 :: w72 :: w73 :: w74 :: w75 :: w76 :: w77 :: w78 :: w79 :: w80 :: w81 :: w82 :: w83 :: w84 :: w85 :: w86 :: w87 :: w88 :: w89 :: w90 :: w91 :: w92 :: w93 :: [])), (a31, .inl (c31, 4000, .inl (g)))] → va_S A s.heap H locs → lv_has ls 14 [(0, .ref h0), (1, .long xa), (3, .long xb), (5, .long xc), (7, .long xd), (9, .long xe), (11, .int (nI (k + 1)))] → W p l e ({ frames := 0, cells := 0, slots := 0, locals := 0 } : Room) s m args below meth c H locs 0 0 Q (F0 m 18 ls [])) : ∀ (x : Int64) (g : Nat → Int32) (H : Heap) (locs : List Loc) (ls : Array Slot), va_P (dC, dI) vwCl [(h0, .inr (12, w0 :: w1 :: w2 :: w3 :: w4 :: w5 :: w6 :: w7 :: w8 :: w9 :: w10 :: w11 :: w12 :: w13 :: w14 :: w15 :: w16 :: w17 :: w18 :: w19 :: w20 :: w21 :: w22 :: w23 :: w24 :: w25 :: w26 :: w27 :: w28 :: w29 :: w30 :: .ref a31 :: .int (nI k) :: w33 :: w34 :: w35 :: w36 :: w37 :: w38 :: w39 :: w40 :: w41 :: w42 :: w43 :: w44 :: w45 :: w46 :: w47 :: w48 :: w49 :: w50 :: w51 :: w52 :: w53 :: w54 :: w55 :: w56 :: w57 :: w58 :: w59 :: w60 :: w61 :: w62 :: w63 :: w64 :: w65 :: w66 :: w67 :: w68 :: w69 :: w70 :: w71 :: w72 :: w73 :: w74 :: w75 :: w76 :: w77 :: w78 :: w79 :: w80 :: w81 :: w82 :: w83 :: w84 :: w85 :: w86 :: w87 :: w88 :: w89 :: w90 :: w91 :: w92 :: w93 :: [])), (a31, .inl (c31, 4000, .inl (g)))] H → va_D A [(h0, .inr (12, w0 :: w1 :: w2 :: w3 :: w4 :: w5 :: w6 :: w7 :: w8 :: w9 :: w10 :: w11 :: w12 :: w13 :: w14 :: w15 :: w16 :: w17 :: w18 :: w19 :: w20 :: w21 :: w22 :: w23 :: w24 :: w25 :: w26 :: w27 :: w28 :: w29 :: w30 :: .ref a31 :: .int (nI k) :: w33 :: w34 :: w35 :: w36 :: w37 :: w38 :: w39 :: w40 :: w41 :: w42 :: w43 :: w44 :: w45 :: w46 :: w47 :: w48 :: w49 :: w50 :: w51 :: w52 :: w53 :: w54 :: w55 :: w56 :: w57 :: w58 :: w59 :: w60 :: w61 :: w62 :: w63 :: w64 :: w65 :: w66 :: w67 :: w68 :: w69 :: w70 :: w71 :: w72 :: w73 :: w74 :: w75 :: w76 :: w77 :: w78 :: w79 :: w80 :: w81 :: w82 :: w83 :: w84 :: w85 :: w86 :: w87 :: w88 :: w89 :: w90 :: w91 :: w92 :: w93 :: [])), (a31, .inl (c31, 4000, .inl (g)))] → va_S A s.heap H locs → lv_has ls 14 [(0, .ref h0), (1, .long xa), (3, .long xb), (5, .long xc), (7, .long xd), (9, .long xe), (11, .int (nI k))] → W p l e ({ frames := 0, cells := 0, slots := 0, locals := 0 } : Room) s m args below meth c H locs 0 0 Q (F0 m 73 ls [.long x]) := by
  intro x g H locs ls hP hD hS hl
  refine lv_lstore (lv' := [(12, .long x), (0, .ref h0), (1, .long xa), (3, .long xb), (5, .long xc), (7, .long xd), (9, .long xe), (11, .int (nI k))]) hx hb dX12_feed_73 hl (by decide) rfl (fun ls hl => ?_)
  refine lv_aload_n hx hb dX12_feed_75 rfl (lv_at hl 1 rfl) ?_
  refine va_get (D := (dC, dI)) (ci := 12) (v := .ref a31) (C := RX12) (T := TX12) (N := 94) hx hb hts (by decide +kernel) hown hK hP 0 rfl rfl 31 (by decide) (hts (.fieldLink RX12 17 "ProofBenchModel" "tape" "[I") (by decide +kernel)) (fun _ h9 => h9) rfl dX12_feed_76 ?_
  refine lv_aload_n hx hb dX12_feed_79 rfl (lv_at hl 1 rfl) ?_
  refine va_get (D := (dC, dI)) (ci := 12) (v := .int (nI k)) (C := RX12) (T := TX12) (N := 94) hx hb hts (by decide +kernel) hown hK hP 0 rfl rfl 32 (by decide) (hts (.fieldLink RX12 128 "ProofBenchModel" "taped" "I") (by decide +kernel)) (fun _ h9 => h9) rfl dX12_feed_80 ?_
  refine lv_lload hx hb dX12_feed_83 (lv_at hl 0 rfl) ?_
  refine lv_bipush (v := 56) hx hb dX12_feed_85 (by decide) ?_
  refine lv_bipush (v := 8) hx hb dX12_feed_87 (by decide) ?_
  refine lv_iload hx hb dX12_feed_89 (lv_at hl 7 rfl) ?_
  refine lv_bipush (v := 8) hx hb dX12_feed_91 (by decide) ?_
  refine lv_irem hx hb dX12_feed_93 (by decide) ?_
  refine lv_topi (fun r_1 er_1 => ?_)
  refine lv_imul hx hb dX12_feed_94 ?_
  refine lv_topi (fun r_2 er_2 => ?_)
  refine lv_isub hx hb dX12_feed_95 ?_
  refine lv_topi (fun r_3 er_3 => ?_)
  refine lv_lshr hx hb dX12_feed_96 rfl ?_
  refine lv_topl (fun y_4 ey_4 => ?_)
  refine lv_ldc2 hx hb hown (hts (.constantLong RX12 617 (255)) (by decide +kernel)) dX12_feed_97 ?_
  refine lv_land hx hb dX12_feed_100 ?_
  refine lv_topl (fun y_5 ey_5 => ?_)
  refine lv_l2i hx hb dX12_feed_101 rfl ?_
  refine lv_topi (fun r_6 er_6 => ?_)
  refine va_iast hx hb hK hP hD hS 1 0 rfl rfl (vp_in_nI (N := 4000) (by omega) (by decide)) dX12_feed_102 (fun H locs hP hD hS => ?_)
  obtain ⟨f_7, hP, hD⟩ : ∃ f9 : Nat → Int32, va_P (dC, dI) vwCl [(h0, .inr (12, w0 :: w1 :: w2 :: w3 :: w4 :: w5 :: w6 :: w7 :: w8 :: w9 :: w10 :: w11 :: w12 :: w13 :: w14 :: w15 :: w16 :: w17 :: w18 :: w19 :: w20 :: w21 :: w22 :: w23 :: w24 :: w25 :: w26 :: w27 :: w28 :: w29 :: w30 :: .ref a31 :: .int (nI k) :: w33 :: w34 :: w35 :: w36 :: w37 :: w38 :: w39 :: w40 :: w41 :: w42 :: w43 :: w44 :: w45 :: w46 :: w47 :: w48 :: w49 :: w50 :: w51 :: w52 :: w53 :: w54 :: w55 :: w56 :: w57 :: w58 :: w59 :: w60 :: w61 :: w62 :: w63 :: w64 :: w65 :: w66 :: w67 :: w68 :: w69 :: w70 :: w71 :: w72 :: w73 :: w74 :: w75 :: w76 :: w77 :: w78 :: w79 :: w80 :: w81 :: w82 :: w83 :: w84 :: w85 :: w86 :: w87 :: w88 :: w89 :: w90 :: w91 :: w92 :: w93 :: [])), (a31, .inl (c31, 4000, .inl (f9)))] H ∧ va_D A [(h0, .inr (12, w0 :: w1 :: w2 :: w3 :: w4 :: w5 :: w6 :: w7 :: w8 :: w9 :: w10 :: w11 :: w12 :: w13 :: w14 :: w15 :: w16 :: w17 :: w18 :: w19 :: w20 :: w21 :: w22 :: w23 :: w24 :: w25 :: w26 :: w27 :: w28 :: w29 :: w30 :: .ref a31 :: .int (nI k) :: w33 :: w34 :: w35 :: w36 :: w37 :: w38 :: w39 :: w40 :: w41 :: w42 :: w43 :: w44 :: w45 :: w46 :: w47 :: w48 :: w49 :: w50 :: w51 :: w52 :: w53 :: w54 :: w55 :: w56 :: w57 :: w58 :: w59 :: w60 :: w61 :: w62 :: w63 :: w64 :: w65 :: w66 :: w67 :: w68 :: w69 :: w70 :: w71 :: w72 :: w73 :: w74 :: w75 :: w76 :: w77 :: w78 :: w79 :: w80 :: w81 :: w82 :: w83 :: w84 :: w85 :: w86 :: w87 :: w88 :: w89 :: w90 :: w91 :: w92 :: w93 :: [])), (a31, .inl (c31, 4000, .inl (f9)))] := ⟨_, hP, hD⟩
  refine lv_aload_n hx hb dX12_feed_103 rfl (lv_at hl 1 rfl) ?_
  refine lv_dup hx hb dX12_feed_104 rfl ?_
  refine va_get (D := (dC, dI)) (ci := 12) (v := .int (nI k)) (C := RX12) (T := TX12) (N := 94) hx hb hts (by decide +kernel) hown hK hP 0 rfl rfl 32 (by decide) (hts (.fieldLink RX12 128 "ProofBenchModel" "taped" "I") (by decide +kernel)) (fun _ h9 => h9) rfl dX12_feed_105 ?_
  refine lv_iconst (v := 1) hx hb dX12_feed_108 (by decide) ?_
  refine lv_iadd hx hb dX12_feed_109 ?_
  refine lv_topi (fun z9 e9 => ?_)
  obtain rfl : z9 = nI (k + 1) := by rw [e9]; exact nI_1 k
  refine va_put (D := (dC, dI)) (ci := 12) (v := .int (nI (k + 1))) (ty := .int) (C := RX12) (T := TX12) (N := 94) hx hb hts (by decide +kernel) tyX12 tyX12_ok nmX12 hown hK hP hD hS 0 rfl rfl 32 (by decide) (hts (.fieldLink RX12 128 "ProofBenchModel" "taped" "I") (by decide +kernel)) (fun _ h9 => h9) rfl (by decide +kernel) rfl rfl (Nat.le_of_ble_eq_true rfl) dX12_feed_110 (fun H locs hP hD hS => ?_)
  have hP : va_P (dC, dI) vwCl [(h0, .inr (12, w0 :: w1 :: w2 :: w3 :: w4 :: w5 :: w6 :: w7 :: w8 :: w9 :: w10 :: w11 :: w12 :: w13 :: w14 :: w15 :: w16 :: w17 :: w18 :: w19 :: w20 :: w21 :: w22 :: w23 :: w24 :: w25 :: w26 :: w27 :: w28 :: w29 :: w30 :: .ref a31 :: .int (nI (k + 1)) :: w33 :: w34 :: w35 :: w36 :: w37 :: w38 :: w39 :: w40 :: w41 :: w42 :: w43 :: w44 :: w45 :: w46 :: w47 :: w48 :: w49 :: w50 :: w51 :: w52 :: w53 :: w54 :: w55 :: w56 :: w57 :: w58 :: w59 :: w60 :: w61 :: w62 :: w63 :: w64 :: w65 :: w66 :: w67 :: w68 :: w69 :: w70 :: w71 :: w72 :: w73 :: w74 :: w75 :: w76 :: w77 :: w78 :: w79 :: w80 :: w81 :: w82 :: w83 :: w84 :: w85 :: w86 :: w87 :: w88 :: w89 :: w90 :: w91 :: w92 :: w93 :: [])), (a31, .inl (c31, 4000, .inl (f_7)))] H := hP
  have hD : va_D A [(h0, .inr (12, w0 :: w1 :: w2 :: w3 :: w4 :: w5 :: w6 :: w7 :: w8 :: w9 :: w10 :: w11 :: w12 :: w13 :: w14 :: w15 :: w16 :: w17 :: w18 :: w19 :: w20 :: w21 :: w22 :: w23 :: w24 :: w25 :: w26 :: w27 :: w28 :: w29 :: w30 :: .ref a31 :: .int (nI (k + 1)) :: w33 :: w34 :: w35 :: w36 :: w37 :: w38 :: w39 :: w40 :: w41 :: w42 :: w43 :: w44 :: w45 :: w46 :: w47 :: w48 :: w49 :: w50 :: w51 :: w52 :: w53 :: w54 :: w55 :: w56 :: w57 :: w58 :: w59 :: w60 :: w61 :: w62 :: w63 :: w64 :: w65 :: w66 :: w67 :: w68 :: w69 :: w70 :: w71 :: w72 :: w73 :: w74 :: w75 :: w76 :: w77 :: w78 :: w79 :: w80 :: w81 :: w82 :: w83 :: w84 :: w85 :: w86 :: w87 :: w88 :: w89 :: w90 :: w91 :: w92 :: w93 :: [])), (a31, .inl (c31, 4000, .inl (f_7)))] := hD
  refine lv_iinc (v := nI (k + 1)) (lv' := [(11, .int (nI (k + 1))), (12, .long x), (0, .ref h0), (1, .long xa), (3, .long xb), (5, .long xc), (7, .long xd), (9, .long xe)]) hx hb dX12_feed_113 hl (k := 7) rfl (by rw [← nI_1]; rfl) (by decide) rfl (fun ls hl => ?_)
  refine lv_goto (tgt := 18) hx hb dX12_feed_116 (by decide) ?_
  exact hnext _ _ _ ls hP hD hS (lv_sub hl [2, 3, 4, 5, 6, 7, 0] rfl)
set_option maxHeartbeats 1000000 in
set_option maxRecDepth 100000 in
theorem lp_feed {p : Program} {l : Launch} {e : Env} {s : State} {m : MethodId} {args : Array Value} {below : List Frame} {meth : Method} {c : Code} {Q : State → Prop} {dC : Nat → ClassId} {dI : Nat → Nat → Nat} {A : Nat → Prop} {h0 a31 : Nat} {c31 : ClassId} {xa xb xc xd xe : Int64} {w0 w1 w2 w3 w4 w5 w6 w7 w8 w9 w10 w11 w12 w13 w14 w15 w16 w17 w18 w19 w20 w21 w22 w23 w24 w25 w26 w27 w28 w29 w30 w33 w34 w35 w36 w37 w38 w39 w40 w41 w42 w43 w44 w45 w46 w47 w48 w49 w50 w51 w52 w53 w54 w55 w56 w57 w58 w59 w60 w61 w62 w63 w64 w65 w66 w67 w68 w69 w70 w71 w72 w73 w74 w75 w76 w77 w78 w79 w80 w81 w82 w83 w84 w85 w86 w87 w88 w89 w90 w91 w92 w93 : Value} (hx : p.tables.exec = Jvm.exec) (hb : c.code = cX12_feed) (hml : c.maxLocals = 14) (hown : s.vm.findClass RX12 = some m.cls) (hts : ∀ w ∈ wc_X12_feed, w.before args s = true) (hA : ∀ q : Nat, s.heap.size ≤ q → A q) (hK : va_K (dC, dI) vwCl [(c31, .int)] s) (hexit : ∀ (g : Nat → Int32) (H : Heap) (locs : List Loc) (ls : Array Slot), va_P (dC, dI) vwCl [(h0, .inr (12, w0 :: w1 :: w2 :: w3 :: w4 :: w5 :: w6 :: w7 :: w8 :: w9 :: w10 :: w11 :: w12 :: w13 :: w14 :: w15 :: w16 :: w17 :: w18 :: w19 :: w20 :: w21 :: w22 :: w23 :: w24 :: w25 :: w26 :: w27 :: w28 :: w29 :: w30 :: .ref a31 :: .int (nI 40) :: w33 :: w34 :: w35 :: w36 :: w37 :: w38 :: w39 :: w40 :: w41 :: w42 :: w43 :: w44 :: w45 :: w46 :: w47 :: w48 :: w49 :: w50 :: w51 :: w52 :: w53 :: w54 :: w55 :: w56 :: w57 :: w58 :: w59 :: w60 :: w61 :: w62 :: w63 :: w64 :: w65 :: w66 :: w67 :: w68 :: w69 :: w70 :: w71 :: w72 :: w73 :: w74 :: w75 :: w76 :: w77 :: w78 :: w79 :: w80 :: w81 :: w82 :: w83 :: w84 :: w85 :: w86 :: w87 :: w88 :: w89 :: w90 :: w91 :: w92 :: w93 :: [])), (a31, .inl (c31, 4000, .inl (g)))] H → va_D A [(h0, .inr (12, w0 :: w1 :: w2 :: w3 :: w4 :: w5 :: w6 :: w7 :: w8 :: w9 :: w10 :: w11 :: w12 :: w13 :: w14 :: w15 :: w16 :: w17 :: w18 :: w19 :: w20 :: w21 :: w22 :: w23 :: w24 :: w25 :: w26 :: w27 :: w28 :: w29 :: w30 :: .ref a31 :: .int (nI 40) :: w33 :: w34 :: w35 :: w36 :: w37 :: w38 :: w39 :: w40 :: w41 :: w42 :: w43 :: w44 :: w45 :: w46 :: w47 :: w48 :: w49 :: w50 :: w51 :: w52 :: w53 :: w54 :: w55 :: w56 :: w57 :: w58 :: w59 :: w60 :: w61 :: w62 :: w63 :: w64 :: w65 :: w66 :: w67 :: w68 :: w69 :: w70 :: w71 :: w72 :: w73 :: w74 :: w75 :: w76 :: w77 :: w78 :: w79 :: w80 :: w81 :: w82 :: w83 :: w84 :: w85 :: w86 :: w87 :: w88 :: w89 :: w90 :: w91 :: w92 :: w93 :: [])), (a31, .inl (c31, 4000, .inl (g)))] → va_S A s.heap H locs → lv_has ls 14 [(0, .ref h0), (1, .long xa), (3, .long xb), (5, .long xc), (7, .long xd), (9, .long xe), (11, .int (nI 40))] → W p l e ({ frames := 0, cells := 0, slots := 0, locals := 0 } : Room) s m args below meth c H locs 0 0 Q (F0 m 119 ls [])) : ∀ (d k : Nat), 40 = k + d → ∀ (g : Nat → Int32) (H : Heap) (locs : List Loc) (ls : Array Slot), va_P (dC, dI) vwCl [(h0, .inr (12, w0 :: w1 :: w2 :: w3 :: w4 :: w5 :: w6 :: w7 :: w8 :: w9 :: w10 :: w11 :: w12 :: w13 :: w14 :: w15 :: w16 :: w17 :: w18 :: w19 :: w20 :: w21 :: w22 :: w23 :: w24 :: w25 :: w26 :: w27 :: w28 :: w29 :: w30 :: .ref a31 :: .int (nI k) :: w33 :: w34 :: w35 :: w36 :: w37 :: w38 :: w39 :: w40 :: w41 :: w42 :: w43 :: w44 :: w45 :: w46 :: w47 :: w48 :: w49 :: w50 :: w51 :: w52 :: w53 :: w54 :: w55 :: w56 :: w57 :: w58 :: w59 :: w60 :: w61 :: w62 :: w63 :: w64 :: w65 :: w66 :: w67 :: w68 :: w69 :: w70 :: w71 :: w72 :: w73 :: w74 :: w75 :: w76 :: w77 :: w78 :: w79 :: w80 :: w81 :: w82 :: w83 :: w84 :: w85 :: w86 :: w87 :: w88 :: w89 :: w90 :: w91 :: w92 :: w93 :: [])), (a31, .inl (c31, 4000, .inl (g)))] H → va_D A [(h0, .inr (12, w0 :: w1 :: w2 :: w3 :: w4 :: w5 :: w6 :: w7 :: w8 :: w9 :: w10 :: w11 :: w12 :: w13 :: w14 :: w15 :: w16 :: w17 :: w18 :: w19 :: w20 :: w21 :: w22 :: w23 :: w24 :: w25 :: w26 :: w27 :: w28 :: w29 :: w30 :: .ref a31 :: .int (nI k) :: w33 :: w34 :: w35 :: w36 :: w37 :: w38 :: w39 :: w40 :: w41 :: w42 :: w43 :: w44 :: w45 :: w46 :: w47 :: w48 :: w49 :: w50 :: w51 :: w52 :: w53 :: w54 :: w55 :: w56 :: w57 :: w58 :: w59 :: w60 :: w61 :: w62 :: w63 :: w64 :: w65 :: w66 :: w67 :: w68 :: w69 :: w70 :: w71 :: w72 :: w73 :: w74 :: w75 :: w76 :: w77 :: w78 :: w79 :: w80 :: w81 :: w82 :: w83 :: w84 :: w85 :: w86 :: w87 :: w88 :: w89 :: w90 :: w91 :: w92 :: w93 :: [])), (a31, .inl (c31, 4000, .inl (g)))] → va_S A s.heap H locs → lv_has ls 14 [(0, .ref h0), (1, .long xa), (3, .long xb), (5, .long xc), (7, .long xd), (9, .long xe), (11, .int (nI k))] → W p l e ({ frames := 0, cells := 0, slots := 0, locals := 0 } : Room) s m args below meth c H locs 0 0 Q (F0 m 18 ls []) := by
  intro d
  induction d with
  | zero =>
    intro k hk g H locs ls hP hD hS hl
    refine lv_iload hx hb dX12_feed_18 (lv_at hl 6 rfl) ?_
    refine lv_bipush (v := 40) hx hb dX12_feed_20 (by decide) ?_
    obtain rfl : k = 40 := by omega
    refine lv_icmp_ge (tgt := 119) hx hb dX12_feed_22 (by decide) (fun c9 => ?_) (fun c9 => absurd (show (40 : Int32) ≤ nI 40 from by decide) c9)
    exact hexit g _ _ ls hP hD hS hl
  | succ d ih =>
    intro k hk g H locs ls hP hD hS hl
    refine lv_iload hx hb dX12_feed_18 (lv_at hl 6 rfl) ?_
    refine lv_bipush (v := 40) hx hb dX12_feed_20 (by decide) ?_
    refine lv_icmp_ge (tgt := 119) hx hb dX12_feed_22 (by decide) (fun c9 => absurd c9 (show ¬ (40 : Int32) ≤ nI k from nI_ge (b := 40) (by omega) (by decide))) (fun c9 => ?_)
    have hnext := ih (k + 1) (by omega)
    refine lv_iload hx hb dX12_feed_25 (lv_at hl 6 rfl) ?_
    refine lv_bipush (v := 8) hx hb dX12_feed_27 (by decide) ?_
    refine lv_icmp_ge (tgt := 36) hx hb dX12_feed_29 (by decide) (fun c9 => ?_) (fun c9 => ?_)
    rotate_left
    · skip
      refine lv_lload_n hx hb dX12_feed_32 rfl (lv_at hl 1 rfl) ?_
      refine lv_goto (tgt := 73) hx hb dX12_feed_33 (by decide) ?_
      exact tl_feed hx hb hml hown hts hA hK (by omega) (fun g H locs ls => hnext g H locs ls) _ _ _ _ ls hP hD hS hl
    refine lv_iload hx hb dX12_feed_36 (lv_at hl 6 rfl) ?_
    refine lv_bipush (v := 16) hx hb dX12_feed_38 (by decide) ?_
    refine lv_icmp_ge (tgt := 47) hx hb dX12_feed_40 (by decide) (fun c9 => ?_) (fun c9 => ?_)
    rotate_left
    · skip
      refine lv_lload_n hx hb dX12_feed_43 rfl (lv_at hl 2 rfl) ?_
      refine lv_goto (tgt := 73) hx hb dX12_feed_44 (by decide) ?_
      exact tl_feed hx hb hml hown hts hA hK (by omega) (fun g H locs ls => hnext g H locs ls) _ _ _ _ ls hP hD hS hl
    refine lv_iload hx hb dX12_feed_47 (lv_at hl 6 rfl) ?_
    refine lv_bipush (v := 24) hx hb dX12_feed_49 (by decide) ?_
    refine lv_icmp_ge (tgt := 59) hx hb dX12_feed_51 (by decide) (fun c9 => ?_) (fun c9 => ?_)
    rotate_left
    · skip
      refine lv_lload hx hb dX12_feed_54 (lv_at hl 3 rfl) ?_
      refine lv_goto (tgt := 73) hx hb dX12_feed_56 (by decide) ?_
      exact tl_feed hx hb hml hown hts hA hK (by omega) (fun g H locs ls => hnext g H locs ls) _ _ _ _ ls hP hD hS hl
    refine lv_iload hx hb dX12_feed_59 (lv_at hl 6 rfl) ?_
    refine lv_bipush (v := 32) hx hb dX12_feed_61 (by decide) ?_
    refine lv_icmp_ge (tgt := 71) hx hb dX12_feed_63 (by decide) (fun c9 => ?_) (fun c9 => ?_)
    rotate_left
    · skip
      refine lv_lload hx hb dX12_feed_66 (lv_at hl 4 rfl) ?_
      refine lv_goto (tgt := 73) hx hb dX12_feed_68 (by decide) ?_
      exact tl_feed hx hb hml hown hts hA hK (by omega) (fun g H locs ls => hnext g H locs ls) _ _ _ _ ls hP hD hS hl
    refine lv_lload hx hb dX12_feed_71 (lv_at hl 5 rfl) ?_
    exact tl_feed hx hb hml hown hts hA hK (by omega) (fun g H locs ls => hnext g H locs ls) _ _ _ _ ls hP hD hS hl
set_option maxHeartbeats 1000000 in
set_option maxRecDepth 100000 in
/-- feed on a fresh object: 40 -/
theorem m_feed (l : Launch) (dC : Nat → ClassId) (dI : Nat → Nat → Nat) (sz : Nat) (h0 a31 : Nat) (c31 : ClassId) (g31 : Nat → Int32) (xa xb xc xd xe : Int64) (w0 w1 w2 w3 w4 w5 w6 w7 w8 w9 w10 w11 w12 w13 w14 w15 w16 w17 w18 w19 w20 w21 w22 w23 w24 w25 w26 w27 w28 w29 w30 w33 w34 w35 w36 w37 w38 w39 w40 w41 w42 w43 w44 w45 w46 w47 w48 w49 w50 w51 w52 w53 w54 w55 w56 w57 w58 w59 w60 w61 w62 w63 w64 w65 w66 w67 w68 w69 w70 w71 w72 w73 w74 w75 w76 w77 w78 w79 w80 w81 w82 w83 w84 w85 w86 w87 w88 w89 w90 w91 w92 w93 : Value) : Met l yX12_feed wc_X12_feed ({ frames := 0, cells := 0, slots := 0, locals := 0 }) (va_Pc [.ref h0, .long xa, .long xb, .long xc, .long xd, .long xe] (fun U => U.heap.size = sz ∧ va_P (dC, dI) vwCl [(h0, .inr (12, w0 :: w1 :: w2 :: w3 :: w4 :: w5 :: w6 :: w7 :: w8 :: w9 :: w10 :: w11 :: w12 :: w13 :: w14 :: w15 :: w16 :: w17 :: w18 :: w19 :: w20 :: w21 :: w22 :: w23 :: w24 :: w25 :: w26 :: w27 :: w28 :: w29 :: w30 :: .ref a31 :: .int 0 :: w33 :: w34 :: w35 :: w36 :: w37 :: w38 :: w39 :: w40 :: w41 :: w42 :: w43 :: w44 :: w45 :: w46 :: w47 :: w48 :: w49 :: w50 :: w51 :: w52 :: w53 :: w54 :: w55 :: w56 :: w57 :: w58 :: w59 :: w60 :: w61 :: w62 :: w63 :: w64 :: w65 :: w66 :: w67 :: w68 :: w69 :: w70 :: w71 :: w72 :: w73 :: w74 :: w75 :: w76 :: w77 :: w78 :: w79 :: w80 :: w81 :: w82 :: w83 :: w84 :: w85 :: w86 :: w87 :: w88 :: w89 :: w90 :: w91 :: w92 :: w93 :: [])), (a31, .inl (c31, 4000, .inl (g31)))] U.heap ∧ va_K (dC, dI) vwCl [(c31, .int)] U ∧ va_D (fun _ => True) [(h0, .inr (12, w0 :: w1 :: w2 :: w3 :: w4 :: w5 :: w6 :: w7 :: w8 :: w9 :: w10 :: w11 :: w12 :: w13 :: w14 :: w15 :: w16 :: w17 :: w18 :: w19 :: w20 :: w21 :: w22 :: w23 :: w24 :: w25 :: w26 :: w27 :: w28 :: w29 :: w30 :: .ref a31 :: .int 0 :: w33 :: w34 :: w35 :: w36 :: w37 :: w38 :: w39 :: w40 :: w41 :: w42 :: w43 :: w44 :: w45 :: w46 :: w47 :: w48 :: w49 :: w50 :: w51 :: w52 :: w53 :: w54 :: w55 :: w56 :: w57 :: w58 :: w59 :: w60 :: w61 :: w62 :: w63 :: w64 :: w65 :: w66 :: w67 :: w68 :: w69 :: w70 :: w71 :: w72 :: w73 :: w74 :: w75 :: w76 :: w77 :: w78 :: w79 :: w80 :: w81 :: w82 :: w83 :: w84 :: w85 :: w86 :: w87 :: w88 :: w89 :: w90 :: w91 :: w92 :: w93 :: [])), (a31, .inl (c31, 4000, .inl (g31)))])) (va_Qi (fun (r : Int32) (_ : Unit) => r = 40) (fun _ t => va_P (dC, dI) vwCl [] t.heap ∧ va_K (dC, dI) vwCl [] t ∧ va_D (va_A [(h0, .inr (12, w0 :: w1 :: w2 :: w3 :: w4 :: w5 :: w6 :: w7 :: w8 :: w9 :: w10 :: w11 :: w12 :: w13 :: w14 :: w15 :: w16 :: w17 :: w18 :: w19 :: w20 :: w21 :: w22 :: w23 :: w24 :: w25 :: w26 :: w27 :: w28 :: w29 :: w30 :: .ref a31 :: .int 0 :: w33 :: w34 :: w35 :: w36 :: w37 :: w38 :: w39 :: w40 :: w41 :: w42 :: w43 :: w44 :: w45 :: w46 :: w47 :: w48 :: w49 :: w50 :: w51 :: w52 :: w53 :: w54 :: w55 :: w56 :: w57 :: w58 :: w59 :: w60 :: w61 :: w62 :: w63 :: w64 :: w65 :: w66 :: w67 :: w68 :: w69 :: w70 :: w71 :: w72 :: w73 :: w74 :: w75 :: w76 :: w77 :: w78 :: w79 :: w80 :: w81 :: w82 :: w83 :: w84 :: w85 :: w86 :: w87 :: w88 :: w89 :: w90 :: w91 :: w92 :: w93 :: [])), (a31, .inl (c31, 4000, .inl (g31)))] sz) []) (va_A [(h0, .inr (12, w0 :: w1 :: w2 :: w3 :: w4 :: w5 :: w6 :: w7 :: w8 :: w9 :: w10 :: w11 :: w12 :: w13 :: w14 :: w15 :: w16 :: w17 :: w18 :: w19 :: w20 :: w21 :: w22 :: w23 :: w24 :: w25 :: w26 :: w27 :: w28 :: w29 :: w30 :: .ref a31 :: .int 0 :: w33 :: w34 :: w35 :: w36 :: w37 :: w38 :: w39 :: w40 :: w41 :: w42 :: w43 :: w44 :: w45 :: w46 :: w47 :: w48 :: w49 :: w50 :: w51 :: w52 :: w53 :: w54 :: w55 :: w56 :: w57 :: w58 :: w59 :: w60 :: w61 :: w62 :: w63 :: w64 :: w65 :: w66 :: w67 :: w68 :: w69 :: w70 :: w71 :: w72 :: w73 :: w74 :: w75 :: w76 :: w77 :: w78 :: w79 :: w80 :: w81 :: w82 :: w83 :: w84 :: w85 :: w86 :: w87 :: w88 :: w89 :: w90 :: w91 :: w92 :: w93 :: [])), (a31, .inl (c31, 4000, .inl (g31)))] sz)) (0) (0) (va_A [(h0, .inr (12, w0 :: w1 :: w2 :: w3 :: w4 :: w5 :: w6 :: w7 :: w8 :: w9 :: w10 :: w11 :: w12 :: w13 :: w14 :: w15 :: w16 :: w17 :: w18 :: w19 :: w20 :: w21 :: w22 :: w23 :: w24 :: w25 :: w26 :: w27 :: w28 :: w29 :: w30 :: .ref a31 :: .int 0 :: w33 :: w34 :: w35 :: w36 :: w37 :: w38 :: w39 :: w40 :: w41 :: w42 :: w43 :: w44 :: w45 :: w46 :: w47 :: w48 :: w49 :: w50 :: w51 :: w52 :: w53 :: w54 :: w55 :: w56 :: w57 :: w58 :: w59 :: w60 :: w61 :: w62 :: w63 :: w64 :: w65 :: w66 :: w67 :: w68 :: w69 :: w70 :: w71 :: w72 :: w73 :: w74 :: w75 :: w76 :: w77 :: w78 :: w79 :: w80 :: w81 :: w82 :: w83 :: w84 :: w85 :: w86 :: w87 :: w88 :: w89 :: w90 :: w91 :: w92 :: w93 :: [])), (a31, .inl (c31, 4000, .inl (g31)))] sz) := by
  refine Met.ofW (cc := cX12_feed) (maxL := 14) (ret := (some .int)) (by decide) rfl ?_
  intro p e s m args below meth c s₁ B hml hv
  obtain ⟨rfl, hsz, hP, hK, hD0⟩ := hv
  have hx := B.exec
  have hb := B.bytes
  have hr := B.returns
  have hts := atoms_spec (ws := wc_X12_feed) B.pre
  have hown : s.vm.findClass RX12 = some m.cls := findClass_of_methodNamed B.named
  have hlocks := B.notSynchronized
  subst hsz
  have hD := hD0.self (sz := s.heap.size)
  generalize hAe : va_A [(h0, .inr (12, w0 :: w1 :: w2 :: w3 :: w4 :: w5 :: w6 :: w7 :: w8 :: w9 :: w10 :: w11 :: w12 :: w13 :: w14 :: w15 :: w16 :: w17 :: w18 :: w19 :: w20 :: w21 :: w22 :: w23 :: w24 :: w25 :: w26 :: w27 :: w28 :: w29 :: w30 :: .ref a31 :: .int 0 :: w33 :: w34 :: w35 :: w36 :: w37 :: w38 :: w39 :: w40 :: w41 :: w42 :: w43 :: w44 :: w45 :: w46 :: w47 :: w48 :: w49 :: w50 :: w51 :: w52 :: w53 :: w54 :: w55 :: w56 :: w57 :: w58 :: w59 :: w60 :: w61 :: w62 :: w63 :: w64 :: w65 :: w66 :: w67 :: w68 :: w69 :: w70 :: w71 :: w72 :: w73 :: w74 :: w75 :: w76 :: w77 :: w78 :: w79 :: w80 :: w81 :: w82 :: w83 :: w84 :: w85 :: w86 :: w87 :: w88 :: w89 :: w90 :: w91 :: w92 :: w93 :: [])), (a31, .inl (c31, 4000, .inl (g31)))] s.heap.size = A at hD ⊢
  have hA : ∀ q : Nat, s.heap.size ≤ q → A q := fun q h => by rw [← hAe]; exact Or.inr h
  have hS : va_S A s.heap s.heap [] := va_S.rf
  have hl := lv_entry ([.ref h0, .long xa, .long xb, .long xc, .long xd, .long xe]) (n := 14) (Nat.le_of_ble_eq_true rfl)
  rw [lg_entry_eq]
  generalize (lg_sl ([.ref h0, .long xa, .long xb, .long xc, .long xd, .long xe]) ++ List.replicate (14 - (lg_sl ([.ref h0, .long xa, .long xb, .long xc, .long xd, .long xe])).length) Slot.unset).toArray = ls at hl ⊢
  have hl : lv_has ls 14 [(0, .ref h0), (1, .long xa), (3, .long xb), (5, .long xc), (7, .long xd), (9, .long xe)] := hl
  refine lv_aload_n hx hb dX12_feed_0 rfl (lv_at hl 0 rfl) ?_
  refine va_get (D := (dC, dI)) (ci := 12) (v := .int 0) (C := RX12) (T := TX12) (N := 94) hx hb hts (by decide +kernel) hown hK hP 0 rfl rfl 32 (by decide) (hts (.fieldLink RX12 128 "ProofBenchModel" "taped" "I") (by decide +kernel)) (fun _ h9 => h9) rfl dX12_feed_1 ?_
  refine lv_bipush (v := 40) hx hb dX12_feed_4 (by decide) ?_
  refine lv_iadd hx hb dX12_feed_6 ?_
  refine lv_topi (fun z_1 e9 => ?_)
  obtain rfl : z_1 = 40 := by rw [e9]; decide
  refine lv_sipush (v := 4000) hx hb dX12_feed_7 (by decide) ?_
  refine lv_icmp_le (tgt := 15) hx hb dX12_feed_10 (by decide) (fun _ => ?_) (fun c9 => absurd c9 (by decide))
  refine lv_iconst (v := 0) hx hb dX12_feed_15 (by decide) ?_
  refine lv_istore (lv' := [(11, .int 0), (0, .ref h0), (1, .long xa), (3, .long xb), (5, .long xc), (7, .long xd), (9, .long xe)]) hx hb dX12_feed_16 hl (by decide) rfl (fun ls hl => ?_)
  refine lp_feed hx hb hml hown hts hA hK (fun g H locs ls hP hD hS hl => ?_) 40 0 (by omega) _ _ _ ls hP hD hS (lv_sub hl [1, 2, 3, 4, 5, 6, 0] rfl)
  refine lv_aload_n hx hb dX12_feed_119 rfl (lv_at hl 0 rfl) ?_
  refine va_get (D := (dC, dI)) (ci := 12) (v := .int (nI 40)) (C := RX12) (T := TX12) (N := 94) hx hb hts (by decide +kernel) hown hK hP 0 rfl rfl 32 (by decide) (hts (.fieldLink RX12 128 "ProofBenchModel" "taped" "I") (by decide +kernel)) (fun _ h9 => h9) rfl dX12_feed_120 ?_
  have hP9 := hP.sub (ws' := []) [] rfl
  have hD9 := hD.sub (ws' := []) [] (by decide) rfl
  have hK9 := hK.sub (tys' := []) [] rfl
  refine W.widen (k := 0) (n := 0) (by omega) (by omega) ?_
  exact W.iret (v := (nI 40)) hx hb hr (fun t ht hW => ⟨⟨(nI 40), (), rfl, rfl, by rw [ht]; exact hP9, va_K.moved hW.alike hK9, hD9⟩, hS.F ht⟩) hS.2.2 dX12_feed_123
