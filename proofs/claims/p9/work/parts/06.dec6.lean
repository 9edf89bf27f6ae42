theorem dX12_sees_99 : decode cX12_sees 99 = .ok (.iload 4, 2) := by decide +kernel
theorem dX12_sees_101 : decode cX12_sees 101 = .ok (.iload 5, 2) := by decide +kernel
theorem dX12_sees_103 : decode cX12_sees 103 = .ok (.if_icmp .ge 8, 3) := by decide +kernel
theorem dX12_sees_106 : decode cX12_sees 106 = .ok (.iload 4, 2) := by decide +kernel
theorem dX12_sees_108 : decode cX12_sees 108 = .ok (.goto 25, 3) := by decide +kernel
theorem dX12_sees_111 : decode cX12_sees 111 = .ok (.iload 5, 2) := by decide +kernel
theorem dX12_sees_113 : decode cX12_sees 113 = .ok (.goto 20, 3) := by decide +kernel
theorem dX12_sees_116 : decode cX12_sees 116 = .ok (.aload_n 0, 1) := by decide +kernel
theorem dX12_sees_117 : decode cX12_sees 117 = .ok (.iload_n 3, 1) := by decide +kernel
theorem dX12_sees_118 : decode cX12_sees 118 = .ok (.iload_n 1, 1) := by decide +kernel
theorem dX12_sees_119 : decode cX12_sees 119 = .ok (.iconst 0, 1) := by decide +kernel
theorem dX12_sees_120 : decode cX12_sees 120 = .ok (.invokevirtual 410, 3) := by decide +kernel
theorem dX12_sees_123 : decode cX12_sees 123 = .ok (.ifCond .eq 8, 3) := by decide +kernel
theorem dX12_sees_126 : decode cX12_sees 126 = .ok (.iload 4, 2) := by decide +kernel
theorem dX12_sees_128 : decode cX12_sees 128 = .ok (.goto 5, 3) := by decide +kernel
theorem dX12_sees_131 : decode cX12_sees 131 = .ok (.iload 5, 2) := by decide +kernel
theorem dX12_sees_133 : decode cX12_sees 133 = .ok (.istore 7, 2) := by decide +kernel
theorem dX12_sees_135 : decode cX12_sees 135 = .ok (.iload 6, 2) := by decide +kernel
theorem dX12_sees_137 : decode cX12_sees 137 = .ok (.ifCond .eq 20, 3) := by decide +kernel
theorem dX12_sees_140 : decode cX12_sees 140 = .ok (.iload 4, 2) := by decide +kernel
theorem dX12_sees_142 : decode cX12_sees 142 = .ok (.iload 5, 2) := by decide +kernel
theorem dX12_sees_144 : decode cX12_sees 144 = .ok (.if_icmp .ge 8, 3) := by decide +kernel
theorem dX12_sees_147 : decode cX12_sees 147 = .ok (.iload 5, 2) := by decide +kernel
theorem dX12_sees_149 : decode cX12_sees 149 = .ok (.goto 10, 3) := by decide +kernel
theorem dX12_sees_152 : decode cX12_sees 152 = .ok (.iload 4, 2) := by decide +kernel
theorem dX12_sees_154 : decode cX12_sees 154 = .ok (.goto 5, 3) := by decide +kernel
theorem dX12_sees_157 : decode cX12_sees 157 = .ok (.iload 7, 2) := by decide +kernel
theorem dX12_sees_159 : decode cX12_sees 159 = .ok (.istore 8, 2) := by decide +kernel
theorem dX12_sees_161 : decode cX12_sees 161 = .ok (.aload_n 0, 1) := by decide +kernel
theorem dX12_sees_162 : decode cX12_sees 162 = .ok (.getfield 103, 3) := by decide +kernel
theorem dX12_sees_165 : decode cX12_sees 165 = .ok (.iload_n 3, 1) := by decide +kernel
theorem dX12_sees_166 : decode cX12_sees 166 = .ok (.iload 7, 2) := by decide +kernel
theorem dX12_sees_168 : decode cX12_sees 168 = .ok (.iload_n 2, 1) := by decide +kernel
theorem dX12_sees_169 : decode cX12_sees 169 = .ok (.isub, 1) := by decide +kernel
theorem dX12_sees_170 : decode cX12_sees 170 = .ok (.iastore, 1) := by decide +kernel
theorem dX12_sees_171 : decode cX12_sees 171 = .ok (.aload_n 0, 1) := by decide +kernel
theorem dX12_sees_172 : decode cX12_sees 172 = .ok (.getfield 106, 3) := by decide +kernel
theorem dX12_sees_175 : decode cX12_sees 175 = .ok (.iload_n 3, 1) := by decide +kernel
theorem dX12_sees_176 : decode cX12_sees 176 = .ok (.iload 8, 2) := by decide +kernel
theorem dX12_sees_178 : decode cX12_sees 178 = .ok (.iload_n 2, 1) := by decide +kernel
theorem dX12_sees_179 : decode cX12_sees 179 = .ok (.iadd, 1) := by decide +kernel
theorem dX12_sees_180 : decode cX12_sees 180 = .ok (.iastore, 1) := by decide +kernel
theorem dX12_sees_181 : decode cX12_sees 181 = .ok (.iinc 3 1, 3) := by decide +kernel
theorem dX12_sees_184 : decode cX12_sees 184 = .ok (.goto (-182), 3) := by decide +kernel
theorem dX12_sees_187 : decode cX12_sees 187 = .ok (.return_, 1) := by decide +kernel
theorem dX12_spans_0 : decode cX12_spans 0 = .ok (.aload_n 0, 1) := by decide +kernel
theorem dX12_spans_1 : decode cX12_spans 1 = .ok (.iload_n 1, 1) := by decide +kernel
theorem dX12_spans_2 : decode cX12_spans 2 = .ok (.iload_n 2, 1) := by decide +kernel
theorem dX12_spans_3 : decode cX12_spans 3 = .ok (.invokevirtual 479, 3) := by decide +kernel
theorem dX12_spans_6 : decode cX12_spans 6 = .ok (.iconst 0, 1) := by decide +kernel
theorem dX12_spans_7 : decode cX12_spans 7 = .ok (.istore_n 3, 1) := by decide +kernel
theorem dX12_spans_8 : decode cX12_spans 8 = .ok (.iload_n 3, 1) := by decide +kernel
theorem dX12_spans_9 : decode cX12_spans 9 = .ok (.aload_n 0, 1) := by decide +kernel
theorem dX12_spans_10 : decode cX12_spans 10 = .ok (.getfield 338, 3) := by decide +kernel
theorem dX12_spans_13 : decode cX12_spans 13 = .ok (.if_icmp .ge 189, 3) := by decide +kernel
theorem dX12_spans_16 : decode cX12_spans 16 = .ok (.iload_n 3, 1) := by decide +kernel
theorem dX12_spans_17 : decode cX12_spans 17 = .ok (.istore 4, 2) := by decide +kernel
theorem dX12_spans_19 : decode cX12_spans 19 = .ok (.iload 4, 2) := by decide +kernel
theorem dX12_spans_21 : decode cX12_spans 21 = .ok (.ifCond .lt 19, 3) := by decide +kernel
theorem dX12_spans_24 : decode cX12_spans 24 = .ok (.aload_n 0, 1) := by decide +kernel
theorem dX12_spans_25 : decode cX12_spans 25 = .ok (.getfield 109, 3) := by decide +kernel
theorem dX12_spans_28 : decode cX12_spans 28 = .ok (.iload 4, 2) := by decide +kernel
theorem dX12_spans_30 : decode cX12_spans 30 = .ok (.baload, 1) := by decide +kernel
theorem dX12_spans_31 : decode cX12_spans 31 = .ok (.ifCond .ne 9, 3) := by decide +kernel
theorem dX12_spans_34 : decode cX12_spans 34 = .ok (.iinc 4 (-1), 3) := by decide +kernel
theorem dX12_spans_37 : decode cX12_spans 37 = .ok (.goto (-18), 3) := by decide +kernel
theorem dX12_spans_40 : decode cX12_spans 40 = .ok (.iload_n 3, 1) := by decide +kernel
theorem dX12_spans_41 : decode cX12_spans 41 = .ok (.istore 5, 2) := by decide +kernel
theorem dX12_spans_43 : decode cX12_spans 43 = .ok (.iload 5, 2) := by decide +kernel
theorem dX12_spans_45 : decode cX12_spans 45 = .ok (.aload_n 0, 1) := by decide +kernel
theorem dX12_spans_46 : decode cX12_spans 46 = .ok (.getfield 338, 3) := by decide +kernel
theorem dX12_spans_49 : decode cX12_spans 49 = .ok (.if_icmp .ge 19, 3) := by decide +kernel
theorem dX12_spans_52 : decode cX12_spans 52 = .ok (.aload_n 0, 1) := by decide +kernel
theorem dX12_spans_53 : decode cX12_spans 53 = .ok (.getfield 109, 3) := by decide +kernel
theorem dX12_spans_56 : decode cX12_spans 56 = .ok (.iload 5, 2) := by decide +kernel
theorem dX12_spans_58 : decode cX12_spans 58 = .ok (.baload, 1) := by decide +kernel
theorem dX12_spans_59 : decode cX12_spans 59 = .ok (.ifCond .ne 9, 3) := by decide +kernel
theorem dX12_spans_62 : decode cX12_spans 62 = .ok (.iinc 5 1, 3) := by decide +kernel
theorem dX12_spans_65 : decode cX12_spans 65 = .ok (.goto (-22), 3) := by decide +kernel
theorem dX12_spans_68 : decode cX12_spans 68 = .ok (.iload 4, 2) := by decide +kernel
theorem dX12_spans_70 : decode cX12_spans 70 = .ok (.ifCond .ge 14, 3) := by decide +kernel
theorem dX12_spans_73 : decode cX12_spans 73 = .ok (.iload 5, 2) := by decide +kernel
theorem dX12_spans_75 : decode cX12_spans 75 = .ok (.aload_n 0, 1) := by decide +kernel
theorem dX12_spans_76 : decode cX12_spans 76 = .ok (.getfield 338, 3) := by decide +kernel
theorem dX12_spans_79 : decode cX12_spans 79 = .ok (.if_icmp .ne 5, 3) := by decide +kernel
theorem dX12_spans_82 : decode cX12_spans 82 = .ok (.iconst 0, 1) := by decide +kernel
theorem dX12_spans_83 : decode cX12_spans 83 = .ok (.ireturn, 1) := by decide +kernel
theorem dX12_spans_84 : decode cX12_spans 84 = .ok (.iload 4, 2) := by decide +kernel
theorem dX12_spans_86 : decode cX12_spans 86 = .ok (.ifCond .ge 8, 3) := by decide +kernel
theorem dX12_spans_89 : decode cX12_spans 89 = .ok (.iload 5, 2) := by decide +kernel
theorem dX12_spans_91 : decode cX12_spans 91 = .ok (.goto 5, 3) := by decide +kernel
theorem dX12_spans_94 : decode cX12_spans 94 = .ok (.iload 4, 2) := by decide +kernel
theorem dX12_spans_96 : decode cX12_spans 96 = .ok (.istore 6, 2) := by decide +kernel
theorem dX12_spans_98 : decode cX12_spans 98 = .ok (.iload 5, 2) := by decide +kernel
theorem dX12_spans_100 : decode cX12_spans 100 = .ok (.aload_n 0, 1) := by decide +kernel
theorem dX12_spans_101 : decode cX12_spans 101 = .ok (.getfield 338, 3) := by decide +kernel
theorem dX12_spans_104 : decode cX12_spans 104 = .ok (.if_icmp .ne 8, 3) := by decide +kernel
theorem dX12_spans_107 : decode cX12_spans 107 = .ok (.iload 4, 2) := by decide +kernel
theorem dX12_spans_109 : decode cX12_spans 109 = .ok (.goto 5, 3) := by decide +kernel
theorem dX12_spans_112 : decode cX12_spans 112 = .ok (.iload 5, 2) := by decide +kernel
theorem dX12_spans_114 : decode cX12_spans 114 = .ok (.istore 7, 2) := by decide +kernel
theorem dX12_spans_116 : decode cX12_spans 116 = .ok (.aload_n 0, 1) := by decide +kernel
theorem dX12_spans_117 : decode cX12_spans 117 = .ok (.getfield 97, 3) := by decide +kernel
theorem dX12_spans_120 : decode cX12_spans 120 = .ok (.iload_n 3, 1) := by decide +kernel
theorem dX12_spans_121 : decode cX12_spans 121 = .ok (.aload_n 0, 1) := by decide +kernel
theorem dX12_spans_122 : decode cX12_spans 122 = .ok (.getfield 103, 3) := by decide +kernel
theorem dX12_spans_125 : decode cX12_spans 125 = .ok (.iload 6, 2) := by decide +kernel
theorem dX12_spans_127 : decode cX12_spans 127 = .ok (.iaload, 1) := by decide +kernel
theorem dX12_spans_128 : decode cX12_spans 128 = .ok (.aload_n 0, 1) := by decide +kernel
theorem dX12_spans_129 : decode cX12_spans 129 = .ok (.getfield 103, 3) := by decide +kernel
theorem dX12_spans_132 : decode cX12_spans 132 = .ok (.iload 7, 2) := by decide +kernel
theorem dX12_spans_134 : decode cX12_spans 134 = .ok (.iaload, 1) := by decide +kernel
theorem dX12_spans_135 : decode cX12_spans 135 = .ok (.if_icmp .ge 13, 3) := by decide +kernel
theorem dX12_spans_138 : decode cX12_spans 138 = .ok (.aload_n 0, 1) := by decide +kernel
theorem dX12_spans_139 : decode cX12_spans 139 = .ok (.getfield 103, 3) := by decide +kernel
theorem dX12_spans_142 : decode cX12_spans 142 = .ok (.iload 6, 2) := by decide +kernel
theorem dX12_spans_144 : decode cX12_spans 144 = .ok (.iaload, 1) := by decide +kernel
theorem dX12_spans_145 : decode cX12_spans 145 = .ok (.goto 10, 3) := by decide +kernel
theorem dX12_spans_148 : decode cX12_spans 148 = .ok (.aload_n 0, 1) := by decide +kernel
theorem dX12_spans_149 : decode cX12_spans 149 = .ok (.getfield 103, 3) := by decide +kernel
theorem dX12_spans_152 : decode cX12_spans 152 = .ok (.iload 7, 2) := by decide +kernel
theorem dX12_spans_154 : decode cX12_spans 154 = .ok (.iaload, 1) := by decide +kernel
theorem dX12_spans_155 : decode cX12_spans 155 = .ok (.iastore, 1) := by decide +kernel
theorem dX12_spans_156 : decode cX12_spans 156 = .ok (.aload_n 0, 1) := by decide +kernel
theorem dX12_spans_157 : decode cX12_spans 157 = .ok (.getfield 100, 3) := by decide +kernel
theorem dX12_spans_160 : decode cX12_spans 160 = .ok (.iload_n 3, 1) := by decide +kernel
theorem dX12_spans_161 : decode cX12_spans 161 = .ok (.aload_n 0, 1) := by decide +kernel
theorem dX12_spans_162 : decode cX12_spans 162 = .ok (.getfield 106, 3) := by decide +kernel
theorem dX12_spans_165 : decode cX12_spans 165 = .ok (.iload 6, 2) := by decide +kernel
theorem dX12_spans_167 : decode cX12_spans 167 = .ok (.iaload, 1) := by decide +kernel
theorem dX12_spans_168 : decode cX12_spans 168 = .ok (.aload_n 0, 1) := by decide +kernel
theorem dX12_spans_169 : decode cX12_spans 169 = .ok (.getfield 106, 3) := by decide +kernel
theorem dX12_spans_172 : decode cX12_spans 172 = .ok (.iload 7, 2) := by decide +kernel
theorem dX12_spans_174 : decode cX12_spans 174 = .ok (.iaload, 1) := by decide +kernel
theorem dX12_spans_175 : decode cX12_spans 175 = .ok (.if_icmp .le 13, 3) := by decide +kernel
theorem dX12_spans_178 : decode cX12_spans 178 = .ok (.aload_n 0, 1) := by decide +kernel
theorem dX12_spans_179 : decode cX12_spans 179 = .ok (.getfield 106, 3) := by decide +kernel
theorem dX12_spans_182 : decode cX12_spans 182 = .ok (.iload 6, 2) := by decide +kernel
theorem dX12_spans_184 : decode cX12_spans 184 = .ok (.iaload, 1) := by decide +kernel
theorem dX12_spans_185 : decode cX12_spans 185 = .ok (.goto 10, 3) := by decide +kernel
theorem dX12_spans_188 : decode cX12_spans 188 = .ok (.aload_n 0, 1) := by decide +kernel
theorem dX12_spans_189 : decode cX12_spans 189 = .ok (.getfield 106, 3) := by decide +kernel
theorem dX12_spans_192 : decode cX12_spans 192 = .ok (.iload 7, 2) := by decide +kernel
theorem dX12_spans_194 : decode cX12_spans 194 = .ok (.iaload, 1) := by decide +kernel
theorem dX12_spans_195 : decode cX12_spans 195 = .ok (.iastore, 1) := by decide +kernel
theorem dX12_spans_196 : decode cX12_spans 196 = .ok (.iinc 3 1, 3) := by decide +kernel
theorem dX12_spans_199 : decode cX12_spans 199 = .ok (.goto (-191), 3) := by decide +kernel
theorem dX12_spans_202 : decode cX12_spans 202 = .ok (.iconst 0, 1) := by decide +kernel
theorem dX12_spans_203 : decode cX12_spans 203 = .ok (.istore_n 3, 1) := by decide +kernel
theorem dX12_spans_204 : decode cX12_spans 204 = .ok (.iload_n 3, 1) := by decide +kernel
theorem dX12_spans_205 : decode cX12_spans 205 = .ok (.aload_n 0, 1) := by decide +kernel
theorem dX12_spans_206 : decode cX12_spans 206 = .ok (.getfield 338, 3) := by decide +kernel
theorem dX12_spans_209 : decode cX12_spans 209 = .ok (.if_icmp .ge 29, 3) := by decide +kernel
theorem dX12_spans_212 : decode cX12_spans 212 = .ok (.aload_n 0, 1) := by decide +kernel
theorem dX12_spans_213 : decode cX12_spans 213 = .ok (.getfield 100, 3) := by decide +kernel
theorem dX12_spans_216 : decode cX12_spans 216 = .ok (.iload_n 3, 1) := by decide +kernel
theorem dX12_spans_217 : decode cX12_spans 217 = .ok (.iaload, 1) := by decide +kernel
theorem dX12_spans_218 : decode cX12_spans 218 = .ok (.aload_n 0, 1) := by decide +kernel
theorem dX12_spans_219 : decode cX12_spans 219 = .ok (.getfield 97, 3) := by decide +kernel
theorem dX12_spans_222 : decode cX12_spans 222 = .ok (.iload_n 3, 1) := by decide +kernel
theorem dX12_spans_223 : decode cX12_spans 223 = .ok (.iaload, 1) := by decide +kernel
theorem dX12_spans_224 : decode cX12_spans 224 = .ok (.isub, 1) := by decide +kernel
theorem dX12_spans_225 : decode cX12_spans 225 = .ok (.bipush 60, 2) := by decide +kernel
theorem dX12_spans_227 : decode cX12_spans 227 = .ok (.if_icmp .le 5, 3) := by decide +kernel
theorem dX12_spans_230 : decode cX12_spans 230 = .ok (.iconst 0, 1) := by decide +kernel
theorem dX12_spans_231 : decode cX12_spans 231 = .ok (.ireturn, 1) := by decide +kernel
theorem dX12_spans_232 : decode cX12_spans 232 = .ok (.iinc 3 1, 3) := by decide +kernel
theorem dX12_spans_235 : decode cX12_spans 235 = .ok (.goto (-31), 3) := by decide +kernel
theorem dX12_spans_238 : decode cX12_spans 238 = .ok (.iconst 1, 1) := by decide +kernel
theorem dX12_spans_239 : decode cX12_spans 239 = .ok (.ireturn, 1) := by decide +kernel
theorem dX12_isOut_0 : decode cX12_isOut 0 = .ok (.iload_n 0, 1) := by decide +kernel
theorem dX12_isOut_1 : decode cX12_isOut 1 = .ok (.i2l, 1) := by decide +kernel
theorem dX12_isOut_2 : decode cX12_isOut 2 = .ok (.lconst 0, 1) := by decide +kernel
theorem dX12_isOut_3 : decode cX12_isOut 3 = .ok (.ldc2_w 482, 3) := by decide +kernel
theorem dX12_isOut_6 : decode cX12_isOut 6 = .ok (.invokestatic 155, 3) := by decide +kernel
theorem dX12_isOut_9 : decode cX12_isOut 9 = .ok (.ireturn, 1) := by decide +kernel
theorem dX12_span_0 : decode cX12_span 0 = .ok (.aload_n 0, 1) := by decide +kernel
theorem dX12_span_1 : decode cX12_span 1 = .ok (.iload_n 1, 1) := by decide +kernel
theorem dX12_span_2 : decode cX12_span 2 = .ok (.invokevirtual 347, 3) := by decide +kernel
theorem dX12_span_5 : decode cX12_span 5 = .ok (.ifCond .eq 38, 3) := by decide +kernel
theorem dX12_span_8 : decode cX12_span 8 = .ok (.aload_n 0, 1) := by decide +kernel
theorem dX12_span_9 : decode cX12_span 9 = .ok (.iload_n 2, 1) := by decide +kernel
theorem dX12_span_10 : decode cX12_span 10 = .ok (.invokevirtual 344, 3) := by decide +kernel
theorem dX12_span_13 : decode cX12_span 13 = .ok (.ifCond .eq 30, 3) := by decide +kernel
theorem dX12_span_16 : decode cX12_span 16 = .ok (.iload_n 3, 1) := by decide +kernel
theorem dX12_span_17 : decode cX12_span 17 = .ok (.invokestatic 484, 3) := by decide +kernel
theorem dX12_span_20 : decode cX12_span 20 = .ok (.ifCond .eq 23, 3) := by decide +kernel
theorem dX12_span_23 : decode cX12_span 23 = .ok (.iload 4, 2) := by decide +kernel
theorem dX12_span_25 : decode cX12_span 25 = .ok (.i2l, 1) := by decide +kernel
theorem dX12_span_26 : decode cX12_span 26 = .ok (.lconst 0, 1) := by decide +kernel
theorem dX12_span_27 : decode cX12_span 27 = .ok (.lconst 1, 1) := by decide +kernel
theorem dX12_span_28 : decode cX12_span 28 = .ok (.invokestatic 155, 3) := by decide +kernel
theorem dX12_span_31 : decode cX12_span 31 = .ok (.ifCond .eq 12, 3) := by decide +kernel
theorem dX12_span_34 : decode cX12_span 34 = .ok (.aload_n 0, 1) := by decide +kernel
theorem dX12_span_35 : decode cX12_span 35 = .ok (.iload_n 1, 1) := by decide +kernel
theorem dX12_span_36 : decode cX12_span 36 = .ok (.iload_n 3, 1) := by decide +kernel
theorem dX12_span_37 : decode cX12_span 37 = .ok (.invokevirtual 487, 3) := by decide +kernel
theorem dX12_span_40 : decode cX12_span 40 = .ok (.ifCond .ne 7, 3) := by decide +kernel
theorem dX12_span_43 : decode cX12_span 43 = .ok (.sipush (-10000), 3) := by decide +kernel
theorem dX12_span_46 : decode cX12_span 46 = .ok (.ireturn, 1) := by decide +kernel
theorem dX12_span_47 : decode cX12_span 47 = .ok (.iload 4, 2) := by decide +kernel
theorem dX12_span_49 : decode cX12_span 49 = .ok (.ifCond .ne 12, 3) := by decide +kernel
theorem dX12_span_52 : decode cX12_span 52 = .ok (.aload_n 0, 1) := by decide +kernel
theorem dX12_span_53 : decode cX12_span 53 = .ok (.getfield 97, 3) := by decide +kernel
theorem dX12_span_56 : decode cX12_span 56 = .ok (.iload_n 2, 1) := by decide +kernel
theorem dX12_span_57 : decode cX12_span 57 = .ok (.iaload, 1) := by decide +kernel
theorem dX12_span_58 : decode cX12_span 58 = .ok (.goto 9, 3) := by decide +kernel
theorem dX12_span_61 : decode cX12_span 61 = .ok (.aload_n 0, 1) := by decide +kernel
theorem dX12_span_62 : decode cX12_span 62 = .ok (.getfield 100, 3) := by decide +kernel
theorem dX12_span_65 : decode cX12_span 65 = .ok (.iload_n 2, 1) := by decide +kernel
theorem dX12_span_66 : decode cX12_span 66 = .ok (.iaload, 1) := by decide +kernel
theorem dX12_span_67 : decode cX12_span 67 = .ok (.ireturn, 1) := by decide +kernel
theorem dX12_pairOf_0 : decode cX12_pairOf 0 = .ok (.bipush 61, 2) := by decide +kernel
theorem dX12_pairOf_2 : decode cX12_pairOf 2 = .ok (.iload_n 0, 1) := by decide +kernel
theorem dX12_pairOf_3 : decode cX12_pairOf 3 = .ok (.imul, 1) := by decide +kernel
theorem dX12_pairOf_4 : decode cX12_pairOf 4 = .ok (.iload_n 1, 1) := by decide +kernel
theorem dX12_pairOf_5 : decode cX12_pairOf 5 = .ok (.iadd, 1) := by decide +kernel
theorem dX12_pairOf_6 : decode cX12_pairOf 6 = .ok (.bipush 61, 2) := by decide +kernel
theorem dX12_pairOf_8 : decode cX12_pairOf 8 = .ok (.imul, 1) := by decide +kernel
theorem dX12_pairOf_9 : decode cX12_pairOf 9 = .ok (.iload_n 2, 1) := by decide +kernel
theorem dX12_pairOf_10 : decode cX12_pairOf 10 = .ok (.iadd, 1) := by decide +kernel
theorem dX12_pairOf_11 : decode cX12_pairOf 11 = .ok (.ireturn, 1) := by decide +kernel
theorem dX12_widthOf_0 : decode cX12_widthOf 0 = .ok (.aload_n 0, 1) := by decide +kernel
theorem dX12_widthOf_1 : decode cX12_widthOf 1 = .ok (.getfield 100, 3) := by decide +kernel
theorem dX12_widthOf_4 : decode cX12_widthOf 4 = .ok (.iload_n 1, 1) := by decide +kernel
theorem dX12_widthOf_5 : decode cX12_widthOf 5 = .ok (.iaload, 1) := by decide +kernel
theorem dX12_widthOf_6 : decode cX12_widthOf 6 = .ok (.aload_n 0, 1) := by decide +kernel
theorem dX12_widthOf_7 : decode cX12_widthOf 7 = .ok (.getfield 97, 3) := by decide +kernel
theorem dX12_widthOf_10 : decode cX12_widthOf 10 = .ok (.iload_n 1, 1) := by decide +kernel
theorem dX12_widthOf_11 : decode cX12_widthOf 11 = .ok (.iaload, 1) := by decide +kernel
theorem dX12_widthOf_12 : decode cX12_widthOf 12 = .ok (.isub, 1) := by decide +kernel
theorem dX12_widthOf_13 : decode cX12_widthOf 13 = .ok (.iconst 1, 1) := by decide +kernel
theorem dX12_widthOf_14 : decode cX12_widthOf 14 = .ok (.iadd, 1) := by decide +kernel
theorem dX12_widthOf_15 : decode cX12_widthOf 15 = .ok (.ireturn, 1) := by decide +kernel
theorem dX12_bentBy_0 : decode cX12_bentBy 0 = .ok (.aload_n 0, 1) := by decide +kernel
theorem dX12_bentBy_1 : decode cX12_bentBy 1 = .ok (.getfield 97, 3) := by decide +kernel
theorem dX12_bentBy_4 : decode cX12_bentBy 4 = .ok (.iload_n 1, 1) := by decide +kernel
theorem dX12_bentBy_5 : decode cX12_bentBy 5 = .ok (.iaload, 1) := by decide +kernel
theorem dX12_bentBy_6 : decode cX12_bentBy 6 = .ok (.i2l, 1) := by decide +kernel
theorem dX12_bentBy_7 : decode cX12_bentBy 7 = .ok (.iload_n 2, 1) := by decide +kernel
theorem dX12_bentBy_8 : decode cX12_bentBy 8 = .ok (.i2l, 1) := by decide +kernel
theorem dX12_bentBy_9 : decode cX12_bentBy 9 = .ok (.ladd, 1) := by decide +kernel
theorem dX12_bentBy_10 : decode cX12_bentBy 10 = .ok (.ldc2_w 490, 3) := by decide +kernel
theorem dX12_bentBy_13 : decode cX12_bentBy 13 = .ok (.aload_n 0, 1) := by decide +kernel
theorem dX12_bentBy_14 : decode cX12_bentBy 14 = .ok (.getfield 97, 3) := by decide +kernel
theorem dX12_bentBy_17 : decode cX12_bentBy 17 = .ok (.iload_n 1, 1) := by decide +kernel
theorem dX12_bentBy_18 : decode cX12_bentBy 18 = .ok (.iconst 1, 1) := by decide +kernel
theorem dX12_bentBy_19 : decode cX12_bentBy 19 = .ok (.iadd, 1) := by decide +kernel
theorem dX12_bentBy_20 : decode cX12_bentBy 20 = .ok (.iaload, 1) := by decide +kernel
theorem dX12_bentBy_21 : decode cX12_bentBy 21 = .ok (.iload_n 3, 1) := by decide +kernel
theorem dX12_bentBy_22 : decode cX12_bentBy 22 = .ok (.iadd, 1) := by decide +kernel
theorem dX12_bentBy_23 : decode cX12_bentBy 23 = .ok (.i2l, 1) := by decide +kernel
theorem dX12_bentBy_24 : decode cX12_bentBy 24 = .ok (.lmul, 1) := by decide +kernel
theorem dX12_bentBy_25 : decode cX12_bentBy 25 = .ok (.lsub, 1) := by decide +kernel
theorem dX12_bentBy_26 : decode cX12_bentBy 26 = .ok (.aload_n 0, 1) := by decide +kernel
theorem dX12_bentBy_27 : decode cX12_bentBy 27 = .ok (.getfield 97, 3) := by decide +kernel
theorem dX12_bentBy_30 : decode cX12_bentBy 30 = .ok (.iload_n 1, 1) := by decide +kernel
theorem dX12_bentBy_31 : decode cX12_bentBy 31 = .ok (.iconst 2, 1) := by decide +kernel
theorem dX12_bentBy_32 : decode cX12_bentBy 32 = .ok (.iadd, 1) := by decide +kernel
theorem dX12_bentBy_33 : decode cX12_bentBy 33 = .ok (.iaload, 1) := by decide +kernel
theorem dX12_bentBy_34 : decode cX12_bentBy 34 = .ok (.i2l, 1) := by decide +kernel
theorem dX12_bentBy_35 : decode cX12_bentBy 35 = .ok (.ladd, 1) := by decide +kernel
theorem dX12_bentBy_36 : decode cX12_bentBy 36 = .ok (.iload 4, 2) := by decide +kernel
theorem dX12_bentBy_38 : decode cX12_bentBy 38 = .ok (.i2l, 1) := by decide +kernel
theorem dX12_bentBy_39 : decode cX12_bentBy 39 = .ok (.ladd, 1) := by decide +kernel
theorem dX12_bentBy_40 : decode cX12_bentBy 40 = .ok (.lstore 5, 2) := by decide +kernel
theorem dX12_bentBy_42 : decode cX12_bentBy 42 = .ok (.lload 5, 2) := by decide +kernel
theorem dX12_bentBy_44 : decode cX12_bentBy 44 = .ok (.lload 5, 2) := by decide +kernel
theorem dX12_bentBy_46 : decode cX12_bentBy 46 = .ok (.lmul, 1) := by decide +kernel
theorem dX12_bentBy_47 : decode cX12_bentBy 47 = .ok (.lreturn, 1) := by decide +kernel
theorem dX12_fromPair_0 : decode cX12_fromPair 0 = .ok (.ldc2_w 492, 3) := by decide +kernel
theorem dX12_fromPair_3 : decode cX12_fromPair 3 = .ok (.lstore 4, 2) := by decide +kernel
theorem dX12_fromPair_5 : decode cX12_fromPair 5 = .ok (.iconst 0, 1) := by decide +kernel
theorem dX12_fromPair_6 : decode cX12_fromPair 6 = .ok (.istore 6, 2) := by decide +kernel
theorem dX12_fromPair_8 : decode cX12_fromPair 8 = .ok (.iload 6, 2) := by decide +kernel
theorem dX12_fromPair_10 : decode cX12_fromPair 10 = .ok (.aload_n 0, 1) := by decide +kernel
theorem dX12_fromPair_11 : decode cX12_fromPair 11 = .ok (.iload_n 1, 1) := by decide +kernel
theorem dX12_fromPair_12 : decode cX12_fromPair 12 = .ok (.iconst 2, 1) := by decide +kernel
theorem dX12_fromPair_13 : decode cX12_fromPair 13 = .ok (.iadd, 1) := by decide +kernel
theorem dX12_fromPair_14 : decode cX12_fromPair 14 = .ok (.invokevirtual 494, 3) := by decide +kernel
theorem dX12_fromPair_17 : decode cX12_fromPair 17 = .ok (.if_icmp .ge 59, 3) := by decide +kernel
theorem dX12_fromPair_20 : decode cX12_fromPair 20 = .ok (.aload_n 0, 1) := by decide +kernel
theorem dX12_fromPair_21 : decode cX12_fromPair 21 = .ok (.iload_n 1, 1) := by decide +kernel
theorem dX12_fromPair_22 : decode cX12_fromPair 22 = .ok (.iload_n 2, 1) := by decide +kernel
theorem dX12_fromPair_23 : decode cX12_fromPair 23 = .ok (.iload_n 3, 1) := by decide +kernel
theorem dX12_fromPair_24 : decode cX12_fromPair 24 = .ok (.iload 6, 2) := by decide +kernel
theorem dX12_fromPair_26 : decode cX12_fromPair 26 = .ok (.invokevirtual 497, 3) := by decide +kernel
theorem dX12_fromPair_29 : decode cX12_fromPair 29 = .ok (.aload_n 0, 1) := by decide +kernel
theorem dX12_fromPair_30 : decode cX12_fromPair 30 = .ok (.getfield 129, 3) := by decide +kernel
theorem dX12_fromPair_33 : decode cX12_fromPair 33 = .ok (.iload_n 1, 1) := by decide +kernel
theorem dX12_fromPair_34 : decode cX12_fromPair 34 = .ok (.iconst 1, 1) := by decide +kernel
theorem dX12_fromPair_35 : decode cX12_fromPair 35 = .ok (.iadd, 1) := by decide +kernel
theorem dX12_fromPair_36 : decode cX12_fromPair 36 = .ok (.iload_n 3, 1) := by decide +kernel
theorem dX12_fromPair_37 : decode cX12_fromPair 37 = .ok (.iload 6, 2) := by decide +kernel
theorem dX12_fromPair_39 : decode cX12_fromPair 39 = .ok (.invokestatic 501, 3) := by decide +kernel
theorem dX12_fromPair_42 : decode cX12_fromPair 42 = .ok (.laload, 1) := by decide +kernel
theorem dX12_fromPair_43 : decode cX12_fromPair 43 = .ok (.ladd, 1) := by decide +kernel
theorem dX12_fromPair_44 : decode cX12_fromPair 44 = .ok (.lstore 7, 2) := by decide +kernel
theorem dX12_fromPair_46 : decode cX12_fromPair 46 = .ok (.lload 4, 2) := by decide +kernel
theorem dX12_fromPair_48 : decode cX12_fromPair 48 = .ok (.lconst 0, 1) := by decide +kernel
theorem dX12_fromPair_49 : decode cX12_fromPair 49 = .ok (.lcmp, 1) := by decide +kernel
theorem dX12_fromPair_50 : decode cX12_fromPair 50 = .ok (.ifCond .lt 11, 3) := by decide +kernel
theorem dX12_fromPair_53 : decode cX12_fromPair 53 = .ok (.lload 7, 2) := by decide +kernel
theorem dX12_fromPair_55 : decode cX12_fromPair 55 = .ok (.lload 4, 2) := by decide +kernel
theorem dX12_fromPair_57 : decode cX12_fromPair 57 = .ok (.lcmp, 1) := by decide +kernel
theorem dX12_fromPair_58 : decode cX12_fromPair 58 = .ok (.ifCond .ge 8, 3) := by decide +kernel
theorem dX12_fromPair_61 : decode cX12_fromPair 61 = .ok (.lload 7, 2) := by decide +kernel
theorem dX12_fromPair_63 : decode cX12_fromPair 63 = .ok (.goto 5, 3) := by decide +kernel
theorem dX12_fromPair_66 : decode cX12_fromPair 66 = .ok (.lload 4, 2) := by decide +kernel
theorem dX12_fromPair_68 : decode cX12_fromPair 68 = .ok (.lstore 4, 2) := by decide +kernel
theorem dX12_fromPair_70 : decode cX12_fromPair 70 = .ok (.iinc 6 1, 3) := by decide +kernel
theorem dX12_fromPair_73 : decode cX12_fromPair 73 = .ok (.goto (-65), 3) := by decide +kernel
theorem dX12_fromPair_76 : decode cX12_fromPair 76 = .ok (.lload 4, 2) := by decide +kernel
theorem dX12_fromPair_78 : decode cX12_fromPair 78 = .ok (.lreturn, 1) := by decide +kernel
theorem dX12_bends_0 : decode cX12_bends 0 = .ok (.aload_n 0, 1) := by decide +kernel
theorem dX12_bends_1 : decode cX12_bends 1 = .ok (.getfield 338, 3) := by decide +kernel
theorem dX12_bends_4 : decode cX12_bends 4 = .ok (.iconst 2, 1) := by decide +kernel
theorem dX12_bends_5 : decode cX12_bends 5 = .ok (.isub, 1) := by decide +kernel
theorem dX12_bends_6 : decode cX12_bends 6 = .ok (.istore_n 2, 1) := by decide +kernel
theorem dX12_bends_7 : decode cX12_bends 7 = .ok (.iload_n 2, 1) := by decide +kernel
theorem dX12_bends_8 : decode cX12_bends 8 = .ok (.istore_n 3, 1) := by decide +kernel
theorem dX12_bends_9 : decode cX12_bends 9 = .ok (.iload_n 3, 1) := by decide +kernel
theorem dX12_bends_10 : decode cX12_bends 10 = .ok (.ifCond .lt 80, 3) := by decide +kernel
theorem dX12_bends_13 : decode cX12_bends 13 = .ok (.iconst 0, 1) := by decide +kernel
theorem dX12_bends_14 : decode cX12_bends 14 = .ok (.istore 4, 2) := by decide +kernel
theorem dX12_bends_16 : decode cX12_bends 16 = .ok (.iload 4, 2) := by decide +kernel
theorem dX12_bends_18 : decode cX12_bends 18 = .ok (.aload_n 0, 1) := by decide +kernel
theorem dX12_bends_19 : decode cX12_bends 19 = .ok (.iload_n 3, 1) := by decide +kernel
theorem dX12_bends_20 : decode cX12_bends 20 = .ok (.invokevirtual 494, 3) := by decide +kernel
theorem dX12_bends_23 : decode cX12_bends 23 = .ok (.if_icmp .ge 61, 3) := by decide +kernel
theorem dX12_bends_26 : decode cX12_bends 26 = .ok (.iconst 0, 1) := by decide +kernel
theorem dX12_bends_27 : decode cX12_bends 27 = .ok (.istore 5, 2) := by decide +kernel
theorem dX12_bends_29 : decode cX12_bends 29 = .ok (.iload 5, 2) := by decide +kernel
theorem dX12_bends_31 : decode cX12_bends 31 = .ok (.aload_n 0, 1) := by decide +kernel
theorem dX12_bends_32 : decode cX12_bends 32 = .ok (.iload_n 3, 1) := by decide +kernel
theorem dX12_bends_33 : decode cX12_bends 33 = .ok (.iconst 1, 1) := by decide +kernel
theorem dX12_bends_34 : decode cX12_bends 34 = .ok (.iadd, 1) := by decide +kernel
theorem dX12_bends_35 : decode cX12_bends 35 = .ok (.invokevirtual 494, 3) := by decide +kernel
theorem dX12_bends_38 : decode cX12_bends 38 = .ok (.if_icmp .ge 40, 3) := by decide +kernel
theorem dX12_bends_41 : decode cX12_bends 41 = .ok (.aload_n 0, 1) := by decide +kernel
theorem dX12_bends_42 : decode cX12_bends 42 = .ok (.getfield 129, 3) := by decide +kernel
theorem dX12_bends_45 : decode cX12_bends 45 = .ok (.iload_n 3, 1) := by decide +kernel
theorem dX12_bends_46 : decode cX12_bends 46 = .ok (.iload 4, 2) := by decide +kernel
theorem dX12_bends_48 : decode cX12_bends 48 = .ok (.iload 5, 2) := by decide +kernel
theorem dX12_bends_50 : decode cX12_bends 50 = .ok (.invokestatic 501, 3) := by decide +kernel
theorem dX12_bends_53 : decode cX12_bends 53 = .ok (.iload_n 3, 1) := by decide +kernel
theorem dX12_bends_54 : decode cX12_bends 54 = .ok (.iload_n 2, 1) := by decide +kernel
theorem dX12_bends_55 : decode cX12_bends 55 = .ok (.if_icmp .ne 7, 3) := by decide +kernel
theorem dX12_bends_58 : decode cX12_bends 58 = .ok (.lconst 0, 1) := by decide +kernel
theorem dX12_bends_59 : decode cX12_bends 59 = .ok (.goto 12, 3) := by decide +kernel
theorem dX12_bends_62 : decode cX12_bends 62 = .ok (.aload_n 0, 1) := by decide +kernel
theorem dX12_bends_63 : decode cX12_bends 63 = .ok (.iload_n 3, 1) := by decide +kernel
theorem dX12_bends_64 : decode cX12_bends 64 = .ok (.iload 4, 2) := by decide +kernel
theorem dX12_bends_66 : decode cX12_bends 66 = .ok (.iload 5, 2) := by decide +kernel
theorem dX12_bends_68 : decode cX12_bends 68 = .ok (.invokevirtual 504, 3) := by decide +kernel
theorem dX12_bends_71 : decode cX12_bends 71 = .ok (.lastore, 1) := by decide +kernel
theorem dX12_bends_72 : decode cX12_bends 72 = .ok (.iinc 5 1, 3) := by decide +kernel
theorem dX12_bends_75 : decode cX12_bends 75 = .ok (.goto (-46), 3) := by decide +kernel
theorem dX12_bends_78 : decode cX12_bends 78 = .ok (.iinc 4 1, 3) := by decide +kernel
theorem dX12_bends_81 : decode cX12_bends 81 = .ok (.goto (-65), 3) := by decide +kernel
theorem dX12_bends_84 : decode cX12_bends 84 = .ok (.iinc 3 (-1), 3) := by decide +kernel
theorem dX12_bends_87 : decode cX12_bends 87 = .ok (.goto (-78), 3) := by decide +kernel
theorem dX12_bends_90 : decode cX12_bends 90 = .ok (.aload_n 0, 1) := by decide +kernel
theorem dX12_bends_91 : decode cX12_bends 91 = .ok (.getfield 129, 3) := by decide +kernel
theorem dX12_bends_94 : decode cX12_bends 94 = .ok (.iconst 0, 1) := by decide +kernel
theorem dX12_bends_95 : decode cX12_bends 95 = .ok (.iconst 0, 1) := by decide +kernel
theorem dX12_bends_96 : decode cX12_bends 96 = .ok (.iconst 0, 1) := by decide +kernel
theorem dX12_bends_97 : decode cX12_bends 97 = .ok (.invokestatic 501, 3) := by decide +kernel
theorem dX12_bends_100 : decode cX12_bends 100 = .ok (.laload, 1) := by decide +kernel
theorem dX12_bends_101 : decode cX12_bends 101 = .ok (.lstore_n 3, 1) := by decide +kernel
theorem dX12_bends_102 : decode cX12_bends 102 = .ok (.iconst 0, 1) := by decide +kernel
theorem dX12_bends_103 : decode cX12_bends 103 = .ok (.istore 5, 2) := by decide +kernel
theorem dX12_bends_105 : decode cX12_bends 105 = .ok (.iload 5, 2) := by decide +kernel
theorem dX12_bends_107 : decode cX12_bends 107 = .ok (.aload_n 0, 1) := by decide +kernel
theorem dX12_bends_108 : decode cX12_bends 108 = .ok (.iconst 0, 1) := by decide +kernel
theorem dX12_bends_109 : decode cX12_bends 109 = .ok (.invokevirtual 494, 3) := by decide +kernel
theorem dX12_bends_112 : decode cX12_bends 112 = .ok (.if_icmp .ge 64, 3) := by decide +kernel
theorem dX12_bends_115 : decode cX12_bends 115 = .ok (.iconst 0, 1) := by decide +kernel
theorem dX12_bends_116 : decode cX12_bends 116 = .ok (.istore 6, 2) := by decide +kernel
theorem dX12_bends_118 : decode cX12_bends 118 = .ok (.iload 6, 2) := by decide +kernel
theorem dX12_bends_120 : decode cX12_bends 120 = .ok (.aload_n 0, 1) := by decide +kernel
theorem dX12_bends_121 : decode cX12_bends 121 = .ok (.iconst 1, 1) := by decide +kernel
theorem dX12_bends_122 : decode cX12_bends 122 = .ok (.invokevirtual 494, 3) := by decide +kernel
theorem dX12_bends_125 : decode cX12_bends 125 = .ok (.if_icmp .ge 45, 3) := by decide +kernel
theorem dX12_bends_128 : decode cX12_bends 128 = .ok (.aload_n 0, 1) := by decide +kernel
theorem dX12_bends_129 : decode cX12_bends 129 = .ok (.getfield 129, 3) := by decide +kernel
theorem dX12_bends_132 : decode cX12_bends 132 = .ok (.iconst 0, 1) := by decide +kernel
theorem dX12_bends_133 : decode cX12_bends 133 = .ok (.iload 5, 2) := by decide +kernel
theorem dX12_bends_135 : decode cX12_bends 135 = .ok (.iload 6, 2) := by decide +kernel
theorem dX12_bends_137 : decode cX12_bends 137 = .ok (.invokestatic 501, 3) := by decide +kernel
theorem dX12_bends_140 : decode cX12_bends 140 = .ok (.laload, 1) := by decide +kernel
theorem dX12_bends_141 : decode cX12_bends 141 = .ok (.lload_n 3, 1) := by decide +kernel
theorem dX12_bends_142 : decode cX12_bends 142 = .ok (.lcmp, 1) := by decide +kernel
theorem dX12_bends_143 : decode cX12_bends 143 = .ok (.ifCond .ge 19, 3) := by decide +kernel
theorem dX12_bends_146 : decode cX12_bends 146 = .ok (.aload_n 0, 1) := by decide +kernel
theorem dX12_bends_147 : decode cX12_bends 147 = .ok (.getfield 129, 3) := by decide +kernel
theorem dX12_bends_150 : decode cX12_bends 150 = .ok (.iconst 0, 1) := by decide +kernel
theorem dX12_bends_151 : decode cX12_bends 151 = .ok (.iload 5, 2) := by decide +kernel
theorem dX12_bends_153 : decode cX12_bends 153 = .ok (.iload 6, 2) := by decide +kernel
theorem dX12_bends_155 : decode cX12_bends 155 = .ok (.invokestatic 501, 3) := by decide +kernel
theorem dX12_bends_158 : decode cX12_bends 158 = .ok (.laload, 1) := by decide +kernel
theorem dX12_bends_159 : decode cX12_bends 159 = .ok (.goto 4, 3) := by decide +kernel
theorem dX12_bends_162 : decode cX12_bends 162 = .ok (.lload_n 3, 1) := by decide +kernel
theorem dX12_bends_163 : decode cX12_bends 163 = .ok (.lstore_n 3, 1) := by decide +kernel
theorem dX12_bends_164 : decode cX12_bends 164 = .ok (.iinc 6 1, 3) := by decide +kernel
theorem dX12_bends_167 : decode cX12_bends 167 = .ok (.goto (-49), 3) := by decide +kernel
theorem dX12_bends_170 : decode cX12_bends 170 = .ok (.iinc 5 1, 3) := by decide +kernel
theorem dX12_bends_173 : decode cX12_bends 173 = .ok (.goto (-68), 3) := by decide +kernel
theorem dX12_bends_176 : decode cX12_bends 176 = .ok (.iconst 0, 1) := by decide +kernel
theorem dX12_bends_177 : decode cX12_bends 177 = .ok (.istore 5, 2) := by decide +kernel
theorem dX12_bends_179 : decode cX12_bends 179 = .ok (.iconst 0, 1) := by decide +kernel
theorem dX12_bends_180 : decode cX12_bends 180 = .ok (.istore 6, 2) := by decide +kernel
theorem dX12_bends_182 : decode cX12_bends 182 = .ok (.aload_n 0, 1) := by decide +kernel
theorem dX12_bends_183 : decode cX12_bends 183 = .ok (.getfield 129, 3) := by decide +kernel
theorem dX12_bends_186 : decode cX12_bends 186 = .ok (.iconst 0, 1) := by decide +kernel
theorem dX12_bends_187 : decode cX12_bends 187 = .ok (.iload 5, 2) := by decide +kernel
theorem dX12_bends_189 : decode cX12_bends 189 = .ok (.iload 6, 2) := by decide +kernel
theorem dX12_bends_191 : decode cX12_bends 191 = .ok (.invokestatic 501, 3) := by decide +kernel
theorem dX12_bends_194 : decode cX12_bends 194 = .ok (.laload, 1) := by decide +kernel
theorem dX12_bends_195 : decode cX12_bends 195 = .ok (.lload_n 3, 1) := by decide +kernel
theorem dX12_bends_196 : decode cX12_bends 196 = .ok (.lcmp, 1) := by decide +kernel
theorem dX12_bends_197 : decode cX12_bends 197 = .ok (.ifCond .eq 28, 3) := by decide +kernel
theorem dX12_bends_200 : decode cX12_bends 200 = .ok (.iinc 6 1, 3) := by decide +kernel
theorem dX12_bends_203 : decode cX12_bends 203 = .ok (.iload 6, 2) := by decide +kernel
theorem dX12_bends_205 : decode cX12_bends 205 = .ok (.aload_n 0, 1) := by decide +kernel
theorem dX12_bends_206 : decode cX12_bends 206 = .ok (.iconst 1, 1) := by decide +kernel
theorem dX12_bends_207 : decode cX12_bends 207 = .ok (.invokevirtual 494, 3) := by decide +kernel
theorem dX12_bends_210 : decode cX12_bends 210 = .ok (.if_icmp .ge 6, 3) := by decide +kernel
theorem dX12_bends_213 : decode cX12_bends 213 = .ok (.goto (-31), 3) := by decide +kernel
theorem dX12_bends_216 : decode cX12_bends 216 = .ok (.iconst 0, 1) := by decide +kernel
theorem dX12_bends_217 : decode cX12_bends 217 = .ok (.istore 6, 2) := by decide +kernel
theorem dX12_bends_219 : decode cX12_bends 219 = .ok (.iinc 5 1, 3) := by decide +kernel
theorem dX12_bends_222 : decode cX12_bends 222 = .ok (.goto (-40), 3) := by decide +kernel
theorem dX12_bends_225 : decode cX12_bends 225 = .ok (.aload_n 0, 1) := by decide +kernel
theorem dX12_bends_226 : decode cX12_bends 226 = .ok (.getfield 124, 3) := by decide +kernel
theorem dX12_bends_229 : decode cX12_bends 229 = .ok (.iload_n 1, 1) := by decide +kernel
theorem dX12_bends_230 : decode cX12_bends 230 = .ok (.lload_n 3, 1) := by decide +kernel
theorem dX12_bends_231 : decode cX12_bends 231 = .ok (.lastore, 1) := by decide +kernel
theorem dX12_bends_232 : decode cX12_bends 232 = .ok (.aload_n 0, 1) := by decide +kernel
theorem dX12_bends_233 : decode cX12_bends 233 = .ok (.getfield 121, 3) := by decide +kernel
theorem dX12_bends_236 : decode cX12_bends 236 = .ok (.bipush 24, 2) := by decide +kernel
theorem dX12_bends_238 : decode cX12_bends 238 = .ok (.iload_n 1, 1) := by decide +kernel
theorem dX12_bends_239 : decode cX12_bends 239 = .ok (.imul, 1) := by decide +kernel
theorem dX12_bends_240 : decode cX12_bends 240 = .ok (.aload_n 0, 1) := by decide +kernel
theorem dX12_bends_241 : decode cX12_bends 241 = .ok (.getfield 97, 3) := by decide +kernel
theorem dX12_bends_244 : decode cX12_bends 244 = .ok (.iconst 0, 1) := by decide +kernel
theorem dX12_bends_245 : decode cX12_bends 245 = .ok (.iaload, 1) := by decide +kernel
theorem dX12_bends_246 : decode cX12_bends 246 = .ok (.iload 5, 2) := by decide +kernel
theorem dX12_bends_248 : decode cX12_bends 248 = .ok (.iadd, 1) := by decide +kernel
theorem dX12_bends_249 : decode cX12_bends 249 = .ok (.iastore, 1) := by decide +kernel
theorem dX12_bends_250 : decode cX12_bends 250 = .ok (.aload_n 0, 1) := by decide +kernel
theorem dX12_bends_251 : decode cX12_bends 251 = .ok (.getfield 121, 3) := by decide +kernel
theorem dX12_bends_254 : decode cX12_bends 254 = .ok (.bipush 24, 2) := by decide +kernel
theorem dX12_bends_256 : decode cX12_bends 256 = .ok (.iload_n 1, 1) := by decide +kernel
theorem dX12_bends_257 : decode cX12_bends 257 = .ok (.imul, 1) := by decide +kernel
theorem dX12_bends_258 : decode cX12_bends 258 = .ok (.iconst 1, 1) := by decide +kernel
theorem dX12_bends_259 : decode cX12_bends 259 = .ok (.iadd, 1) := by decide +kernel
theorem dX12_bends_260 : decode cX12_bends 260 = .ok (.aload_n 0, 1) := by decide +kernel
theorem dX12_bends_261 : decode cX12_bends 261 = .ok (.getfield 97, 3) := by decide +kernel
theorem dX12_bends_264 : decode cX12_bends 264 = .ok (.iconst 1, 1) := by decide +kernel
theorem dX12_bends_265 : decode cX12_bends 265 = .ok (.iaload, 1) := by decide +kernel
theorem dX12_bends_266 : decode cX12_bends 266 = .ok (.iload 6, 2) := by decide +kernel
theorem dX12_bends_268 : decode cX12_bends 268 = .ok (.iadd, 1) := by decide +kernel
theorem dX12_bends_269 : decode cX12_bends 269 = .ok (.iastore, 1) := by decide +kernel
theorem dX12_bends_270 : decode cX12_bends 270 = .ok (.iconst 0, 1) := by decide +kernel
theorem dX12_bends_271 : decode cX12_bends 271 = .ok (.istore 7, 2) := by decide +kernel
theorem dX12_bends_273 : decode cX12_bends 273 = .ok (.iload 7, 2) := by decide +kernel
theorem dX12_bends_275 : decode cX12_bends 275 = .ok (.iload_n 2, 1) := by decide +kernel
theorem dX12_bends_276 : decode cX12_bends 276 = .ok (.if_icmp .ge 99, 3) := by decide +kernel
theorem dX12_bends_279 : decode cX12_bends 279 = .ok (.iconst 0, 1) := by decide +kernel
theorem dX12_bends_280 : decode cX12_bends 280 = .ok (.istore 8, 2) := by decide +kernel
theorem dX12_bends_282 : decode cX12_bends 282 = .ok (.aload_n 0, 1) := by decide +kernel
theorem dX12_bends_283 : decode cX12_bends 283 = .ok (.iload 7, 2) := by decide +kernel
theorem dX12_bends_285 : decode cX12_bends 285 = .ok (.iload 5, 2) := by decide +kernel
theorem dX12_bends_287 : decode cX12_bends 287 = .ok (.iload 6, 2) := by decide +kernel
theorem dX12_bends_289 : decode cX12_bends 289 = .ok (.iload 8, 2) := by decide +kernel
theorem dX12_bends_291 : decode cX12_bends 291 = .ok (.invokevirtual 497, 3) := by decide +kernel
theorem dX12_bends_294 : decode cX12_bends 294 = .ok (.aload_n 0, 1) := by decide +kernel
theorem dX12_bends_295 : decode cX12_bends 295 = .ok (.getfield 129, 3) := by decide +kernel
theorem dX12_bends_298 : decode cX12_bends 298 = .ok (.iload 7, 2) := by decide +kernel
theorem dX12_bends_300 : decode cX12_bends 300 = .ok (.iconst 1, 1) := by decide +kernel
theorem dX12_bends_301 : decode cX12_bends 301 = .ok (.iadd, 1) := by decide +kernel
theorem dX12_bends_302 : decode cX12_bends 302 = .ok (.iload 6, 2) := by decide +kernel
theorem dX12_bends_304 : decode cX12_bends 304 = .ok (.iload 8, 2) := by decide +kernel
theorem dX12_bends_306 : decode cX12_bends 306 = .ok (.invokestatic 501, 3) := by decide +kernel
theorem dX12_bends_309 : decode cX12_bends 309 = .ok (.laload, 1) := by decide +kernel
theorem dX12_bends_310 : decode cX12_bends 310 = .ok (.ladd, 1) := by decide +kernel
theorem dX12_bends_311 : decode cX12_bends 311 = .ok (.aload_n 0, 1) := by decide +kernel
theorem dX12_bends_312 : decode cX12_bends 312 = .ok (.getfield 129, 3) := by decide +kernel
theorem dX12_bends_315 : decode cX12_bends 315 = .ok (.iload 7, 2) := by decide +kernel
theorem dX12_bends_317 : decode cX12_bends 317 = .ok (.iload 5, 2) := by decide +kernel
theorem dX12_bends_319 : decode cX12_bends 319 = .ok (.iload 6, 2) := by decide +kernel
theorem dX12_bends_321 : decode cX12_bends 321 = .ok (.invokestatic 501, 3) := by decide +kernel
theorem dX12_bends_324 : decode cX12_bends 324 = .ok (.laload, 1) := by decide +kernel
theorem dX12_bends_325 : decode cX12_bends 325 = .ok (.lcmp, 1) := by decide +kernel
theorem dX12_bends_326 : decode cX12_bends 326 = .ok (.ifCond .eq 9, 3) := by decide +kernel
theorem dX12_bends_329 : decode cX12_bends 329 = .ok (.iinc 8 1, 3) := by decide +kernel
theorem dX12_bends_332 : decode cX12_bends 332 = .ok (.goto (-50), 3) := by decide +kernel
theorem dX12_bends_335 : decode cX12_bends 335 = .ok (.aload_n 0, 1) := by decide +kernel
theorem dX12_bends_336 : decode cX12_bends 336 = .ok (.getfield 121, 3) := by decide +kernel
theorem dX12_bends_339 : decode cX12_bends 339 = .ok (.bipush 24, 2) := by decide +kernel
theorem dX12_bends_341 : decode cX12_bends 341 = .ok (.iload_n 1, 1) := by decide +kernel
theorem dX12_bends_342 : decode cX12_bends 342 = .ok (.imul, 1) := by decide +kernel
theorem dX12_bends_343 : decode cX12_bends 343 = .ok (.iload 7, 2) := by decide +kernel
theorem dX12_bends_345 : decode cX12_bends 345 = .ok (.iadd, 1) := by decide +kernel
theorem dX12_bends_346 : decode cX12_bends 346 = .ok (.iconst 2, 1) := by decide +kernel
theorem dX12_bends_347 : decode cX12_bends 347 = .ok (.iadd, 1) := by decide +kernel
theorem dX12_bends_348 : decode cX12_bends 348 = .ok (.aload_n 0, 1) := by decide +kernel
theorem dX12_bends_349 : decode cX12_bends 349 = .ok (.getfield 97, 3) := by decide +kernel
theorem dX12_bends_352 : decode cX12_bends 352 = .ok (.iload 7, 2) := by decide +kernel
theorem dX12_bends_354 : decode cX12_bends 354 = .ok (.iconst 2, 1) := by decide +kernel
theorem dX12_bends_355 : decode cX12_bends 355 = .ok (.iadd, 1) := by decide +kernel
theorem dX12_bends_356 : decode cX12_bends 356 = .ok (.iaload, 1) := by decide +kernel
theorem dX12_bends_357 : decode cX12_bends 357 = .ok (.iload 8, 2) := by decide +kernel
theorem dX12_bends_359 : decode cX12_bends 359 = .ok (.iadd, 1) := by decide +kernel
theorem dX12_bends_360 : decode cX12_bends 360 = .ok (.iastore, 1) := by decide +kernel
theorem dX12_bends_361 : decode cX12_bends 361 = .ok (.iload 6, 2) := by decide +kernel
theorem dX12_bends_363 : decode cX12_bends 363 = .ok (.istore 5, 2) := by decide +kernel
theorem dX12_bends_365 : decode cX12_bends 365 = .ok (.iload 8, 2) := by decide +kernel
theorem dX12_bends_367 : decode cX12_bends 367 = .ok (.istore 6, 2) := by decide +kernel
theorem dX12_bends_369 : decode cX12_bends 369 = .ok (.iinc 7 1, 3) := by decide +kernel
theorem dX12_bends_372 : decode cX12_bends 372 = .ok (.goto (-99), 3) := by decide +kernel
theorem dX12_bends_375 : decode cX12_bends 375 = .ok (.return_, 1) := by decide +kernel
theorem dX12_isBent_0 : decode cX12_isBent 0 = .ok (.aload_n 0, 1) := by decide +kernel
theorem dX12_isBent_1 : decode cX12_isBent 1 = .ok (.iload_n 1, 1) := by decide +kernel
theorem dX12_isBent_2 : decode cX12_isBent 2 = .ok (.invokevirtual 347, 3) := by decide +kernel
theorem dX12_isBent_5 : decode cX12_isBent 5 = .ok (.ifCond .eq 10, 3) := by decide +kernel
theorem dX12_isBent_8 : decode cX12_isBent 8 = .ok (.iload_n 2, 1) := by decide +kernel
theorem dX12_isBent_9 : decode cX12_isBent 9 = .ok (.invokestatic 484, 3) := by decide +kernel
theorem dX12_isBent_12 : decode cX12_isBent 12 = .ok (.ifCond .ne 5, 3) := by decide +kernel
theorem dX12_isBent_15 : decode cX12_isBent 15 = .ok (.iconst 0, 1) := by decide +kernel
theorem dX12_isBent_16 : decode cX12_isBent 16 = .ok (.ireturn, 1) := by decide +kernel
theorem dX12_isBent_17 : decode cX12_isBent 17 = .ok (.aload_n 0, 1) := by decide +kernel
theorem dX12_isBent_18 : decode cX12_isBent 18 = .ok (.getfield 115, 3) := by decide +kernel
theorem dX12_isBent_21 : decode cX12_isBent 21 = .ok (.iload_n 1, 1) := by decide +kernel
theorem dX12_isBent_22 : decode cX12_isBent 22 = .ok (.baload, 1) := by decide +kernel
theorem dX12_isBent_23 : decode cX12_isBent 23 = .ok (.ifCond .eq 13, 3) := by decide +kernel
theorem dX12_isBent_26 : decode cX12_isBent 26 = .ok (.aload_n 0, 1) := by decide +kernel
theorem dX12_isBent_27 : decode cX12_isBent 27 = .ok (.getfield 112, 3) := by decide +kernel
theorem dX12_isBent_30 : decode cX12_isBent 30 = .ok (.iload_n 1, 1) := by decide +kernel
theorem dX12_isBent_31 : decode cX12_isBent 31 = .ok (.iaload, 1) := by decide +kernel
theorem dX12_isBent_32 : decode cX12_isBent 32 = .ok (.iload_n 2, 1) := by decide +kernel
theorem dX12_isBent_33 : decode cX12_isBent 33 = .ok (.if_icmp .eq 43, 3) := by decide +kernel
theorem dX12_isBent_36 : decode cX12_isBent 36 = .ok (.aload_n 0, 1) := by decide +kernel
theorem dX12_isBent_37 : decode cX12_isBent 37 = .ok (.getfield 118, 3) := by decide +kernel
theorem dX12_isBent_40 : decode cX12_isBent 40 = .ok (.iload_n 1, 1) := by decide +kernel
theorem dX12_isBent_41 : decode cX12_isBent 41 = .ok (.aload_n 0, 1) := by decide +kernel
theorem dX12_isBent_42 : decode cX12_isBent 42 = .ok (.iload_n 1, 1) := by decide +kernel
theorem dX12_isBent_43 : decode cX12_isBent 43 = .ok (.iload_n 2, 1) := by decide +kernel
theorem dX12_isBent_44 : decode cX12_isBent 44 = .ok (.invokevirtual 487, 3) := by decide +kernel
theorem dX12_isBent_47 : decode cX12_isBent 47 = .ok (.bastore, 1) := by decide +kernel
theorem dX12_isBent_48 : decode cX12_isBent 48 = .ok (.aload_n 0, 1) := by decide +kernel
theorem dX12_isBent_49 : decode cX12_isBent 49 = .ok (.getfield 118, 3) := by decide +kernel
theorem dX12_isBent_52 : decode cX12_isBent 52 = .ok (.iload_n 1, 1) := by decide +kernel
theorem dX12_isBent_53 : decode cX12_isBent 53 = .ok (.baload, 1) := by decide +kernel
theorem dX12_isBent_54 : decode cX12_isBent 54 = .ok (.ifCond .eq 8, 3) := by decide +kernel
theorem dX12_isBent_57 : decode cX12_isBent 57 = .ok (.aload_n 0, 1) := by decide +kernel
theorem dX12_isBent_58 : decode cX12_isBent 58 = .ok (.iload_n 1, 1) := by decide +kernel
theorem dX12_isBent_59 : decode cX12_isBent 59 = .ok (.invokevirtual 508, 3) := by decide +kernel
theorem dX12_isBent_62 : decode cX12_isBent 62 = .ok (.aload_n 0, 1) := by decide +kernel
theorem dX12_isBent_63 : decode cX12_isBent 63 = .ok (.getfield 115, 3) := by decide +kernel
theorem dX12_isBent_66 : decode cX12_isBent 66 = .ok (.iload_n 1, 1) := by decide +kernel
theorem dX12_isBent_67 : decode cX12_isBent 67 = .ok (.iconst 1, 1) := by decide +kernel
theorem dX12_isBent_68 : decode cX12_isBent 68 = .ok (.bastore, 1) := by decide +kernel
theorem dX12_isBent_69 : decode cX12_isBent 69 = .ok (.aload_n 0, 1) := by decide +kernel
theorem dX12_isBent_70 : decode cX12_isBent 70 = .ok (.getfield 112, 3) := by decide +kernel
theorem dX12_isBent_73 : decode cX12_isBent 73 = .ok (.iload_n 1, 1) := by decide +kernel
theorem dX12_isBent_74 : decode cX12_isBent 74 = .ok (.iload_n 2, 1) := by decide +kernel
theorem dX12_isBent_75 : decode cX12_isBent 75 = .ok (.iastore, 1) := by decide +kernel
theorem dX12_isBent_76 : decode cX12_isBent 76 = .ok (.aload_n 0, 1) := by decide +kernel
theorem dX12_isBent_77 : decode cX12_isBent 77 = .ok (.getfield 118, 3) := by decide +kernel
theorem dX12_isBent_80 : decode cX12_isBent 80 = .ok (.iload_n 1, 1) := by decide +kernel
theorem dX12_isBent_81 : decode cX12_isBent 81 = .ok (.baload, 1) := by decide +kernel
theorem dX12_isBent_82 : decode cX12_isBent 82 = .ok (.ireturn, 1) := by decide +kernel
theorem dX12_bentAt_0 : decode cX12_bentAt 0 = .ok (.aload_n 0, 1) := by decide +kernel
theorem dX12_bentAt_1 : decode cX12_bentAt 1 = .ok (.getfield 121, 3) := by decide +kernel
theorem dX12_bentAt_4 : decode cX12_bentAt 4 = .ok (.bipush 24, 2) := by decide +kernel
theorem dX12_bentAt_6 : decode cX12_bentAt 6 = .ok (.iload_n 1, 1) := by decide +kernel
theorem dX12_bentAt_7 : decode cX12_bentAt 7 = .ok (.imul, 1) := by decide +kernel
theorem dX12_bentAt_8 : decode cX12_bentAt 8 = .ok (.iload_n 2, 1) := by decide +kernel
theorem dX12_bentAt_9 : decode cX12_bentAt 9 = .ok (.iadd, 1) := by decide +kernel
theorem dX12_bentAt_10 : decode cX12_bentAt 10 = .ok (.iaload, 1) := by decide +kernel
theorem dX12_bentAt_11 : decode cX12_bentAt 11 = .ok (.ireturn, 1) := by decide +kernel
theorem dX12_batten_0 : decode cX12_batten 0 = .ok (.iload_n 3, 1) := by decide +kernel
theorem dX12_batten_1 : decode cX12_batten 1 = .ok (.iconst (-1), 1) := by decide +kernel
theorem dX12_batten_2 : decode cX12_batten 2 = .ok (.if_icmp .eq 11, 3) := by decide +kernel
theorem dX12_batten_5 : decode cX12_batten 5 = .ok (.aload_n 0, 1) := by decide +kernel
theorem dX12_batten_6 : decode cX12_batten 6 = .ok (.iload_n 3, 1) := by decide +kernel
theorem dX12_batten_7 : decode cX12_batten 7 = .ok (.invokevirtual 344, 3) := by decide +kernel
theorem dX12_batten_10 : decode cX12_batten 10 = .ok (.ifCond .eq 12, 3) := by decide +kernel
theorem dX12_batten_13 : decode cX12_batten 13 = .ok (.aload_n 0, 1) := by decide +kernel
theorem dX12_batten_14 : decode cX12_batten 14 = .ok (.iload_n 1, 1) := by decide +kernel
theorem dX12_batten_15 : decode cX12_batten 15 = .ok (.iload_n 2, 1) := by decide +kernel
theorem dX12_batten_16 : decode cX12_batten 16 = .ok (.invokevirtual 511, 3) := by decide +kernel
theorem dX12_batten_19 : decode cX12_batten 19 = .ok (.ifCond .ne 7, 3) := by decide +kernel
theorem dX12_batten_22 : decode cX12_batten 22 = .ok (.ldc2_w 514, 3) := by decide +kernel
theorem dX12_batten_25 : decode cX12_batten 25 = .ok (.lreturn, 1) := by decide +kernel
theorem dX12_batten_26 : decode cX12_batten 26 = .ok (.iload_n 3, 1) := by decide +kernel
theorem dX12_batten_27 : decode cX12_batten 27 = .ok (.iconst (-1), 1) := by decide +kernel
theorem dX12_batten_28 : decode cX12_batten 28 = .ok (.if_icmp .ne 12, 3) := by decide +kernel
theorem dX12_batten_31 : decode cX12_batten 31 = .ok (.aload_n 0, 1) := by decide +kernel
theorem dX12_batten_32 : decode cX12_batten 32 = .ok (.getfield 124, 3) := by decide +kernel
theorem dX12_batten_35 : decode cX12_batten 35 = .ok (.iload_n 1, 1) := by decide +kernel
theorem dX12_batten_36 : decode cX12_batten 36 = .ok (.laload, 1) := by decide +kernel
theorem dX12_batten_37 : decode cX12_batten 37 = .ok (.goto 10, 3) := by decide +kernel
theorem dX12_batten_40 : decode cX12_batten 40 = .ok (.aload_n 0, 1) := by decide +kernel
theorem dX12_batten_41 : decode cX12_batten 41 = .ok (.iload_n 1, 1) := by decide +kernel
theorem dX12_batten_42 : decode cX12_batten 42 = .ok (.iload_n 3, 1) := by decide +kernel
theorem dX12_batten_43 : decode cX12_batten 43 = .ok (.invokevirtual 516, 3) := by decide +kernel
theorem dX12_batten_46 : decode cX12_batten 46 = .ok (.i2l, 1) := by decide +kernel
theorem dX12_batten_47 : decode cX12_batten 47 = .ok (.lreturn, 1) := by decide +kernel
theorem dX12_lost_0 : decode cX12_lost 0 = .ok (.iload_n 3, 1) := by decide +kernel
theorem dX12_lost_1 : decode cX12_lost 1 = .ok (.i2l, 1) := by decide +kernel
theorem dX12_lost_2 : decode cX12_lost 2 = .ok (.lconst 0, 1) := by decide +kernel
theorem dX12_lost_3 : decode cX12_lost 3 = .ok (.lconst 1, 1) := by decide +kernel
theorem dX12_lost_4 : decode cX12_lost 4 = .ok (.invokestatic 155, 3) := by decide +kernel
theorem dX12_lost_7 : decode cX12_lost 7 = .ok (.ifCond .eq 12, 3) := by decide +kernel
theorem dX12_lost_10 : decode cX12_lost 10 = .ok (.aload_n 0, 1) := by decide +kernel
theorem dX12_lost_11 : decode cX12_lost 11 = .ok (.iload_n 1, 1) := by decide +kernel
theorem dX12_lost_12 : decode cX12_lost 12 = .ok (.iload_n 2, 1) := by decide +kernel
theorem dX12_lost_13 : decode cX12_lost 13 = .ok (.invokevirtual 511, 3) := by decide +kernel
theorem dX12_lost_16 : decode cX12_lost 16 = .ok (.ifCond .ne 5, 3) := by decide +kernel
theorem dX12_lost_19 : decode cX12_lost 19 = .ok (.iconst (-1), 1) := by decide +kernel
theorem dX12_lost_20 : decode cX12_lost 20 = .ok (.ireturn, 1) := by decide +kernel
theorem dX12_lost_21 : decode cX12_lost 21 = .ok (.aload_n 0, 1) := by decide +kernel
theorem dX12_lost_22 : decode cX12_lost 22 = .ok (.iload_n 1, 1) := by decide +kernel
theorem dX12_lost_23 : decode cX12_lost 23 = .ok (.iload_n 3, 1) := by decide +kernel
theorem dX12_lost_24 : decode cX12_lost 24 = .ok (.ifCond .ne 7, 3) := by decide +kernel
theorem dX12_lost_27 : decode cX12_lost 27 = .ok (.iconst 0, 1) := by decide +kernel
theorem dX12_lost_28 : decode cX12_lost 28 = .ok (.goto 9, 3) := by decide +kernel
theorem dX12_lost_31 : decode cX12_lost 31 = .ok (.aload_n 0, 1) := by decide +kernel
theorem dX12_lost_32 : decode cX12_lost 32 = .ok (.getfield 338, 3) := by decide +kernel
theorem dX12_lost_35 : decode cX12_lost 35 = .ok (.iconst 1, 1) := by decide +kernel
theorem dX12_lost_36 : decode cX12_lost 36 = .ok (.isub, 1) := by decide +kernel
theorem dX12_lost_37 : decode cX12_lost 37 = .ok (.invokevirtual 516, 3) := by decide +kernel
theorem dX12_lost_40 : decode cX12_lost 40 = .ok (.istore 4, 2) := by decide +kernel
theorem dX12_lost_42 : decode cX12_lost 42 = .ok (.aload_n 0, 1) := by decide +kernel
theorem dX12_lost_43 : decode cX12_lost 43 = .ok (.iload_n 1, 1) := by decide +kernel
theorem dX12_lost_44 : decode cX12_lost 44 = .ok (.iload_n 3, 1) := by decide +kernel
theorem dX12_lost_45 : decode cX12_lost 45 = .ok (.ifCond .ne 7, 3) := by decide +kernel
theorem dX12_lost_48 : decode cX12_lost 48 = .ok (.iconst 1, 1) := by decide +kernel
theorem dX12_lost_49 : decode cX12_lost 49 = .ok (.goto 9, 3) := by decide +kernel
theorem dX12_lost_52 : decode cX12_lost 52 = .ok (.aload_n 0, 1) := by decide +kernel
theorem dX12_lost_53 : decode cX12_lost 53 = .ok (.getfield 338, 3) := by decide +kernel
theorem dX12_lost_56 : decode cX12_lost 56 = .ok (.iconst 2, 1) := by decide +kernel
theorem dX12_lost_57 : decode cX12_lost 57 = .ok (.isub, 1) := by decide +kernel
theorem dX12_lost_58 : decode cX12_lost 58 = .ok (.invokevirtual 516, 3) := by decide +kernel
theorem dX12_lost_61 : decode cX12_lost 61 = .ok (.istore 5, 2) := by decide +kernel
theorem dX12_lost_63 : decode cX12_lost 63 = .ok (.iload 4, 2) := by decide +kernel
theorem dX12_lost_65 : decode cX12_lost 65 = .ok (.iload 5, 2) := by decide +kernel
theorem dX12_lost_67 : decode cX12_lost 67 = .ok (.if_icmp .lt 6, 3) := by decide +kernel
theorem dX12_lost_70 : decode cX12_lost 70 = .ok (.bipush (-2), 2) := by decide +kernel
theorem dX12_lost_72 : decode cX12_lost 72 = .ok (.ireturn, 1) := by decide +kernel
theorem dX12_lost_73 : decode cX12_lost 73 = .ok (.iload 4, 2) := by decide +kernel
theorem dX12_lost_75 : decode cX12_lost 75 = .ok (.ifCond .gt 5, 3) := by decide +kernel
theorem dX12_lost_78 : decode cX12_lost 78 = .ok (.iconst 0, 1) := by decide +kernel
theorem dX12_lost_79 : decode cX12_lost 79 = .ok (.ireturn, 1) := by decide +kernel
theorem dX12_lost_80 : decode cX12_lost 80 = .ok (.iload 5, 2) := by decide +kernel
theorem dX12_lost_82 : decode cX12_lost 82 = .ok (.iload 4, 2) := by decide +kernel
theorem dX12_lost_84 : decode cX12_lost 84 = .ok (.isub, 1) := by decide +kernel
theorem dX12_lost_85 : decode cX12_lost 85 = .ok (.istore 6, 2) := by decide +kernel
theorem dX12_lost_87 : decode cX12_lost 87 = .ok (.iload 4, 2) := by decide +kernel
theorem dX12_lost_89 : decode cX12_lost 89 = .ok (.iload 6, 2) := by decide +kernel
theorem dX12_lost_91 : decode cX12_lost 91 = .ok (.iadd, 1) := by decide +kernel
theorem dX12_lost_92 : decode cX12_lost 92 = .ok (.iconst 1, 1) := by decide +kernel
theorem dX12_lost_93 : decode cX12_lost 93 = .ok (.isub, 1) := by decide +kernel
theorem dX12_lost_94 : decode cX12_lost 94 = .ok (.iload 6, 2) := by decide +kernel
theorem dX12_lost_96 : decode cX12_lost 96 = .ok (.idiv, 1) := by decide +kernel
theorem dX12_lost_97 : decode cX12_lost 97 = .ok (.ireturn, 1) := by decide +kernel
theorem dX12_size_0 : decode cX12_size 0 = .ok (.aload_n 0, 1) := by decide +kernel
theorem dX12_size_1 : decode cX12_size 1 = .ok (.iload_n 1, 1) := by decide +kernel
theorem dX12_size_2 : decode cX12_size 2 = .ok (.iload_n 2, 1) := by decide +kernel
theorem dX12_size_3 : decode cX12_size 3 = .ok (.iload_n 3, 1) := by decide +kernel
theorem dX12_size_4 : decode cX12_size 4 = .ok (.invokevirtual 402, 3) := by decide +kernel
theorem dX12_size_7 : decode cX12_size 7 = .ok (.ifCond .eq 16, 3) := by decide +kernel
theorem dX12_size_10 : decode cX12_size 10 = .ok (.iload 4, 2) := by decide +kernel
theorem dX12_size_12 : decode cX12_size 12 = .ok (.i2l, 1) := by decide +kernel
theorem dX12_size_13 : decode cX12_size 13 = .ok (.lconst 0, 1) := by decide +kernel
theorem dX12_size_14 : decode cX12_size 14 = .ok (.ldc2_w 519, 3) := by decide +kernel
theorem dX12_size_17 : decode cX12_size 17 = .ok (.invokestatic 155, 3) := by decide +kernel
theorem dX12_size_20 : decode cX12_size 20 = .ok (.ifCond .ne 5, 3) := by decide +kernel
theorem dX12_size_23 : decode cX12_size 23 = .ok (.iconst 0, 1) := by decide +kernel
theorem dX12_size_24 : decode cX12_size 24 = .ok (.ireturn, 1) := by decide +kernel
theorem dX12_size_25 : decode cX12_size 25 = .ok (.iload_n 1, 1) := by decide +kernel
theorem dX12_size_26 : decode cX12_size 26 = .ok (.iload_n 2, 1) := by decide +kernel
theorem dX12_size_27 : decode cX12_size 27 = .ok (.iload_n 3, 1) := by decide +kernel
theorem dX12_size_28 : decode cX12_size 28 = .ok (.invokestatic 350, 3) := by decide +kernel
theorem dX12_size_31 : decode cX12_size 31 = .ok (.istore 5, 2) := by decide +kernel
theorem dX12_size_33 : decode cX12_size 33 = .ok (.aload_n 0, 1) := by decide +kernel
theorem dX12_size_34 : decode cX12_size 34 = .ok (.getfield 372, 3) := by decide +kernel
theorem dX12_size_37 : decode cX12_size 37 = .ok (.aload_n 0, 1) := by decide +kernel
theorem dX12_size_38 : decode cX12_size 38 = .ok (.getfield 79, 3) := by decide +kernel
theorem dX12_size_41 : decode cX12_size 41 = .ok (.iload 5, 2) := by decide +kernel
theorem dX12_size_43 : decode cX12_size 43 = .ok (.iaload, 1) := by decide +kernel
theorem dX12_size_44 : decode cX12_size 44 = .ok (.ifCond .le 7, 3) := by decide +kernel
theorem dX12_size_47 : decode cX12_size 47 = .ok (.iconst 1, 1) := by decide +kernel
theorem dX12_size_48 : decode cX12_size 48 = .ok (.goto 4, 3) := by decide +kernel
theorem dX12_size_51 : decode cX12_size 51 = .ok (.iconst 0, 1) := by decide +kernel
theorem dX12_size_52 : decode cX12_size 52 = .ok (.isub, 1) := by decide +kernel
theorem dX12_size_53 : decode cX12_size 53 = .ok (.istore 6, 2) := by decide +kernel
theorem dX12_size_55 : decode cX12_size 55 = .ok (.iload 4, 2) := by decide +kernel
theorem dX12_size_57 : decode cX12_size 57 = .ok (.ifCond .le 12, 3) := by decide +kernel
theorem dX12_size_60 : decode cX12_size 60 = .ok (.iload 6, 2) := by decide +kernel
theorem dX12_size_62 : decode cX12_size 62 = .ok (.bipush 60, 2) := by decide +kernel
theorem dX12_size_64 : decode cX12_size 64 = .ok (.if_icmp .ne 5, 3) := by decide +kernel
theorem dX12_size_67 : decode cX12_size 67 = .ok (.iconst 0, 1) := by decide +kernel
theorem dX12_size_68 : decode cX12_size 68 = .ok (.ireturn, 1) := by decide +kernel
theorem dX12_size_69 : decode cX12_size 69 = .ok (.aload_n 0, 1) := by decide +kernel
theorem dX12_size_70 : decode cX12_size 70 = .ok (.iload 6, 2) := by decide +kernel
theorem dX12_size_72 : decode cX12_size 72 = .ok (.iload 4, 2) := by decide +kernel
theorem dX12_size_74 : decode cX12_size 74 = .ok (.ifCond .le 7, 3) := by decide +kernel
theorem dX12_size_77 : decode cX12_size 77 = .ok (.iconst 1, 1) := by decide +kernel
theorem dX12_size_78 : decode cX12_size 78 = .ok (.goto 4, 3) := by decide +kernel
theorem dX12_size_81 : decode cX12_size 81 = .ok (.iconst 0, 1) := by decide +kernel
theorem dX12_size_82 : decode cX12_size 82 = .ok (.iadd, 1) := by decide +kernel
theorem dX12_size_83 : decode cX12_size 83 = .ok (.putfield 372, 3) := by decide +kernel
theorem dX12_size_86 : decode cX12_size 86 = .ok (.aload_n 0, 1) := by decide +kernel
theorem dX12_size_87 : decode cX12_size 87 = .ok (.getfield 79, 3) := by decide +kernel
theorem dX12_size_90 : decode cX12_size 90 = .ok (.iload 5, 2) := by decide +kernel
theorem dX12_size_92 : decode cX12_size 92 = .ok (.iload 4, 2) := by decide +kernel
theorem dX12_size_94 : decode cX12_size 94 = .ok (.iastore, 1) := by decide +kernel
theorem dX12_size_95 : decode cX12_size 95 = .ok (.iconst 1, 1) := by decide +kernel
theorem dX12_size_96 : decode cX12_size 96 = .ok (.ireturn, 1) := by decide +kernel
theorem dX12_commonSize_0 : decode cX12_commonSize 0 = .ok (.iconst 0, 1) := by decide +kernel
theorem dX12_commonSize_1 : decode cX12_commonSize 1 = .ok (.istore_n 1, 1) := by decide +kernel
theorem dX12_commonSize_2 : decode cX12_commonSize 2 = .ok (.iload_n 1, 1) := by decide +kernel
theorem dX12_commonSize_3 : decode cX12_commonSize 3 = .ok (.bipush 100, 2) := by decide +kernel
theorem dX12_commonSize_5 : decode cX12_commonSize 5 = .ok (.if_icmp .ge 16, 3) := by decide +kernel
theorem dX12_commonSize_8 : decode cX12_commonSize 8 = .ok (.aload_n 0, 1) := by decide +kernel
theorem dX12_commonSize_9 : decode cX12_commonSize 9 = .ok (.getfield 132, 3) := by decide +kernel
theorem dX12_commonSize_12 : decode cX12_commonSize 12 = .ok (.iload_n 1, 1) := by decide +kernel
theorem dX12_commonSize_13 : decode cX12_commonSize 13 = .ok (.iconst 0, 1) := by decide +kernel
theorem dX12_commonSize_14 : decode cX12_commonSize 14 = .ok (.iastore, 1) := by decide +kernel
theorem dX12_commonSize_15 : decode cX12_commonSize 15 = .ok (.iinc 1 1, 3) := by decide +kernel
theorem dX12_commonSize_18 : decode cX12_commonSize 18 = .ok (.goto (-16), 3) := by decide +kernel
theorem dX12_commonSize_21 : decode cX12_commonSize 21 = .ok (.iconst 0, 1) := by decide +kernel
theorem dX12_commonSize_22 : decode cX12_commonSize 22 = .ok (.istore_n 1, 1) := by decide +kernel
theorem dX12_commonSize_23 : decode cX12_commonSize 23 = .ok (.iload_n 1, 1) := by decide +kernel
theorem dX12_commonSize_24 : decode cX12_commonSize 24 = .ok (.aload_n 0, 1) := by decide +kernel
theorem dX12_commonSize_25 : decode cX12_commonSize 25 = .ok (.getfield 338, 3) := by decide +kernel
theorem dX12_commonSize_28 : decode cX12_commonSize 28 = .ok (.if_icmp .ge 58, 3) := by decide +kernel
theorem dX12_commonSize_31 : decode cX12_commonSize 31 = .ok (.iconst 0, 1) := by decide +kernel
theorem dX12_commonSize_32 : decode cX12_commonSize 32 = .ok (.istore_n 2, 1) := by decide +kernel
theorem dX12_commonSize_33 : decode cX12_commonSize 33 = .ok (.iload_n 2, 1) := by decide +kernel
theorem dX12_commonSize_34 : decode cX12_commonSize 34 = .ok (.aload_n 0, 1) := by decide +kernel
theorem dX12_commonSize_35 : decode cX12_commonSize 35 = .ok (.getfield 341, 3) := by decide +kernel
theorem dX12_commonSize_38 : decode cX12_commonSize 38 = .ok (.if_icmp .ge 42, 3) := by decide +kernel
theorem dX12_commonSize_41 : decode cX12_commonSize 41 = .ok (.iconst 0, 1) := by decide +kernel
theorem dX12_commonSize_42 : decode cX12_commonSize 42 = .ok (.istore_n 3, 1) := by decide +kernel
theorem dX12_commonSize_43 : decode cX12_commonSize 43 = .ok (.iload_n 3, 1) := by decide +kernel
theorem dX12_commonSize_44 : decode cX12_commonSize 44 = .ok (.iconst 2, 1) := by decide +kernel
theorem dX12_commonSize_45 : decode cX12_commonSize 45 = .ok (.if_icmp .ge 29, 3) := by decide +kernel
theorem dX12_commonSize_48 : decode cX12_commonSize 48 = .ok (.aload_n 0, 1) := by decide +kernel
theorem dX12_commonSize_49 : decode cX12_commonSize 49 = .ok (.getfield 132, 3) := by decide +kernel
theorem dX12_commonSize_52 : decode cX12_commonSize 52 = .ok (.aload_n 0, 1) := by decide +kernel
theorem dX12_commonSize_53 : decode cX12_commonSize 53 = .ok (.getfield 79, 3) := by decide +kernel
theorem dX12_commonSize_56 : decode cX12_commonSize 56 = .ok (.iload_n 1, 1) := by decide +kernel
theorem dX12_commonSize_57 : decode cX12_commonSize 57 = .ok (.iload_n 2, 1) := by decide +kernel
theorem dX12_commonSize_58 : decode cX12_commonSize 58 = .ok (.iload_n 3, 1) := by decide +kernel
theorem dX12_commonSize_59 : decode cX12_commonSize 59 = .ok (.invokestatic 350, 3) := by decide +kernel
theorem dX12_commonSize_62 : decode cX12_commonSize 62 = .ok (.iaload, 1) := by decide +kernel
theorem dX12_commonSize_63 : decode cX12_commonSize 63 = .ok (.dup2, 1) := by decide +kernel
theorem dX12_commonSize_64 : decode cX12_commonSize 64 = .ok (.iaload, 1) := by decide +kernel
theorem dX12_commonSize_65 : decode cX12_commonSize 65 = .ok (.iconst 1, 1) := by decide +kernel
theorem dX12_commonSize_66 : decode cX12_commonSize 66 = .ok (.iadd, 1) := by decide +kernel
theorem dX12_commonSize_67 : decode cX12_commonSize 67 = .ok (.iastore, 1) := by decide +kernel
theorem dX12_commonSize_68 : decode cX12_commonSize 68 = .ok (.iinc 3 1, 3) := by decide +kernel
theorem dX12_commonSize_71 : decode cX12_commonSize 71 = .ok (.goto (-28), 3) := by decide +kernel
theorem dX12_commonSize_74 : decode cX12_commonSize 74 = .ok (.iinc 2 1, 3) := by decide +kernel
theorem dX12_commonSize_77 : decode cX12_commonSize 77 = .ok (.goto (-44), 3) := by decide +kernel
theorem dX12_commonSize_80 : decode cX12_commonSize 80 = .ok (.iinc 1 1, 3) := by decide +kernel
theorem dX12_commonSize_83 : decode cX12_commonSize 83 = .ok (.goto (-60), 3) := by decide +kernel
theorem dX12_commonSize_86 : decode cX12_commonSize 86 = .ok (.iconst 1, 1) := by decide +kernel
theorem dX12_commonSize_87 : decode cX12_commonSize 87 = .ok (.istore_n 1, 1) := by decide +kernel
theorem dX12_commonSize_88 : decode cX12_commonSize 88 = .ok (.iconst 2, 1) := by decide +kernel
theorem dX12_commonSize_89 : decode cX12_commonSize 89 = .ok (.istore_n 2, 1) := by decide +kernel
theorem dX12_commonSize_90 : decode cX12_commonSize 90 = .ok (.iload_n 2, 1) := by decide +kernel
theorem dX12_commonSize_91 : decode cX12_commonSize 91 = .ok (.bipush 100, 2) := by decide +kernel
theorem dX12_commonSize_93 : decode cX12_commonSize 93 = .ok (.if_icmp .ge 30, 3) := by decide +kernel
theorem dX12_commonSize_96 : decode cX12_commonSize 96 = .ok (.aload_n 0, 1) := by decide +kernel
theorem dX12_commonSize_97 : decode cX12_commonSize 97 = .ok (.getfield 132, 3) := by decide +kernel
theorem dX12_commonSize_100 : decode cX12_commonSize 100 = .ok (.iload_n 2, 1) := by decide +kernel
theorem dX12_commonSize_101 : decode cX12_commonSize 101 = .ok (.iaload, 1) := by decide +kernel
theorem dX12_commonSize_102 : decode cX12_commonSize 102 = .ok (.aload_n 0, 1) := by decide +kernel
theorem dX12_commonSize_103 : decode cX12_commonSize 103 = .ok (.getfield 132, 3) := by decide +kernel
theorem dX12_commonSize_106 : decode cX12_commonSize 106 = .ok (.iload_n 1, 1) := by decide +kernel
theorem dX12_commonSize_107 : decode cX12_commonSize 107 = .ok (.iaload, 1) := by decide +kernel
theorem dX12_commonSize_108 : decode cX12_commonSize 108 = .ok (.if_icmp .le 7, 3) := by decide +kernel
theorem dX12_commonSize_111 : decode cX12_commonSize 111 = .ok (.iload_n 2, 1) := by decide +kernel
theorem dX12_commonSize_112 : decode cX12_commonSize 112 = .ok (.goto 4, 3) := by decide +kernel
theorem dX12_commonSize_115 : decode cX12_commonSize 115 = .ok (.iload_n 1, 1) := by decide +kernel
theorem dX12_commonSize_116 : decode cX12_commonSize 116 = .ok (.istore_n 1, 1) := by decide +kernel
theorem dX12_commonSize_117 : decode cX12_commonSize 117 = .ok (.iinc 2 1, 3) := by decide +kernel
theorem dX12_commonSize_120 : decode cX12_commonSize 120 = .ok (.goto (-30), 3) := by decide +kernel
theorem dX12_commonSize_123 : decode cX12_commonSize 123 = .ok (.iload_n 1, 1) := by decide +kernel
theorem dX12_commonSize_124 : decode cX12_commonSize 124 = .ok (.ireturn, 1) := by decide +kernel
theorem dX12_choices_0 : decode cX12_choices 0 = .ok (.iload_n 1, 1) := by decide +kernel
theorem dX12_choices_1 : decode cX12_choices 1 = .ok (.ifCond .lt 8, 3) := by decide +kernel
theorem dX12_choices_4 : decode cX12_choices 4 = .ok (.iload_n 1, 1) := by decide +kernel
theorem dX12_choices_5 : decode cX12_choices 5 = .ok (.iload_n 0, 1) := by decide +kernel
theorem dX12_choices_6 : decode cX12_choices 6 = .ok (.if_icmp .le 5, 3) := by decide +kernel
theorem dX12_choices_9 : decode cX12_choices 9 = .ok (.lconst 0, 1) := by decide +kernel
theorem dX12_choices_10 : decode cX12_choices 10 = .ok (.lreturn, 1) := by decide +kernel
theorem dX12_choices_11 : decode cX12_choices 11 = .ok (.lconst 1, 1) := by decide +kernel
theorem dX12_choices_12 : decode cX12_choices 12 = .ok (.lstore_n 2, 1) := by decide +kernel
theorem dX12_choices_13 : decode cX12_choices 13 = .ok (.iconst 1, 1) := by decide +kernel
theorem dX12_choices_14 : decode cX12_choices 14 = .ok (.istore 4, 2) := by decide +kernel
theorem dX12_choices_16 : decode cX12_choices 16 = .ok (.iload 4, 2) := by decide +kernel
theorem dX12_choices_18 : decode cX12_choices 18 = .ok (.iload_n 1, 1) := by decide +kernel
theorem dX12_choices_19 : decode cX12_choices 19 = .ok (.if_icmp .gt 23, 3) := by decide +kernel
theorem dX12_choices_22 : decode cX12_choices 22 = .ok (.lload_n 2, 1) := by decide +kernel
theorem dX12_choices_23 : decode cX12_choices 23 = .ok (.iload_n 0, 1) := by decide +kernel
theorem dX12_choices_24 : decode cX12_choices 24 = .ok (.iload_n 1, 1) := by decide +kernel
theorem dX12_choices_25 : decode cX12_choices 25 = .ok (.isub, 1) := by decide +kernel
theorem dX12_choices_26 : decode cX12_choices 26 = .ok (.iload 4, 2) := by decide +kernel
theorem dX12_choices_28 : decode cX12_choices 28 = .ok (.iadd, 1) := by decide +kernel
theorem dX12_choices_29 : decode cX12_choices 29 = .ok (.i2l, 1) := by decide +kernel
theorem dX12_choices_30 : decode cX12_choices 30 = .ok (.lmul, 1) := by decide +kernel
theorem dX12_choices_31 : decode cX12_choices 31 = .ok (.iload 4, 2) := by decide +kernel
theorem dX12_choices_33 : decode cX12_choices 33 = .ok (.i2l, 1) := by decide +kernel
theorem dX12_choices_34 : decode cX12_choices 34 = .ok (.ldiv, 1) := by decide +kernel
theorem dX12_choices_35 : decode cX12_choices 35 = .ok (.lstore_n 2, 1) := by decide +kernel
theorem dX12_choices_36 : decode cX12_choices 36 = .ok (.iinc 4 1, 3) := by decide +kernel
theorem dX12_choices_39 : decode cX12_choices 39 = .ok (.goto (-23), 3) := by decide +kernel
theorem dX12_choices_42 : decode cX12_choices 42 = .ok (.lload_n 2, 1) := by decide +kernel
theorem dX12_choices_43 : decode cX12_choices 43 = .ok (.lreturn, 1) := by decide +kernel
theorem dX12_divisor_0 : decode cX12_divisor 0 = .ok (.lload_n 0, 1) := by decide +kernel
theorem dX12_divisor_1 : decode cX12_divisor 1 = .ok (.lstore 4, 2) := by decide +kernel
theorem dX12_divisor_3 : decode cX12_divisor 3 = .ok (.lload_n 2, 1) := by decide +kernel
theorem dX12_divisor_4 : decode cX12_divisor 4 = .ok (.lstore 6, 2) := by decide +kernel
theorem dX12_divisor_6 : decode cX12_divisor 6 = .ok (.lload 6, 2) := by decide +kernel
theorem dX12_divisor_8 : decode cX12_divisor 8 = .ok (.lconst 0, 1) := by decide +kernel
theorem dX12_divisor_9 : decode cX12_divisor 9 = .ok (.lcmp, 1) := by decide +kernel
theorem dX12_divisor_10 : decode cX12_divisor 10 = .ok (.ifCond .eq 21, 3) := by decide +kernel
theorem dX12_divisor_13 : decode cX12_divisor 13 = .ok (.lload 4, 2) := by decide +kernel
theorem dX12_divisor_15 : decode cX12_divisor 15 = .ok (.lload 6, 2) := by decide +kernel
theorem dX12_divisor_17 : decode cX12_divisor 17 = .ok (.lrem, 1) := by decide +kernel
theorem dX12_divisor_18 : decode cX12_divisor 18 = .ok (.lstore 8, 2) := by decide +kernel
theorem dX12_divisor_20 : decode cX12_divisor 20 = .ok (.lload 6, 2) := by decide +kernel
theorem dX12_divisor_22 : decode cX12_divisor 22 = .ok (.lstore 4, 2) := by decide +kernel
theorem dX12_divisor_24 : decode cX12_divisor 24 = .ok (.lload 8, 2) := by decide +kernel
theorem dX12_divisor_26 : decode cX12_divisor 26 = .ok (.lstore 6, 2) := by decide +kernel
theorem dX12_divisor_28 : decode cX12_divisor 28 = .ok (.goto (-22), 3) := by decide +kernel
theorem dX12_divisor_31 : decode cX12_divisor 31 = .ok (.lload 4, 2) := by decide +kernel
theorem dX12_divisor_33 : decode cX12_divisor 33 = .ok (.lreturn, 1) := by decide +kernel
theorem dX12_repairs_0 : decode cX12_repairs 0 = .ok (.aload_n 0, 1) := by decide +kernel
theorem dX12_repairs_1 : decode cX12_repairs 1 = .ok (.iload_n 1, 1) := by decide +kernel
theorem dX12_repairs_2 : decode cX12_repairs 2 = .ok (.invokevirtual 347, 3) := by decide +kernel
theorem dX12_repairs_5 : decode cX12_repairs 5 = .ok (.ifCond .eq 27, 3) := by decide +kernel
theorem dX12_repairs_8 : decode cX12_repairs 8 = .ok (.iload_n 2, 1) := by decide +kernel
theorem dX12_repairs_9 : decode cX12_repairs 9 = .ok (.i2l, 1) := by decide +kernel
theorem dX12_repairs_10 : decode cX12_repairs 10 = .ok (.lconst 0, 1) := by decide +kernel
theorem dX12_repairs_11 : decode cX12_repairs 11 = .ok (.ldc2_w 519, 3) := by decide +kernel
theorem dX12_repairs_14 : decode cX12_repairs 14 = .ok (.invokestatic 155, 3) := by decide +kernel
theorem dX12_repairs_17 : decode cX12_repairs 17 = .ok (.ifCond .eq 15, 3) := by decide +kernel
theorem dX12_repairs_20 : decode cX12_repairs 20 = .ok (.iload_n 3, 1) := by decide +kernel
theorem dX12_repairs_21 : decode cX12_repairs 21 = .ok (.i2l, 1) := by decide +kernel
theorem dX12_repairs_22 : decode cX12_repairs 22 = .ok (.lconst 0, 1) := by decide +kernel
theorem dX12_repairs_23 : decode cX12_repairs 23 = .ok (.ldc2_w 363, 3) := by decide +kernel
theorem dX12_repairs_26 : decode cX12_repairs 26 = .ok (.invokestatic 155, 3) := by decide +kernel
theorem dX12_repairs_29 : decode cX12_repairs 29 = .ok (.ifCond .ne 7, 3) := by decide +kernel
theorem dX12_repairs_32 : decode cX12_repairs 32 = .ok (.ldc2_w 492, 3) := by decide +kernel
theorem dX12_repairs_35 : decode cX12_repairs 35 = .ok (.lreturn, 1) := by decide +kernel
theorem dX12_repairs_36 : decode cX12_repairs 36 = .ok (.aload_n 0, 1) := by decide +kernel
theorem dX12_repairs_37 : decode cX12_repairs 37 = .ok (.invokevirtual 521, 3) := by decide +kernel
theorem dX12_repairs_40 : decode cX12_repairs 40 = .ok (.istore 4, 2) := by decide +kernel
theorem dX12_repairs_42 : decode cX12_repairs 42 = .ok (.iconst 0, 1) := by decide +kernel
theorem dX12_repairs_43 : decode cX12_repairs 43 = .ok (.istore 5, 2) := by decide +kernel
theorem dX12_repairs_45 : decode cX12_repairs 45 = .ok (.iconst 0, 1) := by decide +kernel
theorem dX12_repairs_46 : decode cX12_repairs 46 = .ok (.istore 6, 2) := by decide +kernel
theorem dX12_repairs_48 : decode cX12_repairs 48 = .ok (.iconst 0, 1) := by decide +kernel
theorem dX12_repairs_49 : decode cX12_repairs 49 = .ok (.istore 7, 2) := by decide +kernel
theorem dX12_repairs_51 : decode cX12_repairs 51 = .ok (.iconst 0, 1) := by decide +kernel
theorem dX12_repairs_52 : decode cX12_repairs 52 = .ok (.istore 8, 2) := by decide +kernel
theorem dX12_repairs_54 : decode cX12_repairs 54 = .ok (.iload 8, 2) := by decide +kernel
theorem dX12_repairs_56 : decode cX12_repairs 56 = .ok (.aload_n 0, 1) := by decide +kernel
theorem dX12_repairs_57 : decode cX12_repairs 57 = .ok (.getfield 338, 3) := by decide +kernel
theorem dX12_repairs_60 : decode cX12_repairs 60 = .ok (.if_icmp .ge 137, 3) := by decide +kernel
theorem dX12_repairs_63 : decode cX12_repairs 63 = .ok (.iconst 0, 1) := by decide +kernel
theorem dX12_repairs_64 : decode cX12_repairs 64 = .ok (.istore 9, 2) := by decide +kernel
theorem dX12_repairs_66 : decode cX12_repairs 66 = .ok (.iload 9, 2) := by decide +kernel
theorem dX12_repairs_68 : decode cX12_repairs 68 = .ok (.aload_n 0, 1) := by decide +kernel
theorem dX12_repairs_69 : decode cX12_repairs 69 = .ok (.getfield 341, 3) := by decide +kernel
theorem dX12_repairs_72 : decode cX12_repairs 72 = .ok (.if_icmp .ge 119, 3) := by decide +kernel
theorem dX12_repairs_75 : decode cX12_repairs 75 = .ok (.iconst 0, 1) := by decide +kernel
theorem dX12_repairs_76 : decode cX12_repairs 76 = .ok (.istore 10, 2) := by decide +kernel
theorem dX12_repairs_78 : decode cX12_repairs 78 = .ok (.iload 10, 2) := by decide +kernel
theorem dX12_repairs_80 : decode cX12_repairs 80 = .ok (.iconst 2, 1) := by decide +kernel
theorem dX12_repairs_81 : decode cX12_repairs 81 = .ok (.if_icmp .ge 104, 3) := by decide +kernel
theorem dX12_repairs_84 : decode cX12_repairs 84 = .ok (.aload_n 0, 1) := by decide +kernel
theorem dX12_repairs_85 : decode cX12_repairs 85 = .ok (.getfield 79, 3) := by decide +kernel
theorem dX12_repairs_88 : decode cX12_repairs 88 = .ok (.iload 8, 2) := by decide +kernel
theorem dX12_repairs_90 : decode cX12_repairs 90 = .ok (.iload 9, 2) := by decide +kernel
theorem dX12_repairs_92 : decode cX12_repairs 92 = .ok (.iload 10, 2) := by decide +kernel
theorem dX12_repairs_94 : decode cX12_repairs 94 = .ok (.invokestatic 350, 3) := by decide +kernel
theorem dX12_repairs_97 : decode cX12_repairs 97 = .ok (.iaload, 1) := by decide +kernel
theorem dX12_repairs_98 : decode cX12_repairs 98 = .ok (.istore 11, 2) := by decide +kernel
theorem dX12_repairs_100 : decode cX12_repairs 100 = .ok (.iload 11, 2) := by decide +kernel
theorem dX12_repairs_102 : decode cX12_repairs 102 = .ok (.ifCond .ne 6, 3) := by decide +kernel
theorem dX12_repairs_105 : decode cX12_repairs 105 = .ok (.goto 74, 3) := by decide +kernel
theorem dX12_repairs_108 : decode cX12_repairs 108 = .ok (.iload 11, 2) := by decide +kernel
theorem dX12_repairs_110 : decode cX12_repairs 110 = .ok (.iload 4, 2) := by decide +kernel
theorem dX12_repairs_112 : decode cX12_repairs 112 = .ok (.isub, 1) := by decide +kernel
theorem dX12_repairs_113 : decode cX12_repairs 113 = .ok (.invokestatic 443, 3) := by decide +kernel
theorem dX12_repairs_116 : decode cX12_repairs 116 = .ok (.iload_n 2, 1) := by decide +kernel
theorem dX12_repairs_117 : decode cX12_repairs 117 = .ok (.if_icmp .le 7, 3) := by decide +kernel
theorem dX12_repairs_120 : decode cX12_repairs 120 = .ok (.iconst 1, 1) := by decide +kernel
theorem dX12_repairs_121 : decode cX12_repairs 121 = .ok (.goto 4, 3) := by decide +kernel
theorem dX12_repairs_124 : decode cX12_repairs 124 = .ok (.iconst 0, 1) := by decide +kernel
theorem dX12_repairs_125 : decode cX12_repairs 125 = .ok (.istore 12, 2) := by decide +kernel
theorem dX12_repairs_127 : decode cX12_repairs 127 = .ok (.iload 5, 2) := by decide +kernel
theorem dX12_repairs_129 : decode cX12_repairs 129 = .ok (.iload 12, 2) := by decide +kernel
theorem dX12_repairs_131 : decode cX12_repairs 131 = .ok (.ifCond .eq 7, 3) := by decide +kernel
theorem dX12_repairs_134 : decode cX12_repairs 134 = .ok (.iconst 1, 1) := by decide +kernel
theorem dX12_repairs_135 : decode cX12_repairs 135 = .ok (.goto 4, 3) := by decide +kernel
theorem dX12_repairs_138 : decode cX12_repairs 138 = .ok (.iconst 0, 1) := by decide +kernel
theorem dX12_repairs_139 : decode cX12_repairs 139 = .ok (.iadd, 1) := by decide +kernel
theorem dX12_repairs_140 : decode cX12_repairs 140 = .ok (.istore 5, 2) := by decide +kernel
theorem dX12_repairs_142 : decode cX12_repairs 142 = .ok (.iload 6, 2) := by decide +kernel
theorem dX12_repairs_144 : decode cX12_repairs 144 = .ok (.iload 9, 2) := by decide +kernel
theorem dX12_repairs_146 : decode cX12_repairs 146 = .ok (.iload_n 1, 1) := by decide +kernel
theorem dX12_repairs_147 : decode cX12_repairs 147 = .ok (.if_icmp .ne 7, 3) := by decide +kernel
theorem dX12_repairs_150 : decode cX12_repairs 150 = .ok (.iconst 1, 1) := by decide +kernel
theorem dX12_repairs_151 : decode cX12_repairs 151 = .ok (.goto 4, 3) := by decide +kernel
theorem dX12_repairs_154 : decode cX12_repairs 154 = .ok (.iconst 0, 1) := by decide +kernel
theorem dX12_repairs_155 : decode cX12_repairs 155 = .ok (.iadd, 1) := by decide +kernel
theorem dX12_repairs_156 : decode cX12_repairs 156 = .ok (.istore 6, 2) := by decide +kernel
theorem dX12_repairs_158 : decode cX12_repairs 158 = .ok (.iload 7, 2) := by decide +kernel
theorem dX12_repairs_160 : decode cX12_repairs 160 = .ok (.iload 12, 2) := by decide +kernel
theorem dX12_repairs_162 : decode cX12_repairs 162 = .ok (.ifCond .eq 13, 3) := by decide +kernel
theorem dX12_repairs_165 : decode cX12_repairs 165 = .ok (.iload 9, 2) := by decide +kernel
theorem dX12_repairs_167 : decode cX12_repairs 167 = .ok (.iload_n 1, 1) := by decide +kernel
theorem dX12_repairs_168 : decode cX12_repairs 168 = .ok (.if_icmp .ne 7, 3) := by decide +kernel
theorem dX12_repairs_171 : decode cX12_repairs 171 = .ok (.iconst 1, 1) := by decide +kernel
theorem dX12_repairs_172 : decode cX12_repairs 172 = .ok (.goto 4, 3) := by decide +kernel
theorem dX12_repairs_175 : decode cX12_repairs 175 = .ok (.iconst 0, 1) := by decide +kernel
theorem dX12_repairs_176 : decode cX12_repairs 176 = .ok (.iadd, 1) := by decide +kernel
theorem dX12_repairs_177 : decode cX12_repairs 177 = .ok (.istore 7, 2) := by decide +kernel
theorem dX12_repairs_179 : decode cX12_repairs 179 = .ok (.iinc 10 1, 3) := by decide +kernel
theorem dX12_repairs_182 : decode cX12_repairs 182 = .ok (.goto (-104), 3) := by decide +kernel
theorem dX12_repairs_185 : decode cX12_repairs 185 = .ok (.iinc 9 1, 3) := by decide +kernel
theorem dX12_repairs_188 : decode cX12_repairs 188 = .ok (.goto (-122), 3) := by decide +kernel
theorem dX12_repairs_191 : decode cX12_repairs 191 = .ok (.iinc 8 1, 3) := by decide +kernel
theorem dX12_repairs_194 : decode cX12_repairs 194 = .ok (.goto (-140), 3) := by decide +kernel
theorem dX12_repairs_197 : decode cX12_repairs 197 = .ok (.iload_n 3, 1) := by decide +kernel
theorem dX12_repairs_198 : decode cX12_repairs 198 = .ok (.iconst 2, 1) := by decide +kernel
theorem dX12_repairs_199 : decode cX12_repairs 199 = .ok (.if_icmp .ge 17, 3) := by decide +kernel
theorem dX12_repairs_202 : decode cX12_repairs 202 = .ok (.iload_n 3, 1) := by decide +kernel
theorem dX12_repairs_203 : decode cX12_repairs 203 = .ok (.ifCond .ne 9, 3) := by decide +kernel
theorem dX12_repairs_206 : decode cX12_repairs 206 = .ok (.iload 7, 2) := by decide +kernel
theorem dX12_repairs_208 : decode cX12_repairs 208 = .ok (.i2l, 1) := by decide +kernel
theorem dX12_repairs_209 : decode cX12_repairs 209 = .ok (.goto 6, 3) := by decide +kernel
theorem dX12_repairs_212 : decode cX12_repairs 212 = .ok (.iload 6, 2) := by decide +kernel
theorem dX12_repairs_214 : decode cX12_repairs 214 = .ok (.i2l, 1) := by decide +kernel
theorem dX12_repairs_215 : decode cX12_repairs 215 = .ok (.lreturn, 1) := by decide +kernel
theorem dX12_repairs_216 : decode cX12_repairs 216 = .ok (.lconst 0, 1) := by decide +kernel
theorem dX12_repairs_217 : decode cX12_repairs 217 = .ok (.lstore 8, 2) := by decide +kernel
theorem dX12_repairs_219 : decode cX12_repairs 219 = .ok (.iload 7, 2) := by decide +kernel
theorem dX12_repairs_221 : decode cX12_repairs 221 = .ok (.istore 10, 2) := by decide +kernel
theorem dX12_repairs_223 : decode cX12_repairs 223 = .ok (.iload 10, 2) := by decide +kernel
theorem dX12_repairs_225 : decode cX12_repairs 225 = .ok (.iload 6, 2) := by decide +kernel
theorem dX12_repairs_227 : decode cX12_repairs 227 = .ok (.if_icmp .gt 37, 3) := by decide +kernel
theorem dX12_repairs_230 : decode cX12_repairs 230 = .ok (.lload 8, 2) := by decide +kernel
theorem dX12_repairs_232 : decode cX12_repairs 232 = .ok (.iload 5, 2) := by decide +kernel
theorem dX12_repairs_234 : decode cX12_repairs 234 = .ok (.iload 10, 2) := by decide +kernel
theorem dX12_repairs_236 : decode cX12_repairs 236 = .ok (.invokestatic 524, 3) := by decide +kernel
theorem dX12_repairs_239 : decode cX12_repairs 239 = .ok (.aload_n 0, 1) := by decide +kernel
theorem dX12_repairs_240 : decode cX12_repairs 240 = .ok (.getfield 372, 3) := by decide +kernel
theorem dX12_repairs_243 : decode cX12_repairs 243 = .ok (.iload 5, 2) := by decide +kernel
theorem dX12_repairs_245 : decode cX12_repairs 245 = .ok (.isub, 1) := by decide +kernel
theorem dX12_repairs_246 : decode cX12_repairs 246 = .ok (.iload 6, 2) := by decide +kernel
theorem dX12_repairs_248 : decode cX12_repairs 248 = .ok (.iload 10, 2) := by decide +kernel
theorem dX12_repairs_250 : decode cX12_repairs 250 = .ok (.isub, 1) := by decide +kernel
theorem dX12_repairs_251 : decode cX12_repairs 251 = .ok (.invokestatic 524, 3) := by decide +kernel
theorem dX12_repairs_254 : decode cX12_repairs 254 = .ok (.lmul, 1) := by decide +kernel
theorem dX12_repairs_255 : decode cX12_repairs 255 = .ok (.ladd, 1) := by decide +kernel
theorem dX12_repairs_256 : decode cX12_repairs 256 = .ok (.lstore 8, 2) := by decide +kernel
theorem dX12_repairs_258 : decode cX12_repairs 258 = .ok (.iinc 10 1, 3) := by decide +kernel
theorem dX12_repairs_261 : decode cX12_repairs 261 = .ok (.goto (-38), 3) := by decide +kernel
theorem dX12_repairs_264 : decode cX12_repairs 264 = .ok (.aload_n 0, 1) := by decide +kernel
theorem dX12_repairs_265 : decode cX12_repairs 265 = .ok (.getfield 372, 3) := by decide +kernel
theorem dX12_repairs_268 : decode cX12_repairs 268 = .ok (.iload 6, 2) := by decide +kernel
theorem dX12_repairs_270 : decode cX12_repairs 270 = .ok (.invokestatic 524, 3) := by decide +kernel
theorem dX12_repairs_273 : decode cX12_repairs 273 = .ok (.lstore 10, 2) := by decide +kernel
theorem dX12_repairs_275 : decode cX12_repairs 275 = .ok (.lload 8, 2) := by decide +kernel
theorem dX12_repairs_277 : decode cX12_repairs 277 = .ok (.lload 10, 2) := by decide +kernel
theorem dX12_repairs_279 : decode cX12_repairs 279 = .ok (.invokestatic 528, 3) := by decide +kernel
theorem dX12_repairs_282 : decode cX12_repairs 282 = .ok (.lstore 12, 2) := by decide +kernel
theorem dX12_repairs_284 : decode cX12_repairs 284 = .ok (.iload_n 3, 1) := by decide +kernel
theorem dX12_repairs_285 : decode cX12_repairs 285 = .ok (.iconst 2, 1) := by decide +kernel
theorem dX12_repairs_286 : decode cX12_repairs 286 = .ok (.if_icmp .ne 11, 3) := by decide +kernel
theorem dX12_repairs_289 : decode cX12_repairs 289 = .ok (.lload 8, 2) := by decide +kernel
theorem dX12_repairs_291 : decode cX12_repairs 291 = .ok (.lload 12, 2) := by decide +kernel
theorem dX12_repairs_293 : decode cX12_repairs 293 = .ok (.ldiv, 1) := by decide +kernel
theorem dX12_repairs_294 : decode cX12_repairs 294 = .ok (.goto 8, 3) := by decide +kernel
theorem dX12_repairs_297 : decode cX12_repairs 297 = .ok (.lload 10, 2) := by decide +kernel
theorem dX12_repairs_299 : decode cX12_repairs 299 = .ok (.lload 12, 2) := by decide +kernel
theorem dX12_repairs_301 : decode cX12_repairs 301 = .ok (.ldiv, 1) := by decide +kernel
theorem dX12_repairs_302 : decode cX12_repairs 302 = .ok (.lreturn, 1) := by decide +kernel
theorem dX12_thole_0 : decode cX12_thole 0 = .ok (.aload_n 0, 1) := by decide +kernel
theorem dX12_thole_1 : decode cX12_thole 1 = .ok (.iload_n 1, 1) := by decide +kernel
theorem dX12_thole_2 : decode cX12_thole 2 = .ok (.invokevirtual 344, 3) := by decide +kernel
theorem dX12_thole_5 : decode cX12_thole 5 = .ok (.ifCond .eq 25, 3) := by decide +kernel
theorem dX12_thole_8 : decode cX12_thole 8 = .ok (.iload_n 2, 1) := by decide +kernel
theorem dX12_thole_9 : decode cX12_thole 9 = .ok (.i2l, 1) := by decide +kernel
theorem dX12_thole_10 : decode cX12_thole 10 = .ok (.lconst 0, 1) := by decide +kernel
theorem dX12_thole_11 : decode cX12_thole 11 = .ok (.lconst 1, 1) := by decide +kernel
theorem dX12_thole_12 : decode cX12_thole 12 = .ok (.invokestatic 155, 3) := by decide +kernel
theorem dX12_thole_15 : decode cX12_thole 15 = .ok (.ifCond .eq 15, 3) := by decide +kernel
theorem dX12_thole_18 : decode cX12_thole 18 = .ok (.iload_n 3, 1) := by decide +kernel
theorem dX12_thole_19 : decode cX12_thole 19 = .ok (.i2l, 1) := by decide +kernel
theorem dX12_thole_20 : decode cX12_thole 20 = .ok (.ldc2_w 492, 3) := by decide +kernel
theorem dX12_thole_23 : decode cX12_thole 23 = .ok (.lconst 1, 1) := by decide +kernel
theorem dX12_thole_24 : decode cX12_thole 24 = .ok (.invokestatic 155, 3) := by decide +kernel
theorem dX12_thole_27 : decode cX12_thole 27 = .ok (.ifCond .ne 5, 3) := by decide +kernel
theorem dX12_thole_30 : decode cX12_thole 30 = .ok (.iconst 0, 1) := by decide +kernel
theorem dX12_thole_31 : decode cX12_thole 31 = .ok (.ireturn, 1) := by decide +kernel
theorem dX12_thole_32 : decode cX12_thole 32 = .ok (.aload_n 0, 1) := by decide +kernel
theorem dX12_thole_33 : decode cX12_thole 33 = .ok (.getfield 135, 3) := by decide +kernel
theorem dX12_thole_36 : decode cX12_thole 36 = .ok (.iconst 2, 1) := by decide +kernel
theorem dX12_thole_37 : decode cX12_thole 37 = .ok (.iload_n 1, 1) := by decide +kernel
theorem dX12_thole_38 : decode cX12_thole 38 = .ok (.imul, 1) := by decide +kernel
theorem dX12_thole_39 : decode cX12_thole 39 = .ok (.iload_n 2, 1) := by decide +kernel
theorem dX12_thole_40 : decode cX12_thole 40 = .ok (.iadd, 1) := by decide +kernel
theorem dX12_thole_41 : decode cX12_thole 41 = .ok (.iload_n 3, 1) := by decide +kernel
theorem dX12_thole_42 : decode cX12_thole 42 = .ok (.iastore, 1) := by decide +kernel
theorem dX12_thole_43 : decode cX12_thole 43 = .ok (.iconst 1, 1) := by decide +kernel
theorem dX12_thole_44 : decode cX12_thole 44 = .ok (.ireturn, 1) := by decide +kernel
theorem dX12_tholeOf_0 : decode cX12_tholeOf 0 = .ok (.aload_n 0, 1) := by decide +kernel
theorem dX12_tholeOf_1 : decode cX12_tholeOf 1 = .ok (.getfield 353, 3) := by decide +kernel
theorem dX12_tholeOf_4 : decode cX12_tholeOf 4 = .ok (.i2l, 1) := by decide +kernel
theorem dX12_tholeOf_5 : decode cX12_tholeOf 5 = .ok (.iload_n 1, 1) := by decide +kernel
theorem dX12_tholeOf_6 : decode cX12_tholeOf 6 = .ok (.invokestatic 356, 3) := by decide +kernel
theorem dX12_tholeOf_9 : decode cX12_tholeOf 9 = .ok (.ifCond .eq 7, 3) := by decide +kernel
theorem dX12_tholeOf_12 : decode cX12_tholeOf 12 = .ok (.iconst (-1), 1) := by decide +kernel
theorem dX12_tholeOf_13 : decode cX12_tholeOf 13 = .ok (.goto 13, 3) := by decide +kernel
theorem dX12_tholeOf_16 : decode cX12_tholeOf 16 = .ok (.aload_n 0, 1) := by decide +kernel
theorem dX12_tholeOf_17 : decode cX12_tholeOf 17 = .ok (.getfield 135, 3) := by decide +kernel
theorem dX12_tholeOf_20 : decode cX12_tholeOf 20 = .ok (.iconst 2, 1) := by decide +kernel
theorem dX12_tholeOf_21 : decode cX12_tholeOf 21 = .ok (.iload_n 1, 1) := by decide +kernel
theorem dX12_tholeOf_22 : decode cX12_tholeOf 22 = .ok (.imul, 1) := by decide +kernel
theorem dX12_tholeOf_23 : decode cX12_tholeOf 23 = .ok (.iload_n 2, 1) := by decide +kernel
theorem dX12_tholeOf_24 : decode cX12_tholeOf 24 = .ok (.iadd, 1) := by decide +kernel
theorem dX12_tholeOf_25 : decode cX12_tholeOf 25 = .ok (.iaload, 1) := by decide +kernel
theorem dX12_tholeOf_26 : decode cX12_tholeOf 26 = .ok (.ireturn, 1) := by decide +kernel
theorem dX12_tholesThat_0 : decode cX12_tholesThat 0 = .ok (.iconst 0, 1) := by decide +kernel
theorem dX12_tholesThat_1 : decode cX12_tholesThat 1 = .ok (.istore_n 2, 1) := by decide +kernel
theorem dX12_tholesThat_2 : decode cX12_tholesThat 2 = .ok (.iconst 0, 1) := by decide +kernel
theorem dX12_tholesThat_3 : decode cX12_tholesThat 3 = .ok (.istore_n 3, 1) := by decide +kernel
theorem dX12_tholesThat_4 : decode cX12_tholesThat 4 = .ok (.iload_n 3, 1) := by decide +kernel
theorem dX12_tholesThat_5 : decode cX12_tholesThat 5 = .ok (.aload_n 0, 1) := by decide +kernel
theorem dX12_tholesThat_6 : decode cX12_tholesThat 6 = .ok (.getfield 338, 3) := by decide +kernel
theorem dX12_tholesThat_9 : decode cX12_tholesThat 9 = .ok (.if_icmp .ge 43, 3) := by decide +kernel
theorem dX12_tholesThat_12 : decode cX12_tholesThat 12 = .ok (.iload_n 2, 1) := by decide +kernel
theorem dX12_tholesThat_13 : decode cX12_tholesThat 13 = .ok (.aload_n 0, 1) := by decide +kernel
theorem dX12_tholesThat_14 : decode cX12_tholesThat 14 = .ok (.iload_n 3, 1) := by decide +kernel
theorem dX12_tholesThat_15 : decode cX12_tholesThat 15 = .ok (.iconst 0, 1) := by decide +kernel
theorem dX12_tholesThat_16 : decode cX12_tholesThat 16 = .ok (.invokevirtual 532, 3) := by decide +kernel
theorem dX12_tholesThat_19 : decode cX12_tholesThat 19 = .ok (.iload_n 1, 1) := by decide +kernel
theorem dX12_tholesThat_20 : decode cX12_tholesThat 20 = .ok (.if_icmp .ne 7, 3) := by decide +kernel
theorem dX12_tholesThat_23 : decode cX12_tholesThat 23 = .ok (.iconst 1, 1) := by decide +kernel
theorem dX12_tholesThat_24 : decode cX12_tholesThat 24 = .ok (.goto 4, 3) := by decide +kernel
theorem dX12_tholesThat_27 : decode cX12_tholesThat 27 = .ok (.iconst 0, 1) := by decide +kernel
theorem dX12_tholesThat_28 : decode cX12_tholesThat 28 = .ok (.aload_n 0, 1) := by decide +kernel
theorem dX12_tholesThat_29 : decode cX12_tholesThat 29 = .ok (.iload_n 3, 1) := by decide +kernel
theorem dX12_tholesThat_30 : decode cX12_tholesThat 30 = .ok (.iconst 1, 1) := by decide +kernel
theorem dX12_tholesThat_31 : decode cX12_tholesThat 31 = .ok (.invokevirtual 532, 3) := by decide +kernel
theorem dX12_tholesThat_34 : decode cX12_tholesThat 34 = .ok (.iload_n 1, 1) := by decide +kernel
theorem dX12_tholesThat_35 : decode cX12_tholesThat 35 = .ok (.if_icmp .ne 7, 3) := by decide +kernel
theorem dX12_tholesThat_38 : decode cX12_tholesThat 38 = .ok (.iconst 1, 1) := by decide +kernel
theorem dX12_tholesThat_39 : decode cX12_tholesThat 39 = .ok (.goto 4, 3) := by decide +kernel
theorem dX12_tholesThat_42 : decode cX12_tholesThat 42 = .ok (.iconst 0, 1) := by decide +kernel
theorem dX12_tholesThat_43 : decode cX12_tholesThat 43 = .ok (.iadd, 1) := by decide +kernel
theorem dX12_tholesThat_44 : decode cX12_tholesThat 44 = .ok (.iadd, 1) := by decide +kernel
theorem dX12_tholesThat_45 : decode cX12_tholesThat 45 = .ok (.istore_n 2, 1) := by decide +kernel
theorem dX12_tholesThat_46 : decode cX12_tholesThat 46 = .ok (.iinc 3 1, 3) := by decide +kernel
theorem dX12_tholesThat_49 : decode cX12_tholesThat 49 = .ok (.goto (-45), 3) := by decide +kernel
theorem dX12_tholesThat_52 : decode cX12_tholesThat 52 = .ok (.iload_n 2, 1) := by decide +kernel
theorem dX12_tholesThat_53 : decode cX12_tholesThat 53 = .ok (.ireturn, 1) := by decide +kernel
theorem dX12_oars_0 : decode cX12_oars 0 = .ok (.aload_n 0, 1) := by decide +kernel
theorem dX12_oars_1 : decode cX12_oars 1 = .ok (.getfield 338, 3) := by decide +kernel
theorem dX12_oars_4 : decode cX12_oars 4 = .ok (.ifCond .eq 15, 3) := by decide +kernel
theorem dX12_oars_7 : decode cX12_oars 7 = .ok (.iload_n 1, 1) := by decide +kernel
theorem dX12_oars_8 : decode cX12_oars 8 = .ok (.i2l, 1) := by decide +kernel
theorem dX12_oars_9 : decode cX12_oars 9 = .ok (.lconst 0, 1) := by decide +kernel
theorem dX12_oars_10 : decode cX12_oars 10 = .ok (.ldc2_w 363, 3) := by decide +kernel
theorem dX12_oars_13 : decode cX12_oars 13 = .ok (.invokestatic 155, 3) := by decide +kernel
theorem dX12_oars_16 : decode cX12_oars 16 = .ok (.ifCond .ne 5, 3) := by decide +kernel
theorem dX12_oars_19 : decode cX12_oars 19 = .ok (.iconst (-1), 1) := by decide +kernel
theorem dX12_oars_20 : decode cX12_oars 20 = .ok (.ireturn, 1) := by decide +kernel
theorem dX12_oars_21 : decode cX12_oars 21 = .ok (.iconst 0, 1) := by decide +kernel
theorem dX12_oars_22 : decode cX12_oars 22 = .ok (.istore_n 2, 1) := by decide +kernel
theorem dX12_oars_23 : decode cX12_oars 23 = .ok (.iconst 0, 1) := by decide +kernel
theorem dX12_oars_24 : decode cX12_oars 24 = .ok (.istore_n 3, 1) := by decide +kernel
theorem dX12_oars_25 : decode cX12_oars 25 = .ok (.iconst 0, 1) := by decide +kernel
theorem dX12_oars_26 : decode cX12_oars 26 = .ok (.istore 4, 2) := by decide +kernel
theorem dX12_oars_28 : decode cX12_oars 28 = .ok (.iload 4, 2) := by decide +kernel
theorem dX12_oars_30 : decode cX12_oars 30 = .ok (.aload_n 0, 1) := by decide +kernel
theorem dX12_oars_31 : decode cX12_oars 31 = .ok (.getfield 338, 3) := by decide +kernel
theorem dX12_oars_34 : decode cX12_oars 34 = .ok (.if_icmp .ge 67, 3) := by decide +kernel
theorem dX12_oars_37 : decode cX12_oars 37 = .ok (.iload_n 2, 1) := by decide +kernel
theorem dX12_oars_38 : decode cX12_oars 38 = .ok (.aload_n 0, 1) := by decide +kernel
theorem dX12_oars_39 : decode cX12_oars 39 = .ok (.iload 4, 2) := by decide +kernel
theorem dX12_oars_41 : decode cX12_oars 41 = .ok (.iconst 0, 1) := by decide +kernel
theorem dX12_oars_42 : decode cX12_oars 42 = .ok (.invokevirtual 532, 3) := by decide +kernel
theorem dX12_oars_45 : decode cX12_oars 45 = .ok (.iconst 1, 1) := by decide +kernel
theorem dX12_oars_46 : decode cX12_oars 46 = .ok (.if_icmp .ne 18, 3) := by decide +kernel
theorem dX12_oars_49 : decode cX12_oars 49 = .ok (.aload_n 0, 1) := by decide +kernel
theorem dX12_oars_50 : decode cX12_oars 50 = .ok (.iload 4, 2) := by decide +kernel
theorem dX12_oars_52 : decode cX12_oars 52 = .ok (.iconst 1, 1) := by decide +kernel
theorem dX12_oars_53 : decode cX12_oars 53 = .ok (.invokevirtual 532, 3) := by decide +kernel
theorem dX12_oars_56 : decode cX12_oars 56 = .ok (.iconst 1, 1) := by decide +kernel
theorem dX12_oars_57 : decode cX12_oars 57 = .ok (.if_icmp .ne 7, 3) := by decide +kernel
theorem dX12_oars_60 : decode cX12_oars 60 = .ok (.iconst 1, 1) := by decide +kernel
theorem dX12_oars_61 : decode cX12_oars 61 = .ok (.goto 4, 3) := by decide +kernel
theorem dX12_oars_64 : decode cX12_oars 64 = .ok (.iconst 0, 1) := by decide +kernel
theorem dX12_oars_65 : decode cX12_oars 65 = .ok (.iadd, 1) := by decide +kernel
theorem dX12_oars_66 : decode cX12_oars 66 = .ok (.istore_n 2, 1) := by decide +kernel
theorem dX12_oars_67 : decode cX12_oars 67 = .ok (.iload_n 3, 1) := by decide +kernel
theorem dX12_oars_68 : decode cX12_oars 68 = .ok (.aload_n 0, 1) := by decide +kernel
theorem dX12_oars_69 : decode cX12_oars 69 = .ok (.iload 4, 2) := by decide +kernel
theorem dX12_oars_71 : decode cX12_oars 71 = .ok (.iconst 0, 1) := by decide +kernel
theorem dX12_oars_72 : decode cX12_oars 72 = .ok (.invokevirtual 532, 3) := by decide +kernel
theorem dX12_oars_75 : decode cX12_oars 75 = .ok (.ifCond .eq 17, 3) := by decide +kernel
theorem dX12_oars_78 : decode cX12_oars 78 = .ok (.aload_n 0, 1) := by decide +kernel
theorem dX12_oars_79 : decode cX12_oars 79 = .ok (.iload 4, 2) := by decide +kernel
theorem dX12_oars_81 : decode cX12_oars 81 = .ok (.iconst 1, 1) := by decide +kernel
theorem dX12_oars_82 : decode cX12_oars 82 = .ok (.invokevirtual 532, 3) := by decide +kernel
theorem dX12_oars_85 : decode cX12_oars 85 = .ok (.ifCond .eq 7, 3) := by decide +kernel
theorem dX12_oars_88 : decode cX12_oars 88 = .ok (.iconst 1, 1) := by decide +kernel
theorem dX12_oars_89 : decode cX12_oars 89 = .ok (.goto 4, 3) := by decide +kernel
theorem dX12_oars_92 : decode cX12_oars 92 = .ok (.iconst 0, 1) := by decide +kernel
theorem dX12_oars_93 : decode cX12_oars 93 = .ok (.iadd, 1) := by decide +kernel
theorem dX12_oars_94 : decode cX12_oars 94 = .ok (.istore_n 3, 1) := by decide +kernel
theorem dX12_oars_95 : decode cX12_oars 95 = .ok (.iinc 4 1, 3) := by decide +kernel
theorem dX12_oars_98 : decode cX12_oars 98 = .ok (.goto (-70), 3) := by decide +kernel
theorem dX12_oars_101 : decode cX12_oars 101 = .ok (.iload_n 1, 1) := by decide +kernel
theorem dX12_oars_102 : decode cX12_oars 102 = .ok (.ifCond .ne 7, 3) := by decide +kernel
theorem dX12_oars_105 : decode cX12_oars 105 = .ok (.iload_n 2, 1) := by decide +kernel
theorem dX12_oars_106 : decode cX12_oars 106 = .ok (.goto 36, 3) := by decide +kernel
theorem dX12_oars_109 : decode cX12_oars 109 = .ok (.iload_n 1, 1) := by decide +kernel
theorem dX12_oars_110 : decode cX12_oars 110 = .ok (.iconst 1, 1) := by decide +kernel
theorem dX12_oars_111 : decode cX12_oars 111 = .ok (.if_icmp .ne 7, 3) := by decide +kernel
theorem dX12_oars_114 : decode cX12_oars 114 = .ok (.iload_n 3, 1) := by decide +kernel
theorem dX12_oars_115 : decode cX12_oars 115 = .ok (.goto 27, 3) := by decide +kernel
theorem dX12_oars_118 : decode cX12_oars 118 = .ok (.iload_n 1, 1) := by decide +kernel
theorem dX12_oars_119 : decode cX12_oars 119 = .ok (.iconst 2, 1) := by decide +kernel
theorem dX12_oars_120 : decode cX12_oars 120 = .ok (.if_icmp .ne 17, 3) := by decide +kernel
theorem dX12_oars_123 : decode cX12_oars 123 = .ok (.aload_n 0, 1) := by decide +kernel
theorem dX12_oars_124 : decode cX12_oars 124 = .ok (.iconst 0, 1) := by decide +kernel
theorem dX12_oars_125 : decode cX12_oars 125 = .ok (.invokevirtual 535, 3) := by decide +kernel
theorem dX12_oars_128 : decode cX12_oars 128 = .ok (.aload_n 0, 1) := by decide +kernel
theorem dX12_oars_129 : decode cX12_oars 129 = .ok (.iconst 1, 1) := by decide +kernel
theorem dX12_oars_130 : decode cX12_oars 130 = .ok (.invokevirtual 535, 3) := by decide +kernel
theorem dX12_oars_133 : decode cX12_oars 133 = .ok (.iadd, 1) := by decide +kernel
theorem dX12_oars_134 : decode cX12_oars 134 = .ok (.goto 8, 3) := by decide +kernel
theorem dX12_oars_137 : decode cX12_oars 137 = .ok (.aload_n 0, 1) := by decide +kernel
theorem dX12_oars_138 : decode cX12_oars 138 = .ok (.iconst 1, 1) := by decide +kernel
theorem dX12_oars_139 : decode cX12_oars 139 = .ok (.invokevirtual 535, 3) := by decide +kernel
theorem dX12_oars_142 : decode cX12_oars 142 = .ok (.ireturn, 1) := by decide +kernel
theorem dX12_pair_0 : decode cX12_pair 0 = .ok (.aload_n 0, 1) := by decide +kernel
theorem dX12_pair_1 : decode cX12_pair 1 = .ok (.iload_n 1, 1) := by decide +kernel
theorem dX12_pair_2 : decode cX12_pair 2 = .ok (.invokevirtual 344, 3) := by decide +kernel
theorem dX12_pair_5 : decode cX12_pair 5 = .ok (.ifCond .eq 13, 3) := by decide +kernel
theorem dX12_pair_8 : decode cX12_pair 8 = .ok (.iload_n 2, 1) := by decide +kernel
theorem dX12_pair_9 : decode cX12_pair 9 = .ok (.i2l, 1) := by decide +kernel
theorem dX12_pair_10 : decode cX12_pair 10 = .ok (.lconst 0, 1) := by decide +kernel
theorem dX12_pair_11 : decode cX12_pair 11 = .ok (.lconst 1, 1) := by decide +kernel
theorem dX12_pair_12 : decode cX12_pair 12 = .ok (.invokestatic 155, 3) := by decide +kernel
theorem dX12_pair_15 : decode cX12_pair 15 = .ok (.ifCond .ne 7, 3) := by decide +kernel
theorem dX12_pair_18 : decode cX12_pair 18 = .ok (.ldc2_w 492, 3) := by decide +kernel
theorem dX12_pair_21 : decode cX12_pair 21 = .ok (.lreturn, 1) := by decide +kernel
theorem dX12_pair_22 : decode cX12_pair 22 = .ok (.aload_n 0, 1) := by decide +kernel
theorem dX12_pair_23 : decode cX12_pair 23 = .ok (.iconst 1, 1) := by decide +kernel
theorem dX12_pair_24 : decode cX12_pair 24 = .ok (.invokevirtual 535, 3) := by decide +kernel
theorem dX12_pair_27 : decode cX12_pair 27 = .ok (.istore_n 3, 1) := by decide +kernel
theorem dX12_pair_28 : decode cX12_pair 28 = .ok (.iload_n 3, 1) := by decide +kernel
theorem dX12_pair_29 : decode cX12_pair 29 = .ok (.aload_n 0, 1) := by decide +kernel
theorem dX12_pair_30 : decode cX12_pair 30 = .ok (.iconst 0, 1) := by decide +kernel
theorem dX12_pair_31 : decode cX12_pair 31 = .ok (.invokevirtual 535, 3) := by decide +kernel
theorem dX12_pair_34 : decode cX12_pair 34 = .ok (.iadd, 1) := by decide +kernel
theorem dX12_pair_35 : decode cX12_pair 35 = .ok (.istore 4, 2) := by decide +kernel
theorem dX12_pair_37 : decode cX12_pair 37 = .ok (.iload 4, 2) := by decide +kernel
theorem dX12_pair_39 : decode cX12_pair 39 = .ok (.ifCond .ne 7, 3) := by decide +kernel
theorem dX12_pair_42 : decode cX12_pair 42 = .ok (.ldc2_w 538, 3) := by decide +kernel
theorem dX12_pair_45 : decode cX12_pair 45 = .ok (.lreturn, 1) := by decide +kernel
theorem dX12_pair_46 : decode cX12_pair 46 = .ok (.lconst 1, 1) := by decide +kernel
theorem dX12_pair_47 : decode cX12_pair 47 = .ok (.lstore 5, 2) := by decide +kernel
theorem dX12_pair_49 : decode cX12_pair 49 = .ok (.lconst 1, 1) := by decide +kernel
theorem dX12_pair_50 : decode cX12_pair 50 = .ok (.lstore 7, 2) := by decide +kernel
theorem dX12_pair_52 : decode cX12_pair 52 = .ok (.iconst 0, 1) := by decide +kernel
theorem dX12_pair_53 : decode cX12_pair 53 = .ok (.istore 9, 2) := by decide +kernel
theorem dX12_pair_55 : decode cX12_pair 55 = .ok (.iload 9, 2) := by decide +kernel
theorem dX12_pair_57 : decode cX12_pair 57 = .ok (.iconst 2, 1) := by decide +kernel
theorem dX12_pair_58 : decode cX12_pair 58 = .ok (.if_icmp .ge 62, 3) := by decide +kernel
theorem dX12_pair_61 : decode cX12_pair 61 = .ok (.aload_n 0, 1) := by decide +kernel
theorem dX12_pair_62 : decode cX12_pair 62 = .ok (.iload_n 1, 1) := by decide +kernel
theorem dX12_pair_63 : decode cX12_pair 63 = .ok (.iload 9, 2) := by decide +kernel
theorem dX12_pair_65 : decode cX12_pair 65 = .ok (.invokevirtual 532, 3) := by decide +kernel
theorem dX12_pair_68 : decode cX12_pair 68 = .ok (.istore 10, 2) := by decide +kernel
theorem dX12_pair_70 : decode cX12_pair 70 = .ok (.lload 5, 2) := by decide +kernel
theorem dX12_pair_72 : decode cX12_pair 72 = .ok (.iload 10, 2) := by decide +kernel
theorem dX12_pair_74 : decode cX12_pair 74 = .ok (.iconst 1, 1) := by decide +kernel
theorem dX12_pair_75 : decode cX12_pair 75 = .ok (.if_icmp .ne 7, 3) := by decide +kernel
theorem dX12_pair_78 : decode cX12_pair 78 = .ok (.lconst 1, 1) := by decide +kernel
theorem dX12_pair_79 : decode cX12_pair 79 = .ok (.goto 14, 3) := by decide +kernel
theorem dX12_pair_82 : decode cX12_pair 82 = .ok (.iload 10, 2) := by decide +kernel
theorem dX12_pair_84 : decode cX12_pair 84 = .ok (.ifCond .ne 7, 3) := by decide +kernel
theorem dX12_pair_87 : decode cX12_pair 87 = .ok (.lconst 0, 1) := by decide +kernel
theorem dX12_pair_88 : decode cX12_pair 88 = .ok (.goto 5, 3) := by decide +kernel
theorem dX12_pair_91 : decode cX12_pair 91 = .ok (.iload_n 3, 1) := by decide +kernel
theorem dX12_pair_92 : decode cX12_pair 92 = .ok (.i2l, 1) := by decide +kernel
theorem dX12_pair_93 : decode cX12_pair 93 = .ok (.lmul, 1) := by decide +kernel
theorem dX12_pair_94 : decode cX12_pair 94 = .ok (.lstore 5, 2) := by decide +kernel
theorem dX12_pair_96 : decode cX12_pair 96 = .ok (.lload 7, 2) := by decide +kernel
theorem dX12_pair_98 : decode cX12_pair 98 = .ok (.iload 10, 2) := by decide +kernel
theorem dX12_pair_100 : decode cX12_pair 100 = .ok (.iconst (-1), 1) := by decide +kernel
theorem dX12_pair_101 : decode cX12_pair 101 = .ok (.if_icmp .ne 9, 3) := by decide +kernel
theorem dX12_pair_104 : decode cX12_pair 104 = .ok (.iload 4, 2) := by decide +kernel
theorem dX12_pair_106 : decode cX12_pair 106 = .ok (.i2l, 1) := by decide +kernel
theorem dX12_pair_107 : decode cX12_pair 107 = .ok (.goto 4, 3) := by decide +kernel
theorem dX12_pair_110 : decode cX12_pair 110 = .ok (.lconst 1, 1) := by decide +kernel
theorem dX12_pair_111 : decode cX12_pair 111 = .ok (.lmul, 1) := by decide +kernel
theorem dX12_pair_112 : decode cX12_pair 112 = .ok (.lstore 7, 2) := by decide +kernel
theorem dX12_pair_114 : decode cX12_pair 114 = .ok (.iinc 9 1, 3) := by decide +kernel
theorem dX12_pair_117 : decode cX12_pair 117 = .ok (.goto (-62), 3) := by decide +kernel
theorem dX12_pair_120 : decode cX12_pair 120 = .ok (.lload 5, 2) := by decide +kernel
theorem dX12_pair_122 : decode cX12_pair 122 = .ok (.lload 7, 2) := by decide +kernel
theorem dX12_pair_124 : decode cX12_pair 124 = .ok (.invokestatic 528, 3) := by decide +kernel
theorem dX12_pair_127 : decode cX12_pair 127 = .ok (.lstore 9, 2) := by decide +kernel
theorem dX12_pair_129 : decode cX12_pair 129 = .ok (.iload_n 2, 1) := by decide +kernel
theorem dX12_pair_130 : decode cX12_pair 130 = .ok (.ifCond .ne 11, 3) := by decide +kernel
theorem dX12_pair_133 : decode cX12_pair 133 = .ok (.lload 5, 2) := by decide +kernel
theorem dX12_pair_135 : decode cX12_pair 135 = .ok (.lload 9, 2) := by decide +kernel
theorem dX12_pair_137 : decode cX12_pair 137 = .ok (.ldiv, 1) := by decide +kernel
theorem dX12_pair_138 : decode cX12_pair 138 = .ok (.goto 8, 3) := by decide +kernel
theorem dX12_pair_141 : decode cX12_pair 141 = .ok (.lload 7, 2) := by decide +kernel
theorem dX12_pair_143 : decode cX12_pair 143 = .ok (.lload 9, 2) := by decide +kernel
theorem dX12_pair_145 : decode cX12_pair 145 = .ok (.ldiv, 1) := by decide +kernel
theorem dX12_pair_146 : decode cX12_pair 146 = .ok (.lreturn, 1) := by decide +kernel
theorem dX12_phosphor_0 : decode cX12_phosphor 0 = .ok (.iload_n 1, 1) := by decide +kernel
theorem dX12_phosphor_1 : decode cX12_phosphor 1 = .ok (.i2l, 1) := by decide +kernel
theorem dX12_phosphor_2 : decode cX12_phosphor 2 = .ok (.lconst 0, 1) := by decide +kernel
theorem dX12_phosphor_3 : decode cX12_phosphor 3 = .ok (.ldc2_w 540, 3) := by decide +kernel
theorem dX12_phosphor_6 : decode cX12_phosphor 6 = .ok (.invokestatic 155, 3) := by decide +kernel
theorem dX12_phosphor_9 : decode cX12_phosphor 9 = .ok (.ifCond .eq 27, 3) := by decide +kernel
theorem dX12_phosphor_12 : decode cX12_phosphor 12 = .ok (.iload_n 2, 1) := by decide +kernel
theorem dX12_phosphor_13 : decode cX12_phosphor 13 = .ok (.i2l, 1) := by decide +kernel
theorem dX12_phosphor_14 : decode cX12_phosphor 14 = .ok (.lconst 0, 1) := by decide +kernel
theorem dX12_phosphor_15 : decode cX12_phosphor 15 = .ok (.ldc2_w 542, 3) := by decide +kernel
theorem dX12_phosphor_18 : decode cX12_phosphor 18 = .ok (.invokestatic 155, 3) := by decide +kernel
theorem dX12_phosphor_21 : decode cX12_phosphor 21 = .ok (.ifCond .eq 15, 3) := by decide +kernel
theorem dX12_phosphor_24 : decode cX12_phosphor 24 = .ok (.iload_n 3, 1) := by decide +kernel
theorem dX12_phosphor_25 : decode cX12_phosphor 25 = .ok (.i2l, 1) := by decide +kernel
theorem dX12_phosphor_26 : decode cX12_phosphor 26 = .ok (.lconst 0, 1) := by decide +kernel
theorem dX12_phosphor_27 : decode cX12_phosphor 27 = .ok (.ldc2_w 544, 3) := by decide +kernel
theorem dX12_phosphor_30 : decode cX12_phosphor 30 = .ok (.invokestatic 155, 3) := by decide +kernel
theorem dX12_phosphor_33 : decode cX12_phosphor 33 = .ok (.ifCond .ne 5, 3) := by decide +kernel
theorem dX12_phosphor_36 : decode cX12_phosphor 36 = .ok (.iconst 0, 1) := by decide +kernel
theorem dX12_phosphor_37 : decode cX12_phosphor 37 = .ok (.ireturn, 1) := by decide +kernel
theorem dX12_phosphor_38 : decode cX12_phosphor 38 = .ok (.aload_n 0, 1) := by decide +kernel
theorem dX12_phosphor_39 : decode cX12_phosphor 39 = .ok (.getfield 138, 3) := by decide +kernel
theorem dX12_phosphor_42 : decode cX12_phosphor 42 = .ok (.bipush 12, 2) := by decide +kernel
theorem dX12_phosphor_44 : decode cX12_phosphor 44 = .ok (.iload_n 2, 1) := by decide +kernel
theorem dX12_phosphor_45 : decode cX12_phosphor 45 = .ok (.imul, 1) := by decide +kernel
theorem dX12_phosphor_46 : decode cX12_phosphor 46 = .ok (.iload_n 1, 1) := by decide +kernel
theorem dX12_phosphor_47 : decode cX12_phosphor 47 = .ok (.iadd, 1) := by decide +kernel
theorem dX12_phosphor_48 : decode cX12_phosphor 48 = .ok (.iload_n 3, 1) := by decide +kernel
theorem dX12_phosphor_49 : decode cX12_phosphor 49 = .ok (.iastore, 1) := by decide +kernel
theorem dX12_phosphor_50 : decode cX12_phosphor 50 = .ok (.iconst 1, 1) := by decide +kernel
theorem dX12_phosphor_51 : decode cX12_phosphor 51 = .ok (.ireturn, 1) := by decide +kernel
theorem dX12_muchAt_0 : decode cX12_muchAt 0 = .ok (.iconst 0, 1) := by decide +kernel
theorem dX12_muchAt_1 : decode cX12_muchAt 1 = .ok (.istore 5, 2) := by decide +kernel
theorem dX12_muchAt_3 : decode cX12_muchAt 3 = .ok (.iconst 0, 1) := by decide +kernel
theorem dX12_muchAt_4 : decode cX12_muchAt 4 = .ok (.istore 6, 2) := by decide +kernel
theorem dX12_muchAt_6 : decode cX12_muchAt 6 = .ok (.iload 6, 2) := by decide +kernel
theorem dX12_muchAt_8 : decode cX12_muchAt 8 = .ok (.iload_n 3, 1) := by decide +kernel
theorem dX12_muchAt_9 : decode cX12_muchAt 9 = .ok (.if_icmp .ge 47, 3) := by decide +kernel
theorem dX12_muchAt_12 : decode cX12_muchAt 12 = .ok (.iconst 0, 1) := by decide +kernel
theorem dX12_muchAt_13 : decode cX12_muchAt 13 = .ok (.istore 7, 2) := by decide +kernel
theorem dX12_muchAt_15 : decode cX12_muchAt 15 = .ok (.iload 7, 2) := by decide +kernel
theorem dX12_muchAt_17 : decode cX12_muchAt 17 = .ok (.iload 4, 2) := by decide +kernel
theorem dX12_muchAt_19 : decode cX12_muchAt 19 = .ok (.if_icmp .ge 31, 3) := by decide +kernel
theorem dX12_muchAt_22 : decode cX12_muchAt 22 = .ok (.iload 5, 2) := by decide +kernel
theorem dX12_muchAt_24 : decode cX12_muchAt 24 = .ok (.aload_n 0, 1) := by decide +kernel
theorem dX12_muchAt_25 : decode cX12_muchAt 25 = .ok (.getfield 138, 3) := by decide +kernel
theorem dX12_muchAt_28 : decode cX12_muchAt 28 = .ok (.bipush 12, 2) := by decide +kernel
theorem dX12_muchAt_30 : decode cX12_muchAt 30 = .ok (.iload_n 2, 1) := by decide +kernel
theorem dX12_muchAt_31 : decode cX12_muchAt 31 = .ok (.iload 7, 2) := by decide +kernel
theorem dX12_muchAt_33 : decode cX12_muchAt 33 = .ok (.iadd, 1) := by decide +kernel
theorem dX12_muchAt_34 : decode cX12_muchAt 34 = .ok (.imul, 1) := by decide +kernel
theorem dX12_muchAt_35 : decode cX12_muchAt 35 = .ok (.iload_n 1, 1) := by decide +kernel
theorem dX12_muchAt_36 : decode cX12_muchAt 36 = .ok (.iadd, 1) := by decide +kernel
theorem dX12_muchAt_37 : decode cX12_muchAt 37 = .ok (.iload 6, 2) := by decide +kernel
theorem dX12_muchAt_39 : decode cX12_muchAt 39 = .ok (.iadd, 1) := by decide +kernel
theorem dX12_muchAt_40 : decode cX12_muchAt 40 = .ok (.iaload, 1) := by decide +kernel
theorem dX12_muchAt_41 : decode cX12_muchAt 41 = .ok (.iadd, 1) := by decide +kernel
theorem dX12_muchAt_42 : decode cX12_muchAt 42 = .ok (.istore 5, 2) := by decide +kernel
theorem dX12_muchAt_44 : decode cX12_muchAt 44 = .ok (.iinc 7 1, 3) := by decide +kernel
theorem dX12_muchAt_47 : decode cX12_muchAt 47 = .ok (.goto (-32), 3) := by decide +kernel
theorem dX12_muchAt_50 : decode cX12_muchAt 50 = .ok (.iinc 6 1, 3) := by decide +kernel
theorem dX12_muchAt_53 : decode cX12_muchAt 53 = .ok (.goto (-47), 3) := by decide +kernel
theorem dX12_muchAt_56 : decode cX12_muchAt 56 = .ok (.iload 5, 2) := by decide +kernel
theorem dX12_muchAt_58 : decode cX12_muchAt 58 = .ok (.ireturn, 1) := by decide +kernel
theorem dX12_body_0 : decode cX12_body 0 = .ok (.iload_n 1, 1) := by decide +kernel
theorem dX12_body_1 : decode cX12_body 1 = .ok (.i2l, 1) := by decide +kernel
theorem dX12_body_2 : decode cX12_body 2 = .ok (.lconst 1, 1) := by decide +kernel
theorem dX12_body_3 : decode cX12_body 3 = .ok (.ldc2_w 546, 3) := by decide +kernel
theorem dX12_body_6 : decode cX12_body 6 = .ok (.invokestatic 155, 3) := by decide +kernel
theorem dX12_body_9 : decode cX12_body 9 = .ok (.ifCond .eq 27, 3) := by decide +kernel
theorem dX12_body_12 : decode cX12_body 12 = .ok (.iload_n 2, 1) := by decide +kernel
theorem dX12_body_13 : decode cX12_body 13 = .ok (.i2l, 1) := by decide +kernel
theorem dX12_body_14 : decode cX12_body 14 = .ok (.lconst 1, 1) := by decide +kernel
theorem dX12_body_15 : decode cX12_body 15 = .ok (.ldc2_w 548, 3) := by decide +kernel
theorem dX12_body_18 : decode cX12_body 18 = .ok (.invokestatic 155, 3) := by decide +kernel
theorem dX12_body_21 : decode cX12_body 21 = .ok (.ifCond .eq 15, 3) := by decide +kernel
theorem dX12_body_24 : decode cX12_body 24 = .ok (.iload_n 3, 1) := by decide +kernel
theorem dX12_body_25 : decode cX12_body 25 = .ok (.i2l, 1) := by decide +kernel
theorem dX12_body_26 : decode cX12_body 26 = .ok (.lconst 0, 1) := by decide +kernel
theorem dX12_body_27 : decode cX12_body 27 = .ok (.ldc2_w 468, 3) := by decide +kernel
theorem dX12_body_30 : decode cX12_body 30 = .ok (.invokestatic 155, 3) := by decide +kernel
theorem dX12_body_33 : decode cX12_body 33 = .ok (.ifCond .ne 5, 3) := by decide +kernel
theorem dX12_body_36 : decode cX12_body 36 = .ok (.iconst (-1), 1) := by decide +kernel
theorem dX12_body_37 : decode cX12_body 37 = .ok (.ireturn, 1) := by decide +kernel
theorem dX12_body_38 : decode cX12_body 38 = .ok (.iconst (-1), 1) := by decide +kernel
theorem dX12_body_39 : decode cX12_body 39 = .ok (.istore 4, 2) := by decide +kernel
theorem dX12_body_41 : decode cX12_body 41 = .ok (.iconst 0, 1) := by decide +kernel
theorem dX12_body_42 : decode cX12_body 42 = .ok (.istore 5, 2) := by decide +kernel
theorem dX12_body_44 : decode cX12_body 44 = .ok (.iconst 0, 1) := by decide +kernel
theorem dX12_body_45 : decode cX12_body 45 = .ok (.istore 6, 2) := by decide +kernel
theorem dX12_body_47 : decode cX12_body 47 = .ok (.iconst 0, 1) := by decide +kernel
theorem dX12_body_48 : decode cX12_body 48 = .ok (.istore 7, 2) := by decide +kernel
theorem dX12_body_50 : decode cX12_body 50 = .ok (.iconst 0, 1) := by decide +kernel
theorem dX12_body_51 : decode cX12_body 51 = .ok (.istore 8, 2) := by decide +kernel
theorem dX12_body_53 : decode cX12_body 53 = .ok (.iload 8, 2) := by decide +kernel
theorem dX12_body_55 : decode cX12_body 55 = .ok (.iload_n 2, 1) := by decide +kernel
theorem dX12_body_56 : decode cX12_body 56 = .ok (.iadd, 1) := by decide +kernel
theorem dX12_body_57 : decode cX12_body 57 = .ok (.bipush 6, 2) := by decide +kernel
theorem dX12_body_59 : decode cX12_body 59 = .ok (.if_icmp .gt 78, 3) := by decide +kernel
theorem dX12_body_62 : decode cX12_body 62 = .ok (.iconst 0, 1) := by decide +kernel
theorem dX12_body_63 : decode cX12_body 63 = .ok (.istore 9, 2) := by decide +kernel
theorem dX12_body_65 : decode cX12_body 65 = .ok (.iload 9, 2) := by decide +kernel
theorem dX12_body_67 : decode cX12_body 67 = .ok (.iload_n 1, 1) := by decide +kernel
theorem dX12_body_68 : decode cX12_body 68 = .ok (.iadd, 1) := by decide +kernel
theorem dX12_body_69 : decode cX12_body 69 = .ok (.bipush 12, 2) := by decide +kernel
theorem dX12_body_71 : decode cX12_body 71 = .ok (.if_icmp .gt 60, 3) := by decide +kernel
theorem dX12_body_74 : decode cX12_body 74 = .ok (.aload_n 0, 1) := by decide +kernel
theorem dX12_body_75 : decode cX12_body 75 = .ok (.iload 9, 2) := by decide +kernel
theorem dX12_body_77 : decode cX12_body 77 = .ok (.iload 8, 2) := by decide +kernel
theorem dX12_body_79 : decode cX12_body 79 = .ok (.iload_n 1, 1) := by decide +kernel
theorem dX12_body_80 : decode cX12_body 80 = .ok (.iload_n 2, 1) := by decide +kernel
theorem dX12_body_81 : decode cX12_body 81 = .ok (.invokevirtual 550, 3) := by decide +kernel
theorem dX12_body_84 : decode cX12_body 84 = .ok (.istore 10, 2) := by decide +kernel
theorem dX12_body_86 : decode cX12_body 86 = .ok (.iload 10, 2) := by decide +kernel
theorem dX12_body_88 : decode cX12_body 88 = .ok (.iload 4, 2) := by decide +kernel
theorem dX12_body_90 : decode cX12_body 90 = .ok (.if_icmp .le 18, 3) := by decide +kernel
theorem dX12_body_93 : decode cX12_body 93 = .ok (.iload 10, 2) := by decide +kernel
theorem dX12_body_95 : decode cX12_body 95 = .ok (.istore 4, 2) := by decide +kernel
theorem dX12_body_97 : decode cX12_body 97 = .ok (.iload 9, 2) := by decide +kernel
theorem dX12_body_99 : decode cX12_body 99 = .ok (.istore 5, 2) := by decide +kernel
theorem dX12_body_101 : decode cX12_body 101 = .ok (.iload 8, 2) := by decide +kernel
theorem dX12_body_103 : decode cX12_body 103 = .ok (.istore 6, 2) := by decide +kernel
theorem dX12_body_105 : decode cX12_body 105 = .ok (.iconst 0, 1) := by decide +kernel
theorem dX12_body_106 : decode cX12_body 106 = .ok (.istore 7, 2) := by decide +kernel
theorem dX12_body_108 : decode cX12_body 108 = .ok (.iload 7, 2) := by decide +kernel
theorem dX12_body_110 : decode cX12_body 110 = .ok (.iload 10, 2) := by decide +kernel
theorem dX12_body_112 : decode cX12_body 112 = .ok (.iload 4, 2) := by decide +kernel
theorem dX12_body_114 : decode cX12_body 114 = .ok (.if_icmp .ne 7, 3) := by decide +kernel
theorem dX12_body_117 : decode cX12_body 117 = .ok (.iconst 1, 1) := by decide +kernel
theorem dX12_body_118 : decode cX12_body 118 = .ok (.goto 4, 3) := by decide +kernel
theorem dX12_body_121 : decode cX12_body 121 = .ok (.iconst 0, 1) := by decide +kernel
theorem dX12_body_122 : decode cX12_body 122 = .ok (.iadd, 1) := by decide +kernel
theorem dX12_body_123 : decode cX12_body 123 = .ok (.istore 7, 2) := by decide +kernel
theorem dX12_body_125 : decode cX12_body 125 = .ok (.iinc 9 1, 3) := by decide +kernel
theorem dX12_body_128 : decode cX12_body 128 = .ok (.goto (-63), 3) := by decide +kernel
theorem dX12_body_131 : decode cX12_body 131 = .ok (.iinc 8 1, 3) := by decide +kernel
theorem dX12_body_134 : decode cX12_body 134 = .ok (.goto (-81), 3) := by decide +kernel
theorem dX12_body_137 : decode cX12_body 137 = .ok (.iload_n 3, 1) := by decide +kernel
theorem dX12_body_138 : decode cX12_body 138 = .ok (.ifCond .ne 8, 3) := by decide +kernel
theorem dX12_body_141 : decode cX12_body 141 = .ok (.iload 5, 2) := by decide +kernel
theorem dX12_body_143 : decode cX12_body 143 = .ok (.goto 46, 3) := by decide +kernel
theorem dX12_body_146 : decode cX12_body 146 = .ok (.iload_n 3, 1) := by decide +kernel
theorem dX12_body_147 : decode cX12_body 147 = .ok (.iconst 1, 1) := by decide +kernel
theorem dX12_body_148 : decode cX12_body 148 = .ok (.if_icmp .ne 8, 3) := by decide +kernel
theorem dX12_body_151 : decode cX12_body 151 = .ok (.iload 6, 2) := by decide +kernel
theorem dX12_body_153 : decode cX12_body 153 = .ok (.goto 36, 3) := by decide +kernel
theorem dX12_body_156 : decode cX12_body 156 = .ok (.iload_n 3, 1) := by decide +kernel
theorem dX12_body_157 : decode cX12_body 157 = .ok (.iconst 2, 1) := by decide +kernel
theorem dX12_body_158 : decode cX12_body 158 = .ok (.if_icmp .ne 8, 3) := by decide +kernel
theorem dX12_body_161 : decode cX12_body 161 = .ok (.iload 4, 2) := by decide +kernel
theorem dX12_body_163 : decode cX12_body 163 = .ok (.goto 26, 3) := by decide +kernel
theorem dX12_body_166 : decode cX12_body 166 = .ok (.iload_n 3, 1) := by decide +kernel
theorem dX12_body_167 : decode cX12_body 167 = .ok (.iconst 3, 1) := by decide +kernel
theorem dX12_body_168 : decode cX12_body 168 = .ok (.if_icmp .ne 8, 3) := by decide +kernel
theorem dX12_body_171 : decode cX12_body 171 = .ok (.iload 7, 2) := by decide +kernel
theorem dX12_body_173 : decode cX12_body 173 = .ok (.goto 16, 3) := by decide +kernel
theorem dX12_body_176 : decode cX12_body 176 = .ok (.bipush 12, 2) := by decide +kernel
theorem dX12_body_178 : decode cX12_body 178 = .ok (.iload_n 1, 1) := by decide +kernel
theorem dX12_body_179 : decode cX12_body 179 = .ok (.isub, 1) := by decide +kernel
