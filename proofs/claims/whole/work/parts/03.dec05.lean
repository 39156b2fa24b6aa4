theorem dX7_eager_87 : decode cX7_eager 87 = .ok (.iload_n 3, 1) := by decide +kernel
theorem dX7_eager_88 : decode cX7_eager 88 = .ok (.iaload, 1) := by decide +kernel
theorem dX7_eager_89 : decode cX7_eager 89 = .ok (.aload_n 0, 1) := by decide +kernel
theorem dX7_eager_90 : decode cX7_eager 90 = .ok (.getfield 52, 3) := by decide +kernel
theorem dX7_eager_93 : decode cX7_eager 93 = .ok (.iload_n 3, 1) := by decide +kernel
theorem dX7_eager_94 : decode cX7_eager 94 = .ok (.iconst 1, 1) := by decide +kernel
theorem dX7_eager_95 : decode cX7_eager 95 = .ok (.iadd, 1) := by decide +kernel
theorem dX7_eager_96 : decode cX7_eager 96 = .ok (.iaload, 1) := by decide +kernel
theorem dX7_eager_97 : decode cX7_eager 97 = .ok (.aload_n 0, 1) := by decide +kernel
theorem dX7_eager_98 : decode cX7_eager 98 = .ok (.getfield 52, 3) := by decide +kernel
theorem dX7_eager_101 : decode cX7_eager 101 = .ok (.iload_n 3, 1) := by decide +kernel
theorem dX7_eager_102 : decode cX7_eager 102 = .ok (.iconst 2, 1) := by decide +kernel
theorem dX7_eager_103 : decode cX7_eager 103 = .ok (.iadd, 1) := by decide +kernel
theorem dX7_eager_104 : decode cX7_eager 104 = .ok (.iaload, 1) := by decide +kernel
theorem dX7_eager_105 : decode cX7_eager 105 = .ok (.invokevirtual 147, 3) := by decide +kernel
theorem dX7_eager_108 : decode cX7_eager 108 = .ok (.istore 4, 2) := by decide +kernel
theorem dX7_eager_110 : decode cX7_eager 110 = .ok (.aload_n 0, 1) := by decide +kernel
theorem dX7_eager_111 : decode cX7_eager 111 = .ok (.getfield 82, 3) := by decide +kernel
theorem dX7_eager_114 : decode cX7_eager 114 = .ok (.ifCond .eq 4, 3) := by decide +kernel
theorem dX7_eager_117 : decode cX7_eager 117 = .ok (.return_, 1) := by decide +kernel
theorem dX7_eager_118 : decode cX7_eager 118 = .ok (.aload_n 0, 1) := by decide +kernel
theorem dX7_eager_119 : decode cX7_eager 119 = .ok (.iload 4, 2) := by decide +kernel
theorem dX7_eager_121 : decode cX7_eager 121 = .ok (.putfield 114, 3) := by decide +kernel
theorem dX7_eager_124 : decode cX7_eager 124 = .ok (.aload_n 0, 1) := by decide +kernel
theorem dX7_eager_125 : decode cX7_eager 125 = .ok (.dup, 1) := by decide +kernel
theorem dX7_eager_126 : decode cX7_eager 126 = .ok (.getfield 98, 3) := by decide +kernel
theorem dX7_eager_129 : decode cX7_eager 129 = .ok (.iconst 1, 1) := by decide +kernel
theorem dX7_eager_130 : decode cX7_eager 130 = .ok (.isub, 1) := by decide +kernel
theorem dX7_eager_131 : decode cX7_eager 131 = .ok (.putfield 98, 3) := by decide +kernel
theorem dX7_eager_134 : decode cX7_eager 134 = .ok (.return_, 1) := by decide +kernel
theorem dX7_act_0 : decode cX7_act 0 = .ok (.aload_n 0, 1) := by decide +kernel
theorem dX7_act_1 : decode cX7_act 1 = .ok (.getfield 13, 3) := by decide +kernel
theorem dX7_act_4 : decode cX7_act 4 = .ok (.iload_n 1, 1) := by decide +kernel
theorem dX7_act_5 : decode cX7_act 5 = .ok (.iaload, 1) := by decide +kernel
theorem dX7_act_6 : decode cX7_act 6 = .ok (.bipush 10, 2) := by decide +kernel
theorem dX7_act_8 : decode cX7_act 8 = .ok (.if_icmp .ge 13, 3) := by decide +kernel
theorem dX7_act_11 : decode cX7_act 11 = .ok (.aload_n 0, 1) := by decide +kernel
theorem dX7_act_12 : decode cX7_act 12 = .ok (.iload_n 1, 1) := by decide +kernel
theorem dX7_act_13 : decode cX7_act 13 = .ok (.iload_n 2, 1) := by decide +kernel
theorem dX7_act_14 : decode cX7_act 14 = .ok (.iload_n 3, 1) := by decide +kernel
theorem dX7_act_15 : decode cX7_act 15 = .ok (.iload 4, 2) := by decide +kernel
theorem dX7_act_17 : decode cX7_act 17 = .ok (.invokevirtual 151, 3) := by decide +kernel
theorem dX7_act_20 : decode cX7_act 20 = .ok (.ireturn, 1) := by decide +kernel
theorem dX7_act_21 : decode cX7_act 21 = .ok (.aload_n 0, 1) := by decide +kernel
theorem dX7_act_22 : decode cX7_act 22 = .ok (.getfield 13, 3) := by decide +kernel
theorem dX7_act_25 : decode cX7_act 25 = .ok (.iload_n 1, 1) := by decide +kernel
theorem dX7_act_26 : decode cX7_act 26 = .ok (.iaload, 1) := by decide +kernel
theorem dX7_act_27 : decode cX7_act 27 = .ok (.bipush 10, 2) := by decide +kernel
theorem dX7_act_29 : decode cX7_act 29 = .ok (.if_icmp .ne 14, 3) := by decide +kernel
theorem dX7_act_32 : decode cX7_act 32 = .ok (.aload_n 0, 1) := by decide +kernel
theorem dX7_act_33 : decode cX7_act 33 = .ok (.iload_n 1, 1) := by decide +kernel
theorem dX7_act_34 : decode cX7_act 34 = .ok (.iload_n 2, 1) := by decide +kernel
theorem dX7_act_35 : decode cX7_act 35 = .ok (.iload 4, 2) := by decide +kernel
theorem dX7_act_37 : decode cX7_act 37 = .ok (.invokevirtual 154, 3) := by decide +kernel
theorem dX7_act_40 : decode cX7_act 40 = .ok (.goto 12, 3) := by decide +kernel
theorem dX7_act_43 : decode cX7_act 43 = .ok (.aload_n 0, 1) := by decide +kernel
theorem dX7_act_44 : decode cX7_act 44 = .ok (.iload_n 1, 1) := by decide +kernel
theorem dX7_act_45 : decode cX7_act 45 = .ok (.iload_n 2, 1) := by decide +kernel
theorem dX7_act_46 : decode cX7_act 46 = .ok (.iload_n 3, 1) := by decide +kernel
theorem dX7_act_47 : decode cX7_act 47 = .ok (.iload 4, 2) := by decide +kernel
theorem dX7_act_49 : decode cX7_act 49 = .ok (.invokevirtual 158, 3) := by decide +kernel
theorem dX7_act_52 : decode cX7_act 52 = .ok (.ireturn, 1) := by decide +kernel
theorem dX7_noSlot_0 : decode cX7_noSlot 0 = .ok (.iload_n 2, 1) := by decide +kernel
theorem dX7_noSlot_1 : decode cX7_noSlot 1 = .ok (.ifCond .lt 12, 3) := by decide +kernel
theorem dX7_noSlot_4 : decode cX7_noSlot 4 = .ok (.iload_n 2, 1) := by decide +kernel
theorem dX7_noSlot_5 : decode cX7_noSlot 5 = .ok (.sipush 256, 3) := by decide +kernel
theorem dX7_noSlot_8 : decode cX7_noSlot 8 = .ok (.if_icmp .ge 5, 3) := by decide +kernel
theorem dX7_noSlot_11 : decode cX7_noSlot 11 = .ok (.iconst 0, 1) := by decide +kernel
theorem dX7_noSlot_12 : decode cX7_noSlot 12 = .ok (.ireturn, 1) := by decide +kernel
theorem dX7_noSlot_13 : decode cX7_noSlot 13 = .ok (.aload_n 0, 1) := by decide +kernel
theorem dX7_noSlot_14 : decode cX7_noSlot 14 = .ok (.iconst 2, 1) := by decide +kernel
theorem dX7_noSlot_15 : decode cX7_noSlot 15 = .ok (.iload_n 1, 1) := by decide +kernel
theorem dX7_noSlot_16 : decode cX7_noSlot 16 = .ok (.invokevirtual 88, 3) := by decide +kernel
theorem dX7_noSlot_19 : decode cX7_noSlot 19 = .ok (.pop, 1) := by decide +kernel
theorem dX7_noSlot_20 : decode cX7_noSlot 20 = .ok (.iconst 1, 1) := by decide +kernel
theorem dX7_noSlot_21 : decode cX7_noSlot 21 = .ok (.ireturn, 1) := by decide +kernel
theorem dX7_simple_0 : decode cX7_simple 0 = .ok (.aload_n 0, 1) := by decide +kernel
theorem dX7_simple_1 : decode cX7_simple 1 = .ok (.getfield 13, 3) := by decide +kernel
theorem dX7_simple_4 : decode cX7_simple 4 = .ok (.iload_n 1, 1) := by decide +kernel
theorem dX7_simple_5 : decode cX7_simple 5 = .ok (.iaload, 1) := by decide +kernel
theorem dX7_simple_6 : decode cX7_simple 6 = .ok (.tableswitch 249 0 8 #[50, 61, 91, 121, 130, 139, 148, 185, 228], 50) := by decide +kernel
theorem dX7_simple_56 : decode cX7_simple 56 = .ok (.aload_n 0, 1) := by decide +kernel
theorem dX7_simple_57 : decode cX7_simple 57 = .ok (.aload_n 0, 1) := by decide +kernel
theorem dX7_simple_58 : decode cX7_simple 58 = .ok (.getfield 19, 3) := by decide +kernel
theorem dX7_simple_61 : decode cX7_simple 61 = .ok (.iload_n 1, 1) := by decide +kernel
theorem dX7_simple_62 : decode cX7_simple 62 = .ok (.laload, 1) := by decide +kernel
theorem dX7_simple_63 : decode cX7_simple 63 = .ok (.invokevirtual 123, 3) := by decide +kernel
theorem dX7_simple_66 : decode cX7_simple 66 = .ok (.ireturn, 1) := by decide +kernel
theorem dX7_simple_67 : decode cX7_simple 67 = .ok (.aload_n 0, 1) := by decide +kernel
theorem dX7_simple_68 : decode cX7_simple 68 = .ok (.iload_n 1, 1) := by decide +kernel
theorem dX7_simple_69 : decode cX7_simple 69 = .ok (.aload_n 0, 1) := by decide +kernel
theorem dX7_simple_70 : decode cX7_simple 70 = .ok (.iload_n 1, 1) := by decide +kernel
theorem dX7_simple_71 : decode cX7_simple 71 = .ok (.iconst 0, 1) := by decide +kernel
theorem dX7_simple_72 : decode cX7_simple 72 = .ok (.invokevirtual 101, 3) := by decide +kernel
theorem dX7_simple_75 : decode cX7_simple 75 = .ok (.invokevirtual 161, 3) := by decide +kernel
theorem dX7_simple_78 : decode cX7_simple 78 = .ok (.ifCond .eq 7, 3) := by decide +kernel
theorem dX7_simple_81 : decode cX7_simple 81 = .ok (.iconst (-1), 1) := by decide +kernel
theorem dX7_simple_82 : decode cX7_simple 82 = .ok (.goto 14, 3) := by decide +kernel
theorem dX7_simple_85 : decode cX7_simple 85 = .ok (.aload_n 0, 1) := by decide +kernel
theorem dX7_simple_86 : decode cX7_simple 86 = .ok (.getfield 39, 3) := by decide +kernel
theorem dX7_simple_89 : decode cX7_simple 89 = .ok (.aload_n 0, 1) := by decide +kernel
theorem dX7_simple_90 : decode cX7_simple 90 = .ok (.iload_n 1, 1) := by decide +kernel
theorem dX7_simple_91 : decode cX7_simple 91 = .ok (.iconst 0, 1) := by decide +kernel
theorem dX7_simple_92 : decode cX7_simple 92 = .ok (.invokevirtual 101, 3) := by decide +kernel
theorem dX7_simple_95 : decode cX7_simple 95 = .ok (.iaload, 1) := by decide +kernel
theorem dX7_simple_96 : decode cX7_simple 96 = .ok (.ireturn, 1) := by decide +kernel
theorem dX7_simple_97 : decode cX7_simple 97 = .ok (.aload_n 0, 1) := by decide +kernel
theorem dX7_simple_98 : decode cX7_simple 98 = .ok (.iload_n 1, 1) := by decide +kernel
theorem dX7_simple_99 : decode cX7_simple 99 = .ok (.aload_n 0, 1) := by decide +kernel
theorem dX7_simple_100 : decode cX7_simple 100 = .ok (.iload_n 1, 1) := by decide +kernel
theorem dX7_simple_101 : decode cX7_simple 101 = .ok (.iconst 0, 1) := by decide +kernel
theorem dX7_simple_102 : decode cX7_simple 102 = .ok (.invokevirtual 101, 3) := by decide +kernel
theorem dX7_simple_105 : decode cX7_simple 105 = .ok (.invokevirtual 161, 3) := by decide +kernel
theorem dX7_simple_108 : decode cX7_simple 108 = .ok (.ifCond .eq 5, 3) := by decide +kernel
theorem dX7_simple_111 : decode cX7_simple 111 = .ok (.iconst (-1), 1) := by decide +kernel
theorem dX7_simple_112 : decode cX7_simple 112 = .ok (.ireturn, 1) := by decide +kernel
theorem dX7_simple_113 : decode cX7_simple 113 = .ok (.aload_n 0, 1) := by decide +kernel
theorem dX7_simple_114 : decode cX7_simple 114 = .ok (.getfield 39, 3) := by decide +kernel
theorem dX7_simple_117 : decode cX7_simple 117 = .ok (.aload_n 0, 1) := by decide +kernel
theorem dX7_simple_118 : decode cX7_simple 118 = .ok (.iload_n 1, 1) := by decide +kernel
theorem dX7_simple_119 : decode cX7_simple 119 = .ok (.iconst 0, 1) := by decide +kernel
theorem dX7_simple_120 : decode cX7_simple 120 = .ok (.invokevirtual 101, 3) := by decide +kernel
theorem dX7_simple_123 : decode cX7_simple 123 = .ok (.iload_n 3, 1) := by decide +kernel
theorem dX7_simple_124 : decode cX7_simple 124 = .ok (.iastore, 1) := by decide +kernel
theorem dX7_simple_125 : decode cX7_simple 125 = .ok (.iload_n 3, 1) := by decide +kernel
theorem dX7_simple_126 : decode cX7_simple 126 = .ok (.ireturn, 1) := by decide +kernel
theorem dX7_simple_127 : decode cX7_simple 127 = .ok (.aload_n 0, 1) := by decide +kernel
theorem dX7_simple_128 : decode cX7_simple 128 = .ok (.iconst 2, 1) := by decide +kernel
theorem dX7_simple_129 : decode cX7_simple 129 = .ok (.lconst 0, 1) := by decide +kernel
theorem dX7_simple_130 : decode cX7_simple 130 = .ok (.iload_n 2, 1) := by decide +kernel
theorem dX7_simple_131 : decode cX7_simple 131 = .ok (.iload_n 3, 1) := by decide +kernel
theorem dX7_simple_132 : decode cX7_simple 132 = .ok (.invokevirtual 78, 3) := by decide +kernel
theorem dX7_simple_135 : decode cX7_simple 135 = .ok (.ireturn, 1) := by decide +kernel
theorem dX7_simple_136 : decode cX7_simple 136 = .ok (.aload_n 0, 1) := by decide +kernel
theorem dX7_simple_137 : decode cX7_simple 137 = .ok (.iconst 3, 1) := by decide +kernel
theorem dX7_simple_138 : decode cX7_simple 138 = .ok (.lconst 0, 1) := by decide +kernel
theorem dX7_simple_139 : decode cX7_simple 139 = .ok (.iload_n 2, 1) := by decide +kernel
theorem dX7_simple_140 : decode cX7_simple 140 = .ok (.iload_n 3, 1) := by decide +kernel
theorem dX7_simple_141 : decode cX7_simple 141 = .ok (.invokevirtual 78, 3) := by decide +kernel
theorem dX7_simple_144 : decode cX7_simple 144 = .ok (.ireturn, 1) := by decide +kernel
theorem dX7_simple_145 : decode cX7_simple 145 = .ok (.aload_n 0, 1) := by decide +kernel
theorem dX7_simple_146 : decode cX7_simple 146 = .ok (.iconst 4, 1) := by decide +kernel
theorem dX7_simple_147 : decode cX7_simple 147 = .ok (.lconst 0, 1) := by decide +kernel
theorem dX7_simple_148 : decode cX7_simple 148 = .ok (.iload_n 2, 1) := by decide +kernel
theorem dX7_simple_149 : decode cX7_simple 149 = .ok (.iconst (-1), 1) := by decide +kernel
theorem dX7_simple_150 : decode cX7_simple 150 = .ok (.invokevirtual 78, 3) := by decide +kernel
theorem dX7_simple_153 : decode cX7_simple 153 = .ok (.ireturn, 1) := by decide +kernel
theorem dX7_simple_154 : decode cX7_simple 154 = .ok (.aload_n 0, 1) := by decide +kernel
theorem dX7_simple_155 : decode cX7_simple 155 = .ok (.iload_n 1, 1) := by decide +kernel
theorem dX7_simple_156 : decode cX7_simple 156 = .ok (.iload_n 2, 1) := by decide +kernel
theorem dX7_simple_157 : decode cX7_simple 157 = .ok (.iconst 2, 1) := by decide +kernel
theorem dX7_simple_158 : decode cX7_simple 158 = .ok (.invokevirtual 143, 3) := by decide +kernel
theorem dX7_simple_161 : decode cX7_simple 161 = .ok (.ifCond .ne 5, 3) := by decide +kernel
theorem dX7_simple_164 : decode cX7_simple 164 = .ok (.iconst (-1), 1) := by decide +kernel
theorem dX7_simple_165 : decode cX7_simple 165 = .ok (.ireturn, 1) := by decide +kernel
theorem dX7_simple_166 : decode cX7_simple 166 = .ok (.aload_n 0, 1) := by decide +kernel
theorem dX7_simple_167 : decode cX7_simple 167 = .ok (.iload_n 1, 1) := by decide +kernel
theorem dX7_simple_168 : decode cX7_simple 168 = .ok (.iconst 1, 1) := by decide +kernel
theorem dX7_simple_169 : decode cX7_simple 169 = .ok (.invokevirtual 101, 3) := by decide +kernel
theorem dX7_simple_172 : decode cX7_simple 172 = .ok (.ifCond .ne 12, 3) := by decide +kernel
theorem dX7_simple_175 : decode cX7_simple 175 = .ok (.aload_n 0, 1) := by decide +kernel
theorem dX7_simple_176 : decode cX7_simple 176 = .ok (.getfield 27, 3) := by decide +kernel
theorem dX7_simple_179 : decode cX7_simple 179 = .ok (.iload_n 2, 1) := by decide +kernel
theorem dX7_simple_180 : decode cX7_simple 180 = .ok (.iaload, 1) := by decide +kernel
theorem dX7_simple_181 : decode cX7_simple 181 = .ok (.goto 9, 3) := by decide +kernel
theorem dX7_simple_184 : decode cX7_simple 184 = .ok (.aload_n 0, 1) := by decide +kernel
theorem dX7_simple_185 : decode cX7_simple 185 = .ok (.getfield 30, 3) := by decide +kernel
theorem dX7_simple_188 : decode cX7_simple 188 = .ok (.iload_n 2, 1) := by decide +kernel
theorem dX7_simple_189 : decode cX7_simple 189 = .ok (.iaload, 1) := by decide +kernel
theorem dX7_simple_190 : decode cX7_simple 190 = .ok (.ireturn, 1) := by decide +kernel
theorem dX7_simple_191 : decode cX7_simple 191 = .ok (.aload_n 0, 1) := by decide +kernel
theorem dX7_simple_192 : decode cX7_simple 192 = .ok (.iload_n 1, 1) := by decide +kernel
theorem dX7_simple_193 : decode cX7_simple 193 = .ok (.iload_n 2, 1) := by decide +kernel
theorem dX7_simple_194 : decode cX7_simple 194 = .ok (.iconst 2, 1) := by decide +kernel
theorem dX7_simple_195 : decode cX7_simple 195 = .ok (.invokevirtual 143, 3) := by decide +kernel
theorem dX7_simple_198 : decode cX7_simple 198 = .ok (.ifCond .ne 5, 3) := by decide +kernel
theorem dX7_simple_201 : decode cX7_simple 201 = .ok (.iconst (-1), 1) := by decide +kernel
theorem dX7_simple_202 : decode cX7_simple 202 = .ok (.ireturn, 1) := by decide +kernel
theorem dX7_simple_203 : decode cX7_simple 203 = .ok (.aload_n 0, 1) := by decide +kernel
theorem dX7_simple_204 : decode cX7_simple 204 = .ok (.iload_n 1, 1) := by decide +kernel
theorem dX7_simple_205 : decode cX7_simple 205 = .ok (.iconst 1, 1) := by decide +kernel
theorem dX7_simple_206 : decode cX7_simple 206 = .ok (.invokevirtual 101, 3) := by decide +kernel
theorem dX7_simple_209 : decode cX7_simple 209 = .ok (.ifCond .ne 14, 3) := by decide +kernel
theorem dX7_simple_212 : decode cX7_simple 212 = .ok (.aload_n 0, 1) := by decide +kernel
theorem dX7_simple_213 : decode cX7_simple 213 = .ok (.getfield 27, 3) := by decide +kernel
theorem dX7_simple_216 : decode cX7_simple 216 = .ok (.iload_n 2, 1) := by decide +kernel
theorem dX7_simple_217 : decode cX7_simple 217 = .ok (.iload 4, 2) := by decide +kernel
theorem dX7_simple_219 : decode cX7_simple 219 = .ok (.iastore, 1) := by decide +kernel
theorem dX7_simple_220 : decode cX7_simple 220 = .ok (.goto 11, 3) := by decide +kernel
theorem dX7_simple_223 : decode cX7_simple 223 = .ok (.aload_n 0, 1) := by decide +kernel
theorem dX7_simple_224 : decode cX7_simple 224 = .ok (.getfield 30, 3) := by decide +kernel
theorem dX7_simple_227 : decode cX7_simple 227 = .ok (.iload_n 2, 1) := by decide +kernel
theorem dX7_simple_228 : decode cX7_simple 228 = .ok (.iload 4, 2) := by decide +kernel
theorem dX7_simple_230 : decode cX7_simple 230 = .ok (.iastore, 1) := by decide +kernel
theorem dX7_simple_231 : decode cX7_simple 231 = .ok (.iload 4, 2) := by decide +kernel
theorem dX7_simple_233 : decode cX7_simple 233 = .ok (.ireturn, 1) := by decide +kernel
theorem dX7_simple_234 : decode cX7_simple 234 = .ok (.aload_n 0, 1) := by decide +kernel
theorem dX7_simple_235 : decode cX7_simple 235 = .ok (.iload_n 1, 1) := by decide +kernel
theorem dX7_simple_236 : decode cX7_simple 236 = .ok (.iload_n 2, 1) := by decide +kernel
theorem dX7_simple_237 : decode cX7_simple 237 = .ok (.iconst 3, 1) := by decide +kernel
theorem dX7_simple_238 : decode cX7_simple 238 = .ok (.invokevirtual 143, 3) := by decide +kernel
theorem dX7_simple_241 : decode cX7_simple 241 = .ok (.ifCond .eq 12, 3) := by decide +kernel
theorem dX7_simple_244 : decode cX7_simple 244 = .ok (.aload_n 0, 1) := by decide +kernel
theorem dX7_simple_245 : decode cX7_simple 245 = .ok (.getfield 27, 3) := by decide +kernel
theorem dX7_simple_248 : decode cX7_simple 248 = .ok (.iload_n 2, 1) := by decide +kernel
theorem dX7_simple_249 : decode cX7_simple 249 = .ok (.iaload, 1) := by decide +kernel
theorem dX7_simple_250 : decode cX7_simple 250 = .ok (.goto 4, 3) := by decide +kernel
theorem dX7_simple_253 : decode cX7_simple 253 = .ok (.iconst (-1), 1) := by decide +kernel
theorem dX7_simple_254 : decode cX7_simple 254 = .ok (.ireturn, 1) := by decide +kernel
theorem dX7_simple_255 : decode cX7_simple 255 = .ok (.aload_n 0, 1) := by decide +kernel
theorem dX7_simple_256 : decode cX7_simple 256 = .ok (.iload_n 1, 1) := by decide +kernel
theorem dX7_simple_257 : decode cX7_simple 257 = .ok (.iload_n 2, 1) := by decide +kernel
theorem dX7_simple_258 : decode cX7_simple 258 = .ok (.iconst 3, 1) := by decide +kernel
theorem dX7_simple_259 : decode cX7_simple 259 = .ok (.invokevirtual 143, 3) := by decide +kernel
theorem dX7_simple_262 : decode cX7_simple 262 = .ok (.ifCond .eq 12, 3) := by decide +kernel
theorem dX7_simple_265 : decode cX7_simple 265 = .ok (.aload_n 0, 1) := by decide +kernel
theorem dX7_simple_266 : decode cX7_simple 266 = .ok (.getfield 30, 3) := by decide +kernel
theorem dX7_simple_269 : decode cX7_simple 269 = .ok (.iload_n 2, 1) := by decide +kernel
theorem dX7_simple_270 : decode cX7_simple 270 = .ok (.iaload, 1) := by decide +kernel
theorem dX7_simple_271 : decode cX7_simple 271 = .ok (.goto 4, 3) := by decide +kernel
theorem dX7_simple_274 : decode cX7_simple 274 = .ok (.iconst (-1), 1) := by decide +kernel
theorem dX7_simple_275 : decode cX7_simple 275 = .ok (.ireturn, 1) := by decide +kernel
theorem dX7_send_0 : decode cX7_send 0 = .ok (.aload_n 0, 1) := by decide +kernel
theorem dX7_send_1 : decode cX7_send 1 = .ok (.iload_n 1, 1) := by decide +kernel
theorem dX7_send_2 : decode cX7_send 2 = .ok (.iload_n 2, 1) := by decide +kernel
theorem dX7_send_3 : decode cX7_send 3 = .ok (.iconst 4, 1) := by decide +kernel
theorem dX7_send_4 : decode cX7_send 4 = .ok (.invokevirtual 143, 3) := by decide +kernel
theorem dX7_send_7 : decode cX7_send 7 = .ok (.ifCond .ne 5, 3) := by decide +kernel
theorem dX7_send_10 : decode cX7_send 10 = .ok (.iconst (-1), 1) := by decide +kernel
theorem dX7_send_11 : decode cX7_send 11 = .ok (.ireturn, 1) := by decide +kernel
theorem dX7_send_12 : decode cX7_send 12 = .ok (.aload_n 0, 1) := by decide +kernel
theorem dX7_send_13 : decode cX7_send 13 = .ok (.iload_n 1, 1) := by decide +kernel
theorem dX7_send_14 : decode cX7_send 14 = .ok (.iconst 1, 1) := by decide +kernel
theorem dX7_send_15 : decode cX7_send 15 = .ok (.invokevirtual 101, 3) := by decide +kernel
theorem dX7_send_18 : decode cX7_send 18 = .ok (.istore 4, 2) := by decide +kernel
theorem dX7_send_20 : decode cX7_send 20 = .ok (.aload_n 0, 1) := by decide +kernel
theorem dX7_send_21 : decode cX7_send 21 = .ok (.getfield 27, 3) := by decide +kernel
theorem dX7_send_24 : decode cX7_send 24 = .ok (.iload_n 2, 1) := by decide +kernel
theorem dX7_send_25 : decode cX7_send 25 = .ok (.iaload, 1) := by decide +kernel
theorem dX7_send_26 : decode cX7_send 26 = .ok (.istore 5, 2) := by decide +kernel
theorem dX7_send_28 : decode cX7_send 28 = .ok (.iload 4, 2) := by decide +kernel
theorem dX7_send_30 : decode cX7_send 30 = .ok (.ifCond .ne 6, 3) := by decide +kernel
theorem dX7_send_33 : decode cX7_send 33 = .ok (.iload 5, 2) := by decide +kernel
theorem dX7_send_35 : decode cX7_send 35 = .ok (.ireturn, 1) := by decide +kernel
theorem dX7_send_36 : decode cX7_send 36 = .ok (.iload 4, 2) := by decide +kernel
theorem dX7_send_38 : decode cX7_send 38 = .ok (.iconst 1, 1) := by decide +kernel
theorem dX7_send_39 : decode cX7_send 39 = .ok (.if_icmp .ne 13, 3) := by decide +kernel
theorem dX7_send_42 : decode cX7_send 42 = .ok (.aload_n 0, 1) := by decide +kernel
theorem dX7_send_43 : decode cX7_send 43 = .ok (.getfield 27, 3) := by decide +kernel
theorem dX7_send_46 : decode cX7_send 46 = .ok (.iload_n 2, 1) := by decide +kernel
theorem dX7_send_47 : decode cX7_send 47 = .ok (.iload_n 3, 1) := by decide +kernel
theorem dX7_send_48 : decode cX7_send 48 = .ok (.iastore, 1) := by decide +kernel
theorem dX7_send_49 : decode cX7_send 49 = .ok (.iload 5, 2) := by decide +kernel
theorem dX7_send_51 : decode cX7_send 51 = .ok (.ireturn, 1) := by decide +kernel
theorem dX7_send_52 : decode cX7_send 52 = .ok (.iload 4, 2) := by decide +kernel
theorem dX7_send_54 : decode cX7_send 54 = .ok (.bipush 7, 2) := by decide +kernel
theorem dX7_send_56 : decode cX7_send 56 = .ok (.if_icmp .ne 19, 3) := by decide +kernel
theorem dX7_send_59 : decode cX7_send 59 = .ok (.aload_n 0, 1) := by decide +kernel
theorem dX7_send_60 : decode cX7_send 60 = .ok (.iload 5, 2) := by decide +kernel
theorem dX7_send_62 : decode cX7_send 62 = .ok (.iload_n 3, 1) := by decide +kernel
theorem dX7_send_63 : decode cX7_send 63 = .ok (.if_icmp .ne 7, 3) := by decide +kernel
theorem dX7_send_66 : decode cX7_send 66 = .ok (.lconst 1, 1) := by decide +kernel
theorem dX7_send_67 : decode cX7_send 67 = .ok (.goto 4, 3) := by decide +kernel
theorem dX7_send_70 : decode cX7_send 70 = .ok (.lconst 0, 1) := by decide +kernel
theorem dX7_send_71 : decode cX7_send 71 = .ok (.invokevirtual 123, 3) := by decide +kernel
theorem dX7_send_74 : decode cX7_send 74 = .ok (.ireturn, 1) := by decide +kernel
theorem dX7_send_75 : decode cX7_send 75 = .ok (.iload 4, 2) := by decide +kernel
theorem dX7_send_77 : decode cX7_send 77 = .ok (.iconst 2, 1) := by decide +kernel
theorem dX7_send_78 : decode cX7_send 78 = .ok (.if_icmp .lt 10, 3) := by decide +kernel
theorem dX7_send_81 : decode cX7_send 81 = .ok (.iload 4, 2) := by decide +kernel
theorem dX7_send_83 : decode cX7_send 83 = .ok (.bipush 7, 2) := by decide +kernel
theorem dX7_send_85 : decode cX7_send 85 = .ok (.if_icmp .le 9, 3) := by decide +kernel
theorem dX7_send_88 : decode cX7_send 88 = .ok (.aload_n 0, 1) := by decide +kernel
theorem dX7_send_89 : decode cX7_send 89 = .ok (.lconst 0, 1) := by decide +kernel
theorem dX7_send_90 : decode cX7_send 90 = .ok (.invokevirtual 123, 3) := by decide +kernel
theorem dX7_send_93 : decode cX7_send 93 = .ok (.ireturn, 1) := by decide +kernel
theorem dX7_send_94 : decode cX7_send 94 = .ok (.aload_n 0, 1) := by decide +kernel
theorem dX7_send_95 : decode cX7_send 95 = .ok (.iload_n 1, 1) := by decide +kernel
theorem dX7_send_96 : decode cX7_send 96 = .ok (.iload 5, 2) := by decide +kernel
theorem dX7_send_98 : decode cX7_send 98 = .ok (.iconst 1, 1) := by decide +kernel
theorem dX7_send_99 : decode cX7_send 99 = .ok (.invokevirtual 143, 3) := by decide +kernel
theorem dX7_send_102 : decode cX7_send 102 = .ok (.ifCond .eq 13, 3) := by decide +kernel
theorem dX7_send_105 : decode cX7_send 105 = .ok (.aload_n 0, 1) := by decide +kernel
theorem dX7_send_106 : decode cX7_send 106 = .ok (.iload_n 1, 1) := by decide +kernel
theorem dX7_send_107 : decode cX7_send 107 = .ok (.iload_n 3, 1) := by decide +kernel
theorem dX7_send_108 : decode cX7_send 108 = .ok (.iconst 1, 1) := by decide +kernel
theorem dX7_send_109 : decode cX7_send 109 = .ok (.invokevirtual 143, 3) := by decide +kernel
theorem dX7_send_112 : decode cX7_send 112 = .ok (.ifCond .ne 5, 3) := by decide +kernel
theorem dX7_send_115 : decode cX7_send 115 = .ok (.iconst (-1), 1) := by decide +kernel
theorem dX7_send_116 : decode cX7_send 116 = .ok (.ireturn, 1) := by decide +kernel
theorem dX7_send_117 : decode cX7_send 117 = .ok (.aload_n 0, 1) := by decide +kernel
theorem dX7_send_118 : decode cX7_send 118 = .ok (.iload_n 1, 1) := by decide +kernel
theorem dX7_send_119 : decode cX7_send 119 = .ok (.iload 4, 2) := by decide +kernel
theorem dX7_send_121 : decode cX7_send 121 = .ok (.aload_n 0, 1) := by decide +kernel
theorem dX7_send_122 : decode cX7_send 122 = .ok (.getfield 33, 3) := by decide +kernel
theorem dX7_send_125 : decode cX7_send 125 = .ok (.iload 5, 2) := by decide +kernel
theorem dX7_send_127 : decode cX7_send 127 = .ok (.laload, 1) := by decide +kernel
theorem dX7_send_128 : decode cX7_send 128 = .ok (.aload_n 0, 1) := by decide +kernel
theorem dX7_send_129 : decode cX7_send 129 = .ok (.getfield 33, 3) := by decide +kernel
theorem dX7_send_132 : decode cX7_send 132 = .ok (.iload_n 3, 1) := by decide +kernel
theorem dX7_send_133 : decode cX7_send 133 = .ok (.laload, 1) := by decide +kernel
theorem dX7_send_134 : decode cX7_send 134 = .ok (.invokevirtual 164, 3) := by decide +kernel
theorem dX7_send_137 : decode cX7_send 137 = .ok (.ireturn, 1) := by decide +kernel
theorem dX7_reckon_0 : decode cX7_reckon 0 = .ok (.iload_n 2, 1) := by decide +kernel
theorem dX7_reckon_1 : decode cX7_reckon 1 = .ok (.iconst 2, 1) := by decide +kernel
theorem dX7_reckon_2 : decode cX7_reckon 2 = .ok (.if_icmp .ne 12, 3) := by decide +kernel
theorem dX7_reckon_5 : decode cX7_reckon 5 = .ok (.aload_n 0, 1) := by decide +kernel
theorem dX7_reckon_6 : decode cX7_reckon 6 = .ok (.lload_n 3, 1) := by decide +kernel
theorem dX7_reckon_7 : decode cX7_reckon 7 = .ok (.lload 5, 2) := by decide +kernel
theorem dX7_reckon_9 : decode cX7_reckon 9 = .ok (.ladd, 1) := by decide +kernel
theorem dX7_reckon_10 : decode cX7_reckon 10 = .ok (.invokevirtual 123, 3) := by decide +kernel
theorem dX7_reckon_13 : decode cX7_reckon 13 = .ok (.ireturn, 1) := by decide +kernel
theorem dX7_reckon_14 : decode cX7_reckon 14 = .ok (.iload_n 2, 1) := by decide +kernel
theorem dX7_reckon_15 : decode cX7_reckon 15 = .ok (.iconst 3, 1) := by decide +kernel
theorem dX7_reckon_16 : decode cX7_reckon 16 = .ok (.if_icmp .ne 12, 3) := by decide +kernel
theorem dX7_reckon_19 : decode cX7_reckon 19 = .ok (.aload_n 0, 1) := by decide +kernel
theorem dX7_reckon_20 : decode cX7_reckon 20 = .ok (.lload_n 3, 1) := by decide +kernel
theorem dX7_reckon_21 : decode cX7_reckon 21 = .ok (.lload 5, 2) := by decide +kernel
theorem dX7_reckon_23 : decode cX7_reckon 23 = .ok (.lsub, 1) := by decide +kernel
theorem dX7_reckon_24 : decode cX7_reckon 24 = .ok (.invokevirtual 123, 3) := by decide +kernel
theorem dX7_reckon_27 : decode cX7_reckon 27 = .ok (.ireturn, 1) := by decide +kernel
theorem dX7_reckon_28 : decode cX7_reckon 28 = .ok (.iload_n 2, 1) := by decide +kernel
theorem dX7_reckon_29 : decode cX7_reckon 29 = .ok (.iconst 4, 1) := by decide +kernel
theorem dX7_reckon_30 : decode cX7_reckon 30 = .ok (.if_icmp .ne 12, 3) := by decide +kernel
theorem dX7_reckon_33 : decode cX7_reckon 33 = .ok (.aload_n 0, 1) := by decide +kernel
theorem dX7_reckon_34 : decode cX7_reckon 34 = .ok (.lload_n 3, 1) := by decide +kernel
theorem dX7_reckon_35 : decode cX7_reckon 35 = .ok (.lload 5, 2) := by decide +kernel
theorem dX7_reckon_37 : decode cX7_reckon 37 = .ok (.lmul, 1) := by decide +kernel
theorem dX7_reckon_38 : decode cX7_reckon 38 = .ok (.invokevirtual 123, 3) := by decide +kernel
theorem dX7_reckon_41 : decode cX7_reckon 41 = .ok (.ireturn, 1) := by decide +kernel
theorem dX7_reckon_42 : decode cX7_reckon 42 = .ok (.lload 5, 2) := by decide +kernel
theorem dX7_reckon_44 : decode cX7_reckon 44 = .ok (.lconst 0, 1) := by decide +kernel
theorem dX7_reckon_45 : decode cX7_reckon 45 = .ok (.lcmp, 1) := by decide +kernel
theorem dX7_reckon_46 : decode cX7_reckon 46 = .ok (.ifCond .ne 11, 3) := by decide +kernel
theorem dX7_reckon_49 : decode cX7_reckon 49 = .ok (.aload_n 0, 1) := by decide +kernel
theorem dX7_reckon_50 : decode cX7_reckon 50 = .ok (.bipush 6, 2) := by decide +kernel
theorem dX7_reckon_52 : decode cX7_reckon 52 = .ok (.iload_n 1, 1) := by decide +kernel
theorem dX7_reckon_53 : decode cX7_reckon 53 = .ok (.invokevirtual 88, 3) := by decide +kernel
theorem dX7_reckon_56 : decode cX7_reckon 56 = .ok (.ireturn, 1) := by decide +kernel
theorem dX7_reckon_57 : decode cX7_reckon 57 = .ok (.lload 5, 2) := by decide +kernel
theorem dX7_reckon_59 : decode cX7_reckon 59 = .ok (.ldc2_w 168, 3) := by decide +kernel
theorem dX7_reckon_62 : decode cX7_reckon 62 = .ok (.lcmp, 1) := by decide +kernel
theorem dX7_reckon_63 : decode cX7_reckon 63 = .ok (.ifCond .ne 19, 3) := by decide +kernel
theorem dX7_reckon_66 : decode cX7_reckon 66 = .ok (.aload_n 0, 1) := by decide +kernel
theorem dX7_reckon_67 : decode cX7_reckon 67 = .ok (.iload_n 2, 1) := by decide +kernel
theorem dX7_reckon_68 : decode cX7_reckon 68 = .ok (.iconst 5, 1) := by decide +kernel
theorem dX7_reckon_69 : decode cX7_reckon 69 = .ok (.if_icmp .ne 8, 3) := by decide +kernel
theorem dX7_reckon_72 : decode cX7_reckon 72 = .ok (.lload_n 3, 1) := by decide +kernel
theorem dX7_reckon_73 : decode cX7_reckon 73 = .ok (.lneg, 1) := by decide +kernel
theorem dX7_reckon_74 : decode cX7_reckon 74 = .ok (.goto 4, 3) := by decide +kernel
theorem dX7_reckon_77 : decode cX7_reckon 77 = .ok (.lconst 0, 1) := by decide +kernel
theorem dX7_reckon_78 : decode cX7_reckon 78 = .ok (.invokevirtual 123, 3) := by decide +kernel
theorem dX7_reckon_81 : decode cX7_reckon 81 = .ok (.ireturn, 1) := by decide +kernel
theorem dX7_reckon_82 : decode cX7_reckon 82 = .ok (.aload_n 0, 1) := by decide +kernel
theorem dX7_reckon_83 : decode cX7_reckon 83 = .ok (.iload_n 2, 1) := by decide +kernel
theorem dX7_reckon_84 : decode cX7_reckon 84 = .ok (.iconst 5, 1) := by decide +kernel
theorem dX7_reckon_85 : decode cX7_reckon 85 = .ok (.if_icmp .ne 10, 3) := by decide +kernel
theorem dX7_reckon_88 : decode cX7_reckon 88 = .ok (.lload_n 3, 1) := by decide +kernel
theorem dX7_reckon_89 : decode cX7_reckon 89 = .ok (.lload 5, 2) := by decide +kernel
theorem dX7_reckon_91 : decode cX7_reckon 91 = .ok (.ldiv, 1) := by decide +kernel
theorem dX7_reckon_92 : decode cX7_reckon 92 = .ok (.goto 7, 3) := by decide +kernel
theorem dX7_reckon_95 : decode cX7_reckon 95 = .ok (.lload_n 3, 1) := by decide +kernel
theorem dX7_reckon_96 : decode cX7_reckon 96 = .ok (.lload 5, 2) := by decide +kernel
theorem dX7_reckon_98 : decode cX7_reckon 98 = .ok (.lrem, 1) := by decide +kernel
theorem dX7_reckon_99 : decode cX7_reckon 99 = .ok (.invokevirtual 123, 3) := by decide +kernel
theorem dX7_reckon_102 : decode cX7_reckon 102 = .ok (.ireturn, 1) := by decide +kernel
theorem dX7_larger_0 : decode cX7_larger 0 = .ok (.aload_n 0, 1) := by decide +kernel
theorem dX7_larger_1 : decode cX7_larger 1 = .ok (.getfield 13, 3) := by decide +kernel
theorem dX7_larger_4 : decode cX7_larger 4 = .ok (.iload_n 1, 1) := by decide +kernel
theorem dX7_larger_5 : decode cX7_larger 5 = .ok (.iaload, 1) := by decide +kernel
theorem dX7_larger_6 : decode cX7_larger 6 = .ok (.tableswitch 207 11 17 #[42, 69, 69, 109, 207, 152, 172], 42) := by decide +kernel
theorem dX7_larger_48 : decode cX7_larger 48 = .ok (.aload_n 0, 1) := by decide +kernel
theorem dX7_larger_49 : decode cX7_larger 49 = .ok (.iload_n 1, 1) := by decide +kernel
theorem dX7_larger_50 : decode cX7_larger 50 = .ok (.iload_n 3, 1) := by decide +kernel
theorem dX7_larger_51 : decode cX7_larger 51 = .ok (.iconst 1, 1) := by decide +kernel
theorem dX7_larger_52 : decode cX7_larger 52 = .ok (.invokevirtual 143, 3) := by decide +kernel
theorem dX7_larger_55 : decode cX7_larger 55 = .ok (.ifCond .eq 18, 3) := by decide +kernel
theorem dX7_larger_58 : decode cX7_larger 58 = .ok (.aload_n 0, 1) := by decide +kernel
theorem dX7_larger_59 : decode cX7_larger 59 = .ok (.iload_n 1, 1) := by decide +kernel
theorem dX7_larger_60 : decode cX7_larger 60 = .ok (.aload_n 0, 1) := by decide +kernel
theorem dX7_larger_61 : decode cX7_larger 61 = .ok (.getfield 33, 3) := by decide +kernel
theorem dX7_larger_64 : decode cX7_larger 64 = .ok (.iload_n 3, 1) := by decide +kernel
theorem dX7_larger_65 : decode cX7_larger 65 = .ok (.laload, 1) := by decide +kernel
theorem dX7_larger_66 : decode cX7_larger 66 = .ok (.l2i, 1) := by decide +kernel
theorem dX7_larger_67 : decode cX7_larger 67 = .ok (.invokevirtual 170, 3) := by decide +kernel
theorem dX7_larger_70 : decode cX7_larger 70 = .ok (.goto 4, 3) := by decide +kernel
theorem dX7_larger_73 : decode cX7_larger 73 = .ok (.iconst (-1), 1) := by decide +kernel
theorem dX7_larger_74 : decode cX7_larger 74 = .ok (.ireturn, 1) := by decide +kernel
theorem dX7_larger_75 : decode cX7_larger 75 = .ok (.aload_n 0, 1) := by decide +kernel
theorem dX7_larger_76 : decode cX7_larger 76 = .ok (.iload_n 1, 1) := by decide +kernel
theorem dX7_larger_77 : decode cX7_larger 77 = .ok (.iload_n 2, 1) := by decide +kernel
theorem dX7_larger_78 : decode cX7_larger 78 = .ok (.iconst 5, 1) := by decide +kernel
theorem dX7_larger_79 : decode cX7_larger 79 = .ok (.invokevirtual 143, 3) := by decide +kernel
theorem dX7_larger_82 : decode cX7_larger 82 = .ok (.ifCond .eq 31, 3) := by decide +kernel
theorem dX7_larger_85 : decode cX7_larger 85 = .ok (.aload_n 0, 1) := by decide +kernel
theorem dX7_larger_86 : decode cX7_larger 86 = .ok (.iload_n 1, 1) := by decide +kernel
theorem dX7_larger_87 : decode cX7_larger 87 = .ok (.iload_n 3, 1) := by decide +kernel
theorem dX7_larger_88 : decode cX7_larger 88 = .ok (.iconst 1, 1) := by decide +kernel
theorem dX7_larger_89 : decode cX7_larger 89 = .ok (.invokevirtual 143, 3) := by decide +kernel
theorem dX7_larger_92 : decode cX7_larger 92 = .ok (.ifCond .eq 21, 3) := by decide +kernel
theorem dX7_larger_95 : decode cX7_larger 95 = .ok (.aload_n 0, 1) := by decide +kernel
theorem dX7_larger_96 : decode cX7_larger 96 = .ok (.iload_n 1, 1) := by decide +kernel
theorem dX7_larger_97 : decode cX7_larger 97 = .ok (.iload_n 2, 1) := by decide +kernel
theorem dX7_larger_98 : decode cX7_larger 98 = .ok (.aload_n 0, 1) := by decide +kernel
theorem dX7_larger_99 : decode cX7_larger 99 = .ok (.getfield 33, 3) := by decide +kernel
theorem dX7_larger_102 : decode cX7_larger 102 = .ok (.iload_n 3, 1) := by decide +kernel
theorem dX7_larger_103 : decode cX7_larger 103 = .ok (.laload, 1) := by decide +kernel
theorem dX7_larger_104 : decode cX7_larger 104 = .ok (.l2i, 1) := by decide +kernel
theorem dX7_larger_105 : decode cX7_larger 105 = .ok (.iload 4, 2) := by decide +kernel
theorem dX7_larger_107 : decode cX7_larger 107 = .ok (.invokevirtual 173, 3) := by decide +kernel
theorem dX7_larger_110 : decode cX7_larger 110 = .ok (.goto 4, 3) := by decide +kernel
theorem dX7_larger_113 : decode cX7_larger 113 = .ok (.iconst (-1), 1) := by decide +kernel
theorem dX7_larger_114 : decode cX7_larger 114 = .ok (.ireturn, 1) := by decide +kernel
theorem dX7_larger_115 : decode cX7_larger 115 = .ok (.aload_n 0, 1) := by decide +kernel
theorem dX7_larger_116 : decode cX7_larger 116 = .ok (.iload_n 1, 1) := by decide +kernel
theorem dX7_larger_117 : decode cX7_larger 117 = .ok (.iload_n 2, 1) := by decide +kernel
theorem dX7_larger_118 : decode cX7_larger 118 = .ok (.iconst 5, 1) := by decide +kernel
theorem dX7_larger_119 : decode cX7_larger 119 = .ok (.invokevirtual 143, 3) := by decide +kernel
theorem dX7_larger_122 : decode cX7_larger 122 = .ok (.ifCond .ne 5, 3) := by decide +kernel
theorem dX7_larger_125 : decode cX7_larger 125 = .ok (.iconst (-1), 1) := by decide +kernel
theorem dX7_larger_126 : decode cX7_larger 126 = .ok (.ireturn, 1) := by decide +kernel
theorem dX7_larger_127 : decode cX7_larger 127 = .ok (.aload_n 0, 1) := by decide +kernel
theorem dX7_larger_128 : decode cX7_larger 128 = .ok (.getfield 27, 3) := by decide +kernel
theorem dX7_larger_131 : decode cX7_larger 131 = .ok (.iload_n 2, 1) := by decide +kernel
theorem dX7_larger_132 : decode cX7_larger 132 = .ok (.iaload, 1) := by decide +kernel
theorem dX7_larger_133 : decode cX7_larger 133 = .ok (.iconst (-1), 1) := by decide +kernel
theorem dX7_larger_134 : decode cX7_larger 134 = .ok (.if_icmp .ne 12, 3) := by decide +kernel
theorem dX7_larger_137 : decode cX7_larger 137 = .ok (.aload_n 0, 1) := by decide +kernel
theorem dX7_larger_138 : decode cX7_larger 138 = .ok (.iconst 1, 1) := by decide +kernel
theorem dX7_larger_139 : decode cX7_larger 139 = .ok (.iload_n 1, 1) := by decide +kernel
theorem dX7_larger_140 : decode cX7_larger 140 = .ok (.invokevirtual 88, 3) := by decide +kernel
theorem dX7_larger_143 : decode cX7_larger 143 = .ok (.goto 14, 3) := by decide +kernel
theorem dX7_larger_146 : decode cX7_larger 146 = .ok (.aload_n 0, 1) := by decide +kernel
theorem dX7_larger_147 : decode cX7_larger 147 = .ok (.aload_n 0, 1) := by decide +kernel
theorem dX7_larger_148 : decode cX7_larger 148 = .ok (.getfield 27, 3) := by decide +kernel
theorem dX7_larger_151 : decode cX7_larger 151 = .ok (.iload_n 2, 1) := by decide +kernel
theorem dX7_larger_152 : decode cX7_larger 152 = .ok (.iaload, 1) := by decide +kernel
theorem dX7_larger_153 : decode cX7_larger 153 = .ok (.i2l, 1) := by decide +kernel
theorem dX7_larger_154 : decode cX7_larger 154 = .ok (.invokevirtual 123, 3) := by decide +kernel
theorem dX7_larger_157 : decode cX7_larger 157 = .ok (.ireturn, 1) := by decide +kernel
theorem dX7_larger_158 : decode cX7_larger 158 = .ok (.aload_n 0, 1) := by decide +kernel
theorem dX7_larger_159 : decode cX7_larger 159 = .ok (.aload_n 0, 1) := by decide +kernel
theorem dX7_larger_160 : decode cX7_larger 160 = .ok (.getfield 42, 3) := by decide +kernel
theorem dX7_larger_163 : decode cX7_larger 163 = .ok (.iconst (-1), 1) := by decide +kernel
theorem dX7_larger_164 : decode cX7_larger 164 = .ok (.if_icmp .ne 7, 3) := by decide +kernel
theorem dX7_larger_167 : decode cX7_larger 167 = .ok (.iconst 1, 1) := by decide +kernel
theorem dX7_larger_168 : decode cX7_larger 168 = .ok (.goto 5, 3) := by decide +kernel
theorem dX7_larger_171 : decode cX7_larger 171 = .ok (.bipush 7, 2) := by decide +kernel
theorem dX7_larger_173 : decode cX7_larger 173 = .ok (.iload_n 1, 1) := by decide +kernel
theorem dX7_larger_174 : decode cX7_larger 174 = .ok (.invokevirtual 88, 3) := by decide +kernel
theorem dX7_larger_177 : decode cX7_larger 177 = .ok (.ireturn, 1) := by decide +kernel
theorem dX7_larger_178 : decode cX7_larger 178 = .ok (.aload_n 0, 1) := by decide +kernel
theorem dX7_larger_179 : decode cX7_larger 179 = .ok (.iload_n 1, 1) := by decide +kernel
theorem dX7_larger_180 : decode cX7_larger 180 = .ok (.iload_n 2, 1) := by decide +kernel
theorem dX7_larger_181 : decode cX7_larger 181 = .ok (.iconst 1, 1) := by decide +kernel
theorem dX7_larger_182 : decode cX7_larger 182 = .ok (.invokevirtual 143, 3) := by decide +kernel
theorem dX7_larger_185 : decode cX7_larger 185 = .ok (.ifCond .ne 5, 3) := by decide +kernel
theorem dX7_larger_188 : decode cX7_larger 188 = .ok (.iconst (-1), 1) := by decide +kernel
theorem dX7_larger_189 : decode cX7_larger 189 = .ok (.ireturn, 1) := by decide +kernel
theorem dX7_larger_190 : decode cX7_larger 190 = .ok (.aload_n 0, 1) := by decide +kernel
theorem dX7_larger_191 : decode cX7_larger 191 = .ok (.aload_n 0, 1) := by decide +kernel
theorem dX7_larger_192 : decode cX7_larger 192 = .ok (.bipush 6, 2) := by decide +kernel
theorem dX7_larger_194 : decode cX7_larger 194 = .ok (.aload_n 0, 1) := by decide +kernel
theorem dX7_larger_195 : decode cX7_larger 195 = .ok (.getfield 33, 3) := by decide +kernel
theorem dX7_larger_198 : decode cX7_larger 198 = .ok (.iload_n 2, 1) := by decide +kernel
theorem dX7_larger_199 : decode cX7_larger 199 = .ok (.laload, 1) := by decide +kernel
theorem dX7_larger_200 : decode cX7_larger 200 = .ok (.iconst (-1), 1) := by decide +kernel
theorem dX7_larger_201 : decode cX7_larger 201 = .ok (.iconst (-1), 1) := by decide +kernel
theorem dX7_larger_202 : decode cX7_larger 202 = .ok (.invokevirtual 78, 3) := by decide +kernel
theorem dX7_larger_205 : decode cX7_larger 205 = .ok (.putfield 42, 3) := by decide +kernel
theorem dX7_larger_208 : decode cX7_larger 208 = .ok (.aload_n 0, 1) := by decide +kernel
theorem dX7_larger_209 : decode cX7_larger 209 = .ok (.getfield 42, 3) := by decide +kernel
theorem dX7_larger_212 : decode cX7_larger 212 = .ok (.ireturn, 1) := by decide +kernel
theorem dX7_larger_213 : decode cX7_larger 213 = .ok (.iload_n 3, 1) := by decide +kernel
theorem dX7_larger_214 : decode cX7_larger 214 = .ok (.ireturn, 1) := by decide +kernel
theorem dX7_newRow_0 : decode cX7_newRow 0 = .ok (.aload_n 0, 1) := by decide +kernel
theorem dX7_newRow_1 : decode cX7_newRow 1 = .ok (.iload_n 1, 1) := by decide +kernel
theorem dX7_newRow_2 : decode cX7_newRow 2 = .ok (.iconst 0, 1) := by decide +kernel
theorem dX7_newRow_3 : decode cX7_newRow 3 = .ok (.invokevirtual 101, 3) := by decide +kernel
theorem dX7_newRow_6 : decode cX7_newRow 6 = .ok (.istore_n 3, 1) := by decide +kernel
theorem dX7_newRow_7 : decode cX7_newRow 7 = .ok (.iload_n 3, 1) := by decide +kernel
theorem dX7_newRow_8 : decode cX7_newRow 8 = .ok (.ifCond .lt 8, 3) := by decide +kernel
theorem dX7_newRow_11 : decode cX7_newRow 11 = .ok (.iload_n 3, 1) := by decide +kernel
theorem dX7_newRow_12 : decode cX7_newRow 12 = .ok (.iconst 2, 1) := by decide +kernel
theorem dX7_newRow_13 : decode cX7_newRow 13 = .ok (.if_icmp .le 12, 3) := by decide +kernel
theorem dX7_newRow_16 : decode cX7_newRow 16 = .ok (.aload_n 0, 1) := by decide +kernel
theorem dX7_newRow_17 : decode cX7_newRow 17 = .ok (.iconst 5, 1) := by decide +kernel
theorem dX7_newRow_18 : decode cX7_newRow 18 = .ok (.lconst 0, 1) := by decide +kernel
theorem dX7_newRow_19 : decode cX7_newRow 19 = .ok (.iconst (-1), 1) := by decide +kernel
theorem dX7_newRow_20 : decode cX7_newRow 20 = .ok (.iconst (-1), 1) := by decide +kernel
theorem dX7_newRow_21 : decode cX7_newRow 21 = .ok (.invokevirtual 78, 3) := by decide +kernel
theorem dX7_newRow_24 : decode cX7_newRow 24 = .ok (.ireturn, 1) := by decide +kernel
theorem dX7_newRow_25 : decode cX7_newRow 25 = .ok (.iload_n 2, 1) := by decide +kernel
theorem dX7_newRow_26 : decode cX7_newRow 26 = .ok (.ifCond .ge 10, 3) := by decide +kernel
theorem dX7_newRow_29 : decode cX7_newRow 29 = .ok (.aload_n 0, 1) := by decide +kernel
theorem dX7_newRow_30 : decode cX7_newRow 30 = .ok (.iconst 5, 1) := by decide +kernel
theorem dX7_newRow_31 : decode cX7_newRow 31 = .ok (.iload_n 1, 1) := by decide +kernel
theorem dX7_newRow_32 : decode cX7_newRow 32 = .ok (.invokevirtual 88, 3) := by decide +kernel
theorem dX7_newRow_35 : decode cX7_newRow 35 = .ok (.ireturn, 1) := by decide +kernel
theorem dX7_newRow_36 : decode cX7_newRow 36 = .ok (.iload_n 2, 1) := by decide +kernel
