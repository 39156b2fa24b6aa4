theorem dX1_failAt_2 : decode cX1_failAt 2 = .ok (.putfield 43, 3) := by decide +kernel
theorem dX1_failAt_5 : decode cX1_failAt 5 = .ok (.aload_n 0, 1) := by decide +kernel
theorem dX1_failAt_6 : decode cX1_failAt 6 = .ok (.iload_n 2, 1) := by decide +kernel
theorem dX1_failAt_7 : decode cX1_failAt 7 = .ok (.putfield 95, 3) := by decide +kernel
theorem dX1_failAt_10 : decode cX1_failAt 10 = .ok (.aconst_null, 1) := by decide +kernel
theorem dX1_failAt_11 : decode cX1_failAt 11 = .ok (.areturn, 1) := by decide +kernel
theorem dX1_lacks_0 : decode cX1_lacks 0 = .ok (.aload_n 2, 1) := by decide +kernel
theorem dX1_lacks_1 : decode cX1_lacks 1 = .ok (.ifnonnull 18, 3) := by decide +kernel
theorem dX1_lacks_4 : decode cX1_lacks 4 = .ok (.aload_n 0, 1) := by decide +kernel
theorem dX1_lacks_5 : decode cX1_lacks 5 = .ok (.aload_n 1, 1) := by decide +kernel
theorem dX1_lacks_6 : decode cX1_lacks 6 = .ok (.getfield 139, 3) := by decide +kernel
theorem dX1_lacks_9 : decode cX1_lacks 9 = .ok (.getfield 120, 3) := by decide +kernel
theorem dX1_lacks_12 : decode cX1_lacks 12 = .ok (.iconst 1, 1) := by decide +kernel
theorem dX1_lacks_13 : decode cX1_lacks 13 = .ok (.invokevirtual 85, 3) := by decide +kernel
theorem dX1_lacks_16 : decode cX1_lacks 16 = .ok (.pop, 1) := by decide +kernel
theorem dX1_lacks_17 : decode cX1_lacks 17 = .ok (.iconst 1, 1) := by decide +kernel
theorem dX1_lacks_18 : decode cX1_lacks 18 = .ok (.ireturn, 1) := by decide +kernel
theorem dX1_lacks_19 : decode cX1_lacks 19 = .ok (.aload_n 2, 1) := by decide +kernel
theorem dX1_lacks_20 : decode cX1_lacks 20 = .ok (.iload_n 3, 1) := by decide +kernel
theorem dX1_lacks_21 : decode cX1_lacks 21 = .ok (.invokevirtual 188, 3) := by decide +kernel
theorem dX1_lacks_24 : decode cX1_lacks 24 = .ok (.ifCond .ne 18, 3) := by decide +kernel
theorem dX1_lacks_27 : decode cX1_lacks 27 = .ok (.aload_n 0, 1) := by decide +kernel
theorem dX1_lacks_28 : decode cX1_lacks 28 = .ok (.aload_n 1, 1) := by decide +kernel
theorem dX1_lacks_29 : decode cX1_lacks 29 = .ok (.getfield 139, 3) := by decide +kernel
theorem dX1_lacks_32 : decode cX1_lacks 32 = .ok (.getfield 120, 3) := by decide +kernel
theorem dX1_lacks_35 : decode cX1_lacks 35 = .ok (.iconst 3, 1) := by decide +kernel
theorem dX1_lacks_36 : decode cX1_lacks 36 = .ok (.invokevirtual 85, 3) := by decide +kernel
theorem dX1_lacks_39 : decode cX1_lacks 39 = .ok (.pop, 1) := by decide +kernel
theorem dX1_lacks_40 : decode cX1_lacks 40 = .ok (.iconst 1, 1) := by decide +kernel
theorem dX1_lacks_41 : decode cX1_lacks 41 = .ok (.ireturn, 1) := by decide +kernel
theorem dX1_lacks_42 : decode cX1_lacks 42 = .ok (.iconst 0, 1) := by decide +kernel
theorem dX1_lacks_43 : decode cX1_lacks 43 = .ok (.ireturn, 1) := by decide +kernel
theorem dX1_finish_0 : decode cX1_finish 0 = .ok (.aload_n 1, 1) := by decide +kernel
theorem dX1_finish_1 : decode cX1_finish 1 = .ok (.getfield 139, 3) := by decide +kernel
theorem dX1_finish_4 : decode cX1_finish 4 = .ok (.getfield 151, 3) := by decide +kernel
theorem dX1_finish_7 : decode cX1_finish 7 = .ok (.tableswitch 234 0 17 #[85, 101, 101, 107, 124, 141, 155, 161, 167, 167, 173, 179, 185, 191, 197, 234, 203, 228], 85) := by decide +kernel
theorem dX1_finish_92 : decode cX1_finish 92 = .ok (.aload_n 0, 1) := by decide +kernel
theorem dX1_finish_93 : decode cX1_finish 93 = .ok (.getfield 21, 3) := by decide +kernel
theorem dX1_finish_96 : decode cX1_finish 96 = .ok (.iconst 1, 1) := by decide +kernel
theorem dX1_finish_97 : decode cX1_finish 97 = .ok (.aload_n 1, 1) := by decide +kernel
theorem dX1_finish_98 : decode cX1_finish 98 = .ok (.getfield 139, 3) := by decide +kernel
theorem dX1_finish_101 : decode cX1_finish 101 = .ok (.getfield 191, 3) := by decide +kernel
theorem dX1_finish_104 : decode cX1_finish 104 = .ok (.invokevirtual 184, 3) := by decide +kernel
theorem dX1_finish_107 : decode cX1_finish 107 = .ok (.areturn, 1) := by decide +kernel
theorem dX1_finish_108 : decode cX1_finish 108 = .ok (.aload_n 0, 1) := by decide +kernel
theorem dX1_finish_109 : decode cX1_finish 109 = .ok (.aload_n 1, 1) := by decide +kernel
theorem dX1_finish_110 : decode cX1_finish 110 = .ok (.invokevirtual 194, 3) := by decide +kernel
theorem dX1_finish_113 : decode cX1_finish 113 = .ok (.areturn, 1) := by decide +kernel
theorem dX1_finish_114 : decode cX1_finish 114 = .ok (.aload_n 0, 1) := by decide +kernel
theorem dX1_finish_115 : decode cX1_finish 115 = .ok (.getfield 21, 3) := by decide +kernel
theorem dX1_finish_118 : decode cX1_finish 118 = .ok (.iconst 2, 1) := by decide +kernel
theorem dX1_finish_119 : decode cX1_finish 119 = .ok (.aload_n 1, 1) := by decide +kernel
theorem dX1_finish_120 : decode cX1_finish 120 = .ok (.getfield 166, 3) := by decide +kernel
theorem dX1_finish_123 : decode cX1_finish 123 = .ok (.aload_n 1, 1) := by decide +kernel
theorem dX1_finish_124 : decode cX1_finish 124 = .ok (.getfield 197, 3) := by decide +kernel
theorem dX1_finish_127 : decode cX1_finish 127 = .ok (.invokevirtual 200, 3) := by decide +kernel
theorem dX1_finish_130 : decode cX1_finish 130 = .ok (.areturn, 1) := by decide +kernel
theorem dX1_finish_131 : decode cX1_finish 131 = .ok (.aload_n 0, 1) := by decide +kernel
theorem dX1_finish_132 : decode cX1_finish 132 = .ok (.getfield 21, 3) := by decide +kernel
theorem dX1_finish_135 : decode cX1_finish 135 = .ok (.iconst 3, 1) := by decide +kernel
theorem dX1_finish_136 : decode cX1_finish 136 = .ok (.aload_n 1, 1) := by decide +kernel
theorem dX1_finish_137 : decode cX1_finish 137 = .ok (.getfield 166, 3) := by decide +kernel
theorem dX1_finish_140 : decode cX1_finish 140 = .ok (.aload_n 1, 1) := by decide +kernel
theorem dX1_finish_141 : decode cX1_finish 141 = .ok (.getfield 197, 3) := by decide +kernel
theorem dX1_finish_144 : decode cX1_finish 144 = .ok (.invokevirtual 200, 3) := by decide +kernel
theorem dX1_finish_147 : decode cX1_finish 147 = .ok (.areturn, 1) := by decide +kernel
theorem dX1_finish_148 : decode cX1_finish 148 = .ok (.aload_n 0, 1) := by decide +kernel
theorem dX1_finish_149 : decode cX1_finish 149 = .ok (.getfield 21, 3) := by decide +kernel
theorem dX1_finish_152 : decode cX1_finish 152 = .ok (.iconst 4, 1) := by decide +kernel
theorem dX1_finish_153 : decode cX1_finish 153 = .ok (.aload_n 1, 1) := by decide +kernel
theorem dX1_finish_154 : decode cX1_finish 154 = .ok (.getfield 166, 3) := by decide +kernel
theorem dX1_finish_157 : decode cX1_finish 157 = .ok (.aconst_null, 1) := by decide +kernel
theorem dX1_finish_158 : decode cX1_finish 158 = .ok (.invokevirtual 200, 3) := by decide +kernel
theorem dX1_finish_161 : decode cX1_finish 161 = .ok (.areturn, 1) := by decide +kernel
theorem dX1_finish_162 : decode cX1_finish 162 = .ok (.aload_n 0, 1) := by decide +kernel
theorem dX1_finish_163 : decode cX1_finish 163 = .ok (.aload_n 1, 1) := by decide +kernel
theorem dX1_finish_164 : decode cX1_finish 164 = .ok (.invokevirtual 204, 3) := by decide +kernel
theorem dX1_finish_167 : decode cX1_finish 167 = .ok (.areturn, 1) := by decide +kernel
theorem dX1_finish_168 : decode cX1_finish 168 = .ok (.aload_n 0, 1) := by decide +kernel
theorem dX1_finish_169 : decode cX1_finish 169 = .ok (.aload_n 1, 1) := by decide +kernel
theorem dX1_finish_170 : decode cX1_finish 170 = .ok (.invokevirtual 207, 3) := by decide +kernel
theorem dX1_finish_173 : decode cX1_finish 173 = .ok (.areturn, 1) := by decide +kernel
theorem dX1_finish_174 : decode cX1_finish 174 = .ok (.aload_n 0, 1) := by decide +kernel
theorem dX1_finish_175 : decode cX1_finish 175 = .ok (.aload_n 1, 1) := by decide +kernel
theorem dX1_finish_176 : decode cX1_finish 176 = .ok (.invokevirtual 210, 3) := by decide +kernel
theorem dX1_finish_179 : decode cX1_finish 179 = .ok (.areturn, 1) := by decide +kernel
theorem dX1_finish_180 : decode cX1_finish 180 = .ok (.aload_n 0, 1) := by decide +kernel
theorem dX1_finish_181 : decode cX1_finish 181 = .ok (.aload_n 1, 1) := by decide +kernel
theorem dX1_finish_182 : decode cX1_finish 182 = .ok (.invokevirtual 213, 3) := by decide +kernel
theorem dX1_finish_185 : decode cX1_finish 185 = .ok (.areturn, 1) := by decide +kernel
theorem dX1_finish_186 : decode cX1_finish 186 = .ok (.aload_n 0, 1) := by decide +kernel
theorem dX1_finish_187 : decode cX1_finish 187 = .ok (.aload_n 1, 1) := by decide +kernel
theorem dX1_finish_188 : decode cX1_finish 188 = .ok (.invokevirtual 216, 3) := by decide +kernel
theorem dX1_finish_191 : decode cX1_finish 191 = .ok (.areturn, 1) := by decide +kernel
theorem dX1_finish_192 : decode cX1_finish 192 = .ok (.aload_n 0, 1) := by decide +kernel
theorem dX1_finish_193 : decode cX1_finish 193 = .ok (.aload_n 1, 1) := by decide +kernel
theorem dX1_finish_194 : decode cX1_finish 194 = .ok (.invokevirtual 219, 3) := by decide +kernel
theorem dX1_finish_197 : decode cX1_finish 197 = .ok (.areturn, 1) := by decide +kernel
theorem dX1_finish_198 : decode cX1_finish 198 = .ok (.aload_n 0, 1) := by decide +kernel
theorem dX1_finish_199 : decode cX1_finish 199 = .ok (.aload_n 1, 1) := by decide +kernel
theorem dX1_finish_200 : decode cX1_finish 200 = .ok (.invokevirtual 222, 3) := by decide +kernel
theorem dX1_finish_203 : decode cX1_finish 203 = .ok (.areturn, 1) := by decide +kernel
theorem dX1_finish_204 : decode cX1_finish 204 = .ok (.aload_n 0, 1) := by decide +kernel
theorem dX1_finish_205 : decode cX1_finish 205 = .ok (.aload_n 1, 1) := by decide +kernel
theorem dX1_finish_206 : decode cX1_finish 206 = .ok (.invokevirtual 224, 3) := by decide +kernel
theorem dX1_finish_209 : decode cX1_finish 209 = .ok (.areturn, 1) := by decide +kernel
theorem dX1_finish_210 : decode cX1_finish 210 = .ok (.aload_n 0, 1) := by decide +kernel
theorem dX1_finish_211 : decode cX1_finish 211 = .ok (.aload_n 1, 1) := by decide +kernel
theorem dX1_finish_212 : decode cX1_finish 212 = .ok (.getfield 139, 3) := by decide +kernel
theorem dX1_finish_215 : decode cX1_finish 215 = .ok (.getfield 120, 3) := by decide +kernel
theorem dX1_finish_218 : decode cX1_finish 218 = .ok (.aload_n 0, 1) := by decide +kernel
theorem dX1_finish_219 : decode cX1_finish 219 = .ok (.getfield 55, 3) := by decide +kernel
theorem dX1_finish_222 : decode cX1_finish 222 = .ok (.ifnonnull 7, 3) := by decide +kernel
theorem dX1_finish_225 : decode cX1_finish 225 = .ok (.iconst 1, 1) := by decide +kernel
theorem dX1_finish_226 : decode cX1_finish 226 = .ok (.goto 5, 3) := by decide +kernel
theorem dX1_finish_229 : decode cX1_finish 229 = .ok (.bipush 7, 2) := by decide +kernel
theorem dX1_finish_231 : decode cX1_finish 231 = .ok (.invokevirtual 85, 3) := by decide +kernel
theorem dX1_finish_234 : decode cX1_finish 234 = .ok (.areturn, 1) := by decide +kernel
theorem dX1_finish_235 : decode cX1_finish 235 = .ok (.aload_n 0, 1) := by decide +kernel
theorem dX1_finish_236 : decode cX1_finish 236 = .ok (.aload_n 1, 1) := by decide +kernel
theorem dX1_finish_237 : decode cX1_finish 237 = .ok (.invokevirtual 227, 3) := by decide +kernel
theorem dX1_finish_240 : decode cX1_finish 240 = .ok (.areturn, 1) := by decide +kernel
theorem dX1_finish_241 : decode cX1_finish 241 = .ok (.aload_n 1, 1) := by decide +kernel
theorem dX1_finish_242 : decode cX1_finish 242 = .ok (.getfield 117, 3) := by decide +kernel
theorem dX1_finish_245 : decode cX1_finish 245 = .ok (.areturn, 1) := by decide +kernel
theorem dX1_isSlot_0 : decode cX1_isSlot 0 = .ok (.iload_n 1, 1) := by decide +kernel
theorem dX1_isSlot_1 : decode cX1_isSlot 1 = .ok (.ifCond .lt 14, 3) := by decide +kernel
theorem dX1_isSlot_4 : decode cX1_isSlot 4 = .ok (.iload_n 1, 1) := by decide +kernel
theorem dX1_isSlot_5 : decode cX1_isSlot 5 = .ok (.sipush 256, 3) := by decide +kernel
theorem dX1_isSlot_8 : decode cX1_isSlot 8 = .ok (.if_icmp .ge 7, 3) := by decide +kernel
theorem dX1_isSlot_11 : decode cX1_isSlot 11 = .ok (.iconst 1, 1) := by decide +kernel
theorem dX1_isSlot_12 : decode cX1_isSlot 12 = .ok (.goto 4, 3) := by decide +kernel
theorem dX1_isSlot_15 : decode cX1_isSlot 15 = .ok (.iconst 0, 1) := by decide +kernel
theorem dX1_isSlot_16 : decode cX1_isSlot 16 = .ok (.ireturn, 1) := by decide +kernel
theorem dX1_useSlot_0 : decode cX1_useSlot 0 = .ok (.aload_n 1, 1) := by decide +kernel
theorem dX1_useSlot_1 : decode cX1_useSlot 1 = .ok (.getfield 139, 3) := by decide +kernel
theorem dX1_useSlot_4 : decode cX1_useSlot 4 = .ok (.iconst 0, 1) := by decide +kernel
theorem dX1_useSlot_5 : decode cX1_useSlot 5 = .ok (.invokevirtual 143, 3) := by decide +kernel
theorem dX1_useSlot_8 : decode cX1_useSlot 8 = .ok (.istore_n 2, 1) := by decide +kernel
theorem dX1_useSlot_9 : decode cX1_useSlot 9 = .ok (.aload_n 0, 1) := by decide +kernel
theorem dX1_useSlot_10 : decode cX1_useSlot 10 = .ok (.iload_n 2, 1) := by decide +kernel
theorem dX1_useSlot_11 : decode cX1_useSlot 11 = .ok (.invokevirtual 47, 3) := by decide +kernel
theorem dX1_useSlot_14 : decode cX1_useSlot 14 = .ok (.ifCond .ne 16, 3) := by decide +kernel
theorem dX1_useSlot_17 : decode cX1_useSlot 17 = .ok (.aload_n 0, 1) := by decide +kernel
theorem dX1_useSlot_18 : decode cX1_useSlot 18 = .ok (.aload_n 1, 1) := by decide +kernel
theorem dX1_useSlot_19 : decode cX1_useSlot 19 = .ok (.getfield 139, 3) := by decide +kernel
theorem dX1_useSlot_22 : decode cX1_useSlot 22 = .ok (.getfield 120, 3) := by decide +kernel
theorem dX1_useSlot_25 : decode cX1_useSlot 25 = .ok (.iconst 2, 1) := by decide +kernel
theorem dX1_useSlot_26 : decode cX1_useSlot 26 = .ok (.invokevirtual 85, 3) := by decide +kernel
theorem dX1_useSlot_29 : decode cX1_useSlot 29 = .ok (.areturn, 1) := by decide +kernel
theorem dX1_useSlot_30 : decode cX1_useSlot 30 = .ok (.aload_n 1, 1) := by decide +kernel
theorem dX1_useSlot_31 : decode cX1_useSlot 31 = .ok (.getfield 139, 3) := by decide +kernel
theorem dX1_useSlot_34 : decode cX1_useSlot 34 = .ok (.getfield 151, 3) := by decide +kernel
theorem dX1_useSlot_37 : decode cX1_useSlot 37 = .ok (.iconst 2, 1) := by decide +kernel
theorem dX1_useSlot_38 : decode cX1_useSlot 38 = .ok (.if_icmp .ne 13, 3) := by decide +kernel
theorem dX1_useSlot_41 : decode cX1_useSlot 41 = .ok (.aload_n 0, 1) := by decide +kernel
theorem dX1_useSlot_42 : decode cX1_useSlot 42 = .ok (.getfield 27, 3) := by decide +kernel
theorem dX1_useSlot_45 : decode cX1_useSlot 45 = .ok (.iload_n 2, 1) := by decide +kernel
theorem dX1_useSlot_46 : decode cX1_useSlot 46 = .ok (.aload_n 1, 1) := by decide +kernel
theorem dX1_useSlot_47 : decode cX1_useSlot 47 = .ok (.getfield 197, 3) := by decide +kernel
theorem dX1_useSlot_50 : decode cX1_useSlot 50 = .ok (.aastore, 1) := by decide +kernel
theorem dX1_useSlot_51 : decode cX1_useSlot 51 = .ok (.aload_n 0, 1) := by decide +kernel
theorem dX1_useSlot_52 : decode cX1_useSlot 52 = .ok (.getfield 27, 3) := by decide +kernel
theorem dX1_useSlot_55 : decode cX1_useSlot 55 = .ok (.iload_n 2, 1) := by decide +kernel
theorem dX1_useSlot_56 : decode cX1_useSlot 56 = .ok (.aaload, 1) := by decide +kernel
theorem dX1_useSlot_57 : decode cX1_useSlot 57 = .ok (.areturn, 1) := by decide +kernel
theorem dX1_field_0 : decode cX1_field 0 = .ok (.aload_n 0, 1) := by decide +kernel
theorem dX1_field_1 : decode cX1_field 1 = .ok (.aload_n 1, 1) := by decide +kernel
theorem dX1_field_2 : decode cX1_field 2 = .ok (.aload_n 1, 1) := by decide +kernel
theorem dX1_field_3 : decode cX1_field 3 = .ok (.getfield 166, 3) := by decide +kernel
theorem dX1_field_6 : decode cX1_field 6 = .ok (.iconst 2, 1) := by decide +kernel
theorem dX1_field_7 : decode cX1_field 7 = .ok (.invokevirtual 169, 3) := by decide +kernel
theorem dX1_field_10 : decode cX1_field 10 = .ok (.ifCond .eq 5, 3) := by decide +kernel
theorem dX1_field_13 : decode cX1_field 13 = .ok (.aconst_null, 1) := by decide +kernel
theorem dX1_field_14 : decode cX1_field 14 = .ok (.areturn, 1) := by decide +kernel
theorem dX1_field_15 : decode cX1_field 15 = .ok (.aload_n 1, 1) := by decide +kernel
theorem dX1_field_16 : decode cX1_field 16 = .ok (.getfield 139, 3) := by decide +kernel
theorem dX1_field_19 : decode cX1_field 19 = .ok (.iconst 1, 1) := by decide +kernel
theorem dX1_field_20 : decode cX1_field 20 = .ok (.invokevirtual 143, 3) := by decide +kernel
theorem dX1_field_23 : decode cX1_field 23 = .ok (.ifCond .ne 13, 3) := by decide +kernel
theorem dX1_field_26 : decode cX1_field 26 = .ok (.aload_n 1, 1) := by decide +kernel
theorem dX1_field_27 : decode cX1_field 27 = .ok (.getfield 166, 3) := by decide +kernel
theorem dX1_field_30 : decode cX1_field 30 = .ok (.getfield 230, 3) := by decide +kernel
theorem dX1_field_33 : decode cX1_field 33 = .ok (.goto 10, 3) := by decide +kernel
theorem dX1_field_36 : decode cX1_field 36 = .ok (.aload_n 1, 1) := by decide +kernel
theorem dX1_field_37 : decode cX1_field 37 = .ok (.getfield 166, 3) := by decide +kernel
theorem dX1_field_40 : decode cX1_field 40 = .ok (.getfield 233, 3) := by decide +kernel
theorem dX1_field_43 : decode cX1_field 43 = .ok (.areturn, 1) := by decide +kernel
theorem dX1_store_0 : decode cX1_store 0 = .ok (.aload_n 0, 1) := by decide +kernel
theorem dX1_store_1 : decode cX1_store 1 = .ok (.aload_n 1, 1) := by decide +kernel
theorem dX1_store_2 : decode cX1_store 2 = .ok (.aload_n 1, 1) := by decide +kernel
theorem dX1_store_3 : decode cX1_store 3 = .ok (.getfield 166, 3) := by decide +kernel
theorem dX1_store_6 : decode cX1_store 6 = .ok (.iconst 2, 1) := by decide +kernel
theorem dX1_store_7 : decode cX1_store 7 = .ok (.invokevirtual 169, 3) := by decide +kernel
theorem dX1_store_10 : decode cX1_store 10 = .ok (.ifCond .eq 5, 3) := by decide +kernel
theorem dX1_store_13 : decode cX1_store 13 = .ok (.aconst_null, 1) := by decide +kernel
theorem dX1_store_14 : decode cX1_store 14 = .ok (.areturn, 1) := by decide +kernel
theorem dX1_store_15 : decode cX1_store 15 = .ok (.aload_n 1, 1) := by decide +kernel
theorem dX1_store_16 : decode cX1_store 16 = .ok (.getfield 139, 3) := by decide +kernel
theorem dX1_store_19 : decode cX1_store 19 = .ok (.iconst 1, 1) := by decide +kernel
theorem dX1_store_20 : decode cX1_store 20 = .ok (.invokevirtual 143, 3) := by decide +kernel
theorem dX1_store_23 : decode cX1_store 23 = .ok (.ifCond .ne 17, 3) := by decide +kernel
theorem dX1_store_26 : decode cX1_store 26 = .ok (.aload_n 1, 1) := by decide +kernel
theorem dX1_store_27 : decode cX1_store 27 = .ok (.getfield 166, 3) := by decide +kernel
theorem dX1_store_30 : decode cX1_store 30 = .ok (.aload_n 1, 1) := by decide +kernel
theorem dX1_store_31 : decode cX1_store 31 = .ok (.getfield 236, 3) := by decide +kernel
theorem dX1_store_34 : decode cX1_store 34 = .ok (.putfield 230, 3) := by decide +kernel
theorem dX1_store_37 : decode cX1_store 37 = .ok (.goto 14, 3) := by decide +kernel
theorem dX1_store_40 : decode cX1_store 40 = .ok (.aload_n 1, 1) := by decide +kernel
theorem dX1_store_41 : decode cX1_store 41 = .ok (.getfield 166, 3) := by decide +kernel
theorem dX1_store_44 : decode cX1_store 44 = .ok (.aload_n 1, 1) := by decide +kernel
theorem dX1_store_45 : decode cX1_store 45 = .ok (.getfield 236, 3) := by decide +kernel
theorem dX1_store_48 : decode cX1_store 48 = .ok (.putfield 233, 3) := by decide +kernel
theorem dX1_store_51 : decode cX1_store 51 = .ok (.aload_n 1, 1) := by decide +kernel
theorem dX1_store_52 : decode cX1_store 52 = .ok (.getfield 236, 3) := by decide +kernel
theorem dX1_store_55 : decode cX1_store 55 = .ok (.areturn, 1) := by decide +kernel
theorem dX1_side_0 : decode cX1_side 0 = .ok (.aload_n 0, 1) := by decide +kernel
theorem dX1_side_1 : decode cX1_side 1 = .ok (.aload_n 1, 1) := by decide +kernel
theorem dX1_side_2 : decode cX1_side 2 = .ok (.aload_n 1, 1) := by decide +kernel
theorem dX1_side_3 : decode cX1_side 3 = .ok (.getfield 166, 3) := by decide +kernel
theorem dX1_side_6 : decode cX1_side 6 = .ok (.iconst 3, 1) := by decide +kernel
theorem dX1_side_7 : decode cX1_side 7 = .ok (.invokevirtual 169, 3) := by decide +kernel
theorem dX1_side_10 : decode cX1_side 10 = .ok (.ifCond .eq 5, 3) := by decide +kernel
theorem dX1_side_13 : decode cX1_side 13 = .ok (.aconst_null, 1) := by decide +kernel
theorem dX1_side_14 : decode cX1_side 14 = .ok (.areturn, 1) := by decide +kernel
theorem dX1_side_15 : decode cX1_side 15 = .ok (.aload_n 1, 1) := by decide +kernel
theorem dX1_side_16 : decode cX1_side 16 = .ok (.getfield 139, 3) := by decide +kernel
theorem dX1_side_19 : decode cX1_side 19 = .ok (.getfield 151, 3) := by decide +kernel
theorem dX1_side_22 : decode cX1_side 22 = .ok (.bipush 8, 2) := by decide +kernel
theorem dX1_side_24 : decode cX1_side 24 = .ok (.if_icmp .ne 13, 3) := by decide +kernel
theorem dX1_side_27 : decode cX1_side 27 = .ok (.aload_n 1, 1) := by decide +kernel
theorem dX1_side_28 : decode cX1_side 28 = .ok (.getfield 166, 3) := by decide +kernel
theorem dX1_side_31 : decode cX1_side 31 = .ok (.getfield 230, 3) := by decide +kernel
theorem dX1_side_34 : decode cX1_side 34 = .ok (.goto 10, 3) := by decide +kernel
theorem dX1_side_37 : decode cX1_side 37 = .ok (.aload_n 1, 1) := by decide +kernel
theorem dX1_side_38 : decode cX1_side 38 = .ok (.getfield 166, 3) := by decide +kernel
theorem dX1_side_41 : decode cX1_side 41 = .ok (.getfield 233, 3) := by decide +kernel
theorem dX1_side_44 : decode cX1_side 44 = .ok (.areturn, 1) := by decide +kernel
theorem dX1_send_0 : decode cX1_send 0 = .ok (.aload_n 0, 1) := by decide +kernel
theorem dX1_send_1 : decode cX1_send 1 = .ok (.aload_n 1, 1) := by decide +kernel
theorem dX1_send_2 : decode cX1_send 2 = .ok (.aload_n 1, 1) := by decide +kernel
theorem dX1_send_3 : decode cX1_send 3 = .ok (.getfield 166, 3) := by decide +kernel
theorem dX1_send_6 : decode cX1_send 6 = .ok (.iconst 4, 1) := by decide +kernel
theorem dX1_send_7 : decode cX1_send 7 = .ok (.invokevirtual 169, 3) := by decide +kernel
theorem dX1_send_10 : decode cX1_send 10 = .ok (.ifCond .eq 5, 3) := by decide +kernel
theorem dX1_send_13 : decode cX1_send 13 = .ok (.aconst_null, 1) := by decide +kernel
theorem dX1_send_14 : decode cX1_send 14 = .ok (.areturn, 1) := by decide +kernel
theorem dX1_send_15 : decode cX1_send 15 = .ok (.aload_n 1, 1) := by decide +kernel
theorem dX1_send_16 : decode cX1_send 16 = .ok (.getfield 166, 3) := by decide +kernel
theorem dX1_send_19 : decode cX1_send 19 = .ok (.getfield 230, 3) := by decide +kernel
theorem dX1_send_22 : decode cX1_send 22 = .ok (.astore_n 2, 1) := by decide +kernel
theorem dX1_send_23 : decode cX1_send 23 = .ok (.aload_n 1, 1) := by decide +kernel
theorem dX1_send_24 : decode cX1_send 24 = .ok (.getfield 139, 3) := by decide +kernel
theorem dX1_send_27 : decode cX1_send 27 = .ok (.iconst 1, 1) := by decide +kernel
theorem dX1_send_28 : decode cX1_send 28 = .ok (.invokevirtual 143, 3) := by decide +kernel
theorem dX1_send_31 : decode cX1_send 31 = .ok (.istore_n 3, 1) := by decide +kernel
theorem dX1_send_32 : decode cX1_send 32 = .ok (.iload_n 3, 1) := by decide +kernel
theorem dX1_send_33 : decode cX1_send 33 = .ok (.tableswitch 92 0 7 #[47, 49, 62, 62, 62, 62, 62, 70], 47) := by decide +kernel
theorem dX1_send_80 : decode cX1_send 80 = .ok (.aload_n 2, 1) := by decide +kernel
theorem dX1_send_81 : decode cX1_send 81 = .ok (.areturn, 1) := by decide +kernel
theorem dX1_send_82 : decode cX1_send 82 = .ok (.aload_n 1, 1) := by decide +kernel
theorem dX1_send_83 : decode cX1_send 83 = .ok (.getfield 166, 3) := by decide +kernel
theorem dX1_send_86 : decode cX1_send 86 = .ok (.aload_n 1, 1) := by decide +kernel
theorem dX1_send_87 : decode cX1_send 87 = .ok (.getfield 236, 3) := by decide +kernel
theorem dX1_send_90 : decode cX1_send 90 = .ok (.putfield 230, 3) := by decide +kernel
theorem dX1_send_93 : decode cX1_send 93 = .ok (.aload_n 2, 1) := by decide +kernel
theorem dX1_send_94 : decode cX1_send 94 = .ok (.areturn, 1) := by decide +kernel
theorem dX1_send_95 : decode cX1_send 95 = .ok (.aload_n 0, 1) := by decide +kernel
theorem dX1_send_96 : decode cX1_send 96 = .ok (.aload_n 1, 1) := by decide +kernel
theorem dX1_send_97 : decode cX1_send 97 = .ok (.iload_n 3, 1) := by decide +kernel
theorem dX1_send_98 : decode cX1_send 98 = .ok (.aload_n 2, 1) := by decide +kernel
theorem dX1_send_99 : decode cX1_send 99 = .ok (.invokevirtual 239, 3) := by decide +kernel
theorem dX1_send_102 : decode cX1_send 102 = .ok (.areturn, 1) := by decide +kernel
theorem dX1_send_103 : decode cX1_send 103 = .ok (.aload_n 0, 1) := by decide +kernel
theorem dX1_send_104 : decode cX1_send 104 = .ok (.getfield 21, 3) := by decide +kernel
theorem dX1_send_107 : decode cX1_send 107 = .ok (.iconst 1, 1) := by decide +kernel
theorem dX1_send_108 : decode cX1_send 108 = .ok (.aload_n 2, 1) := by decide +kernel
theorem dX1_send_109 : decode cX1_send 109 = .ok (.aload_n 1, 1) := by decide +kernel
theorem dX1_send_110 : decode cX1_send 110 = .ok (.getfield 236, 3) := by decide +kernel
theorem dX1_send_113 : decode cX1_send 113 = .ok (.if_acmp .ne 7, 3) := by decide +kernel
theorem dX1_send_116 : decode cX1_send 116 = .ok (.lconst 1, 1) := by decide +kernel
theorem dX1_send_117 : decode cX1_send 117 = .ok (.goto 4, 3) := by decide +kernel
theorem dX1_send_120 : decode cX1_send 120 = .ok (.lconst 0, 1) := by decide +kernel
theorem dX1_send_121 : decode cX1_send 121 = .ok (.invokevirtual 184, 3) := by decide +kernel
theorem dX1_send_124 : decode cX1_send 124 = .ok (.areturn, 1) := by decide +kernel
theorem dX1_send_125 : decode cX1_send 125 = .ok (.aload_n 0, 1) := by decide +kernel
theorem dX1_send_126 : decode cX1_send 126 = .ok (.getfield 21, 3) := by decide +kernel
theorem dX1_send_129 : decode cX1_send 129 = .ok (.iconst 1, 1) := by decide +kernel
theorem dX1_send_130 : decode cX1_send 130 = .ok (.lconst 0, 1) := by decide +kernel
theorem dX1_send_131 : decode cX1_send 131 = .ok (.invokevirtual 184, 3) := by decide +kernel
theorem dX1_send_134 : decode cX1_send 134 = .ok (.areturn, 1) := by decide +kernel
theorem dX1_reckon_0 : decode cX1_reckon 0 = .ok (.aload_n 0, 1) := by decide +kernel
theorem dX1_reckon_1 : decode cX1_reckon 1 = .ok (.aload_n 1, 1) := by decide +kernel
theorem dX1_reckon_2 : decode cX1_reckon 2 = .ok (.aload_n 3, 1) := by decide +kernel
theorem dX1_reckon_3 : decode cX1_reckon 3 = .ok (.iconst 1, 1) := by decide +kernel
theorem dX1_reckon_4 : decode cX1_reckon 4 = .ok (.invokevirtual 169, 3) := by decide +kernel
theorem dX1_reckon_7 : decode cX1_reckon 7 = .ok (.ifCond .ne 16, 3) := by decide +kernel
theorem dX1_reckon_10 : decode cX1_reckon 10 = .ok (.aload_n 0, 1) := by decide +kernel
theorem dX1_reckon_11 : decode cX1_reckon 11 = .ok (.aload_n 1, 1) := by decide +kernel
theorem dX1_reckon_12 : decode cX1_reckon 12 = .ok (.aload_n 1, 1) := by decide +kernel
theorem dX1_reckon_13 : decode cX1_reckon 13 = .ok (.getfield 236, 3) := by decide +kernel
theorem dX1_reckon_16 : decode cX1_reckon 16 = .ok (.iconst 1, 1) := by decide +kernel
theorem dX1_reckon_17 : decode cX1_reckon 17 = .ok (.invokevirtual 169, 3) := by decide +kernel
theorem dX1_reckon_20 : decode cX1_reckon 20 = .ok (.ifCond .eq 5, 3) := by decide +kernel
theorem dX1_reckon_23 : decode cX1_reckon 23 = .ok (.aconst_null, 1) := by decide +kernel
theorem dX1_reckon_24 : decode cX1_reckon 24 = .ok (.areturn, 1) := by decide +kernel
theorem dX1_reckon_25 : decode cX1_reckon 25 = .ok (.aload_n 3, 1) := by decide +kernel
theorem dX1_reckon_26 : decode cX1_reckon 26 = .ok (.getfield 173, 3) := by decide +kernel
theorem dX1_reckon_29 : decode cX1_reckon 29 = .ok (.lstore 4, 2) := by decide +kernel
theorem dX1_reckon_31 : decode cX1_reckon 31 = .ok (.aload_n 1, 1) := by decide +kernel
theorem dX1_reckon_32 : decode cX1_reckon 32 = .ok (.getfield 236, 3) := by decide +kernel
theorem dX1_reckon_35 : decode cX1_reckon 35 = .ok (.getfield 173, 3) := by decide +kernel
theorem dX1_reckon_38 : decode cX1_reckon 38 = .ok (.lstore 6, 2) := by decide +kernel
theorem dX1_reckon_40 : decode cX1_reckon 40 = .ok (.iload_n 2, 1) := by decide +kernel
theorem dX1_reckon_41 : decode cX1_reckon 41 = .ok (.tableswitch 69 2 4 #[27, 41, 55], 27) := by decide +kernel
theorem dX1_reckon_68 : decode cX1_reckon 68 = .ok (.aload_n 0, 1) := by decide +kernel
theorem dX1_reckon_69 : decode cX1_reckon 69 = .ok (.getfield 21, 3) := by decide +kernel
theorem dX1_reckon_72 : decode cX1_reckon 72 = .ok (.iconst 1, 1) := by decide +kernel
theorem dX1_reckon_73 : decode cX1_reckon 73 = .ok (.lload 4, 2) := by decide +kernel
theorem dX1_reckon_75 : decode cX1_reckon 75 = .ok (.lload 6, 2) := by decide +kernel
theorem dX1_reckon_77 : decode cX1_reckon 77 = .ok (.ladd, 1) := by decide +kernel
theorem dX1_reckon_78 : decode cX1_reckon 78 = .ok (.invokevirtual 184, 3) := by decide +kernel
theorem dX1_reckon_81 : decode cX1_reckon 81 = .ok (.areturn, 1) := by decide +kernel
theorem dX1_reckon_82 : decode cX1_reckon 82 = .ok (.aload_n 0, 1) := by decide +kernel
theorem dX1_reckon_83 : decode cX1_reckon 83 = .ok (.getfield 21, 3) := by decide +kernel
theorem dX1_reckon_86 : decode cX1_reckon 86 = .ok (.iconst 1, 1) := by decide +kernel
theorem dX1_reckon_87 : decode cX1_reckon 87 = .ok (.lload 4, 2) := by decide +kernel
theorem dX1_reckon_89 : decode cX1_reckon 89 = .ok (.lload 6, 2) := by decide +kernel
theorem dX1_reckon_91 : decode cX1_reckon 91 = .ok (.lsub, 1) := by decide +kernel
theorem dX1_reckon_92 : decode cX1_reckon 92 = .ok (.invokevirtual 184, 3) := by decide +kernel
theorem dX1_reckon_95 : decode cX1_reckon 95 = .ok (.areturn, 1) := by decide +kernel
theorem dX1_reckon_96 : decode cX1_reckon 96 = .ok (.aload_n 0, 1) := by decide +kernel
theorem dX1_reckon_97 : decode cX1_reckon 97 = .ok (.getfield 21, 3) := by decide +kernel
theorem dX1_reckon_100 : decode cX1_reckon 100 = .ok (.iconst 1, 1) := by decide +kernel
theorem dX1_reckon_101 : decode cX1_reckon 101 = .ok (.lload 4, 2) := by decide +kernel
theorem dX1_reckon_103 : decode cX1_reckon 103 = .ok (.lload 6, 2) := by decide +kernel
theorem dX1_reckon_105 : decode cX1_reckon 105 = .ok (.lmul, 1) := by decide +kernel
theorem dX1_reckon_106 : decode cX1_reckon 106 = .ok (.invokevirtual 184, 3) := by decide +kernel
theorem dX1_reckon_109 : decode cX1_reckon 109 = .ok (.areturn, 1) := by decide +kernel
theorem dX1_reckon_110 : decode cX1_reckon 110 = .ok (.lload 6, 2) := by decide +kernel
theorem dX1_reckon_112 : decode cX1_reckon 112 = .ok (.lconst 0, 1) := by decide +kernel
theorem dX1_reckon_113 : decode cX1_reckon 113 = .ok (.lcmp, 1) := by decide +kernel
theorem dX1_reckon_114 : decode cX1_reckon 114 = .ok (.ifCond .ne 17, 3) := by decide +kernel
theorem dX1_reckon_117 : decode cX1_reckon 117 = .ok (.aload_n 0, 1) := by decide +kernel
theorem dX1_reckon_118 : decode cX1_reckon 118 = .ok (.aload_n 1, 1) := by decide +kernel
theorem dX1_reckon_119 : decode cX1_reckon 119 = .ok (.getfield 139, 3) := by decide +kernel
theorem dX1_reckon_122 : decode cX1_reckon 122 = .ok (.getfield 120, 3) := by decide +kernel
theorem dX1_reckon_125 : decode cX1_reckon 125 = .ok (.bipush 6, 2) := by decide +kernel
theorem dX1_reckon_127 : decode cX1_reckon 127 = .ok (.invokevirtual 85, 3) := by decide +kernel
theorem dX1_reckon_130 : decode cX1_reckon 130 = .ok (.areturn, 1) := by decide +kernel
theorem dX1_reckon_131 : decode cX1_reckon 131 = .ok (.aload_n 0, 1) := by decide +kernel
theorem dX1_reckon_132 : decode cX1_reckon 132 = .ok (.getfield 21, 3) := by decide +kernel
theorem dX1_reckon_135 : decode cX1_reckon 135 = .ok (.iconst 1, 1) := by decide +kernel
theorem dX1_reckon_136 : decode cX1_reckon 136 = .ok (.iload_n 2, 1) := by decide +kernel
theorem dX1_reckon_137 : decode cX1_reckon 137 = .ok (.iconst 5, 1) := by decide +kernel
theorem dX1_reckon_138 : decode cX1_reckon 138 = .ok (.if_icmp .ne 11, 3) := by decide +kernel
theorem dX1_reckon_141 : decode cX1_reckon 141 = .ok (.lload 4, 2) := by decide +kernel
theorem dX1_reckon_143 : decode cX1_reckon 143 = .ok (.lload 6, 2) := by decide +kernel
theorem dX1_reckon_145 : decode cX1_reckon 145 = .ok (.ldiv, 1) := by decide +kernel
theorem dX1_reckon_146 : decode cX1_reckon 146 = .ok (.goto 8, 3) := by decide +kernel
theorem dX1_reckon_149 : decode cX1_reckon 149 = .ok (.lload 4, 2) := by decide +kernel
theorem dX1_reckon_151 : decode cX1_reckon 151 = .ok (.lload 6, 2) := by decide +kernel
theorem dX1_reckon_153 : decode cX1_reckon 153 = .ok (.lrem, 1) := by decide +kernel
theorem dX1_reckon_154 : decode cX1_reckon 154 = .ok (.invokevirtual 184, 3) := by decide +kernel
theorem dX1_reckon_157 : decode cX1_reckon 157 = .ok (.areturn, 1) := by decide +kernel
theorem dX1_row_0 : decode cX1_row 0 = .ok (.aload_n 0, 1) := by decide +kernel
theorem dX1_row_1 : decode cX1_row 1 = .ok (.aload_n 1, 1) := by decide +kernel
theorem dX1_row_2 : decode cX1_row 2 = .ok (.aload_n 1, 1) := by decide +kernel
theorem dX1_row_3 : decode cX1_row 3 = .ok (.getfield 197, 3) := by decide +kernel
theorem dX1_row_6 : decode cX1_row 6 = .ok (.iconst 1, 1) := by decide +kernel
theorem dX1_row_7 : decode cX1_row 7 = .ok (.invokevirtual 169, 3) := by decide +kernel
theorem dX1_row_10 : decode cX1_row 10 = .ok (.ifCond .eq 5, 3) := by decide +kernel
theorem dX1_row_13 : decode cX1_row 13 = .ok (.aconst_null, 1) := by decide +kernel
theorem dX1_row_14 : decode cX1_row 14 = .ok (.areturn, 1) := by decide +kernel
theorem dX1_row_15 : decode cX1_row 15 = .ok (.aload_n 1, 1) := by decide +kernel
theorem dX1_row_16 : decode cX1_row 16 = .ok (.getfield 139, 3) := by decide +kernel
theorem dX1_row_19 : decode cX1_row 19 = .ok (.iconst 0, 1) := by decide +kernel
theorem dX1_row_20 : decode cX1_row 20 = .ok (.invokevirtual 143, 3) := by decide +kernel
theorem dX1_row_23 : decode cX1_row 23 = .ok (.istore_n 2, 1) := by decide +kernel
theorem dX1_row_24 : decode cX1_row 24 = .ok (.iload_n 2, 1) := by decide +kernel
theorem dX1_row_25 : decode cX1_row 25 = .ok (.ifCond .lt 8, 3) := by decide +kernel
theorem dX1_row_28 : decode cX1_row 28 = .ok (.iload_n 2, 1) := by decide +kernel
theorem dX1_row_29 : decode cX1_row 29 = .ok (.iconst 2, 1) := by decide +kernel
theorem dX1_row_30 : decode cX1_row 30 = .ok (.if_icmp .le 11, 3) := by decide +kernel
theorem dX1_row_33 : decode cX1_row 33 = .ok (.aload_n 0, 1) := by decide +kernel
theorem dX1_row_34 : decode cX1_row 34 = .ok (.getfield 21, 3) := by decide +kernel
theorem dX1_row_37 : decode cX1_row 37 = .ok (.invokevirtual 243, 3) := by decide +kernel
theorem dX1_row_40 : decode cX1_row 40 = .ok (.areturn, 1) := by decide +kernel
theorem dX1_row_41 : decode cX1_row 41 = .ok (.aload_n 1, 1) := by decide +kernel
theorem dX1_row_42 : decode cX1_row 42 = .ok (.getfield 197, 3) := by decide +kernel
theorem dX1_row_45 : decode cX1_row 45 = .ok (.getfield 173, 3) := by decide +kernel
theorem dX1_row_48 : decode cX1_row 48 = .ok (.l2i, 1) := by decide +kernel
theorem dX1_row_49 : decode cX1_row 49 = .ok (.istore_n 3, 1) := by decide +kernel
theorem dX1_row_50 : decode cX1_row 50 = .ok (.iload_n 3, 1) := by decide +kernel
theorem dX1_row_51 : decode cX1_row 51 = .ok (.ifCond .ge 16, 3) := by decide +kernel
theorem dX1_row_54 : decode cX1_row 54 = .ok (.aload_n 0, 1) := by decide +kernel
theorem dX1_row_55 : decode cX1_row 55 = .ok (.aload_n 1, 1) := by decide +kernel
theorem dX1_row_56 : decode cX1_row 56 = .ok (.getfield 139, 3) := by decide +kernel
theorem dX1_row_59 : decode cX1_row 59 = .ok (.getfield 120, 3) := by decide +kernel
theorem dX1_row_62 : decode cX1_row 62 = .ok (.iconst 5, 1) := by decide +kernel
theorem dX1_row_63 : decode cX1_row 63 = .ok (.invokevirtual 85, 3) := by decide +kernel
theorem dX1_row_66 : decode cX1_row 66 = .ok (.areturn, 1) := by decide +kernel
theorem dX1_row_67 : decode cX1_row 67 = .ok (.aload_n 0, 1) := by decide +kernel
theorem dX1_row_68 : decode cX1_row 68 = .ok (.getfield 21, 3) := by decide +kernel
theorem dX1_row_71 : decode cX1_row 71 = .ok (.iload_n 3, 1) := by decide +kernel
theorem dX1_row_72 : decode cX1_row 72 = .ok (.invokevirtual 247, 3) := by decide +kernel
theorem dX1_row_75 : decode cX1_row 75 = .ok (.ifCond .ne 17, 3) := by decide +kernel
theorem dX1_row_78 : decode cX1_row 78 = .ok (.aload_n 0, 1) := by decide +kernel
theorem dX1_row_79 : decode cX1_row 79 = .ok (.aload_n 1, 1) := by decide +kernel
theorem dX1_row_80 : decode cX1_row 80 = .ok (.getfield 139, 3) := by decide +kernel
theorem dX1_row_83 : decode cX1_row 83 = .ok (.getfield 120, 3) := by decide +kernel
theorem dX1_row_86 : decode cX1_row 86 = .ok (.bipush 8, 2) := by decide +kernel
theorem dX1_row_88 : decode cX1_row 88 = .ok (.invokevirtual 85, 3) := by decide +kernel
theorem dX1_row_91 : decode cX1_row 91 = .ok (.areturn, 1) := by decide +kernel
theorem dX1_row_92 : decode cX1_row 92 = .ok (.aload_n 0, 1) := by decide +kernel
theorem dX1_row_93 : decode cX1_row 93 = .ok (.getfield 21, 3) := by decide +kernel
theorem dX1_row_96 : decode cX1_row 96 = .ok (.iload_n 2, 1) := by decide +kernel
theorem dX1_row_97 : decode cX1_row 97 = .ok (.iload_n 3, 1) := by decide +kernel
theorem dX1_row_98 : decode cX1_row 98 = .ok (.invokevirtual 250, 3) := by decide +kernel
theorem dX1_row_101 : decode cX1_row 101 = .ok (.areturn, 1) := by decide +kernel
theorem dX1_lacksPlace_0 : decode cX1_lacksPlace 0 = .ok (.aload_n 0, 1) := by decide +kernel
theorem dX1_lacksPlace_1 : decode cX1_lacksPlace 1 = .ok (.aload_n 1, 1) := by decide +kernel
theorem dX1_lacksPlace_2 : decode cX1_lacksPlace 2 = .ok (.aload_n 1, 1) := by decide +kernel
theorem dX1_lacksPlace_3 : decode cX1_lacksPlace 3 = .ok (.getfield 166, 3) := by decide +kernel
theorem dX1_lacksPlace_6 : decode cX1_lacksPlace 6 = .ok (.iconst 5, 1) := by decide +kernel
theorem dX1_lacksPlace_7 : decode cX1_lacksPlace 7 = .ok (.invokevirtual 169, 3) := by decide +kernel
theorem dX1_lacksPlace_10 : decode cX1_lacksPlace 10 = .ok (.ifCond .ne 16, 3) := by decide +kernel
theorem dX1_lacksPlace_13 : decode cX1_lacksPlace 13 = .ok (.aload_n 0, 1) := by decide +kernel
theorem dX1_lacksPlace_14 : decode cX1_lacksPlace 14 = .ok (.aload_n 1, 1) := by decide +kernel
theorem dX1_lacksPlace_15 : decode cX1_lacksPlace 15 = .ok (.aload_n 1, 1) := by decide +kernel
theorem dX1_lacksPlace_16 : decode cX1_lacksPlace 16 = .ok (.getfield 197, 3) := by decide +kernel
theorem dX1_lacksPlace_19 : decode cX1_lacksPlace 19 = .ok (.iconst 1, 1) := by decide +kernel
theorem dX1_lacksPlace_20 : decode cX1_lacksPlace 20 = .ok (.invokevirtual 169, 3) := by decide +kernel
theorem dX1_lacksPlace_23 : decode cX1_lacksPlace 23 = .ok (.ifCond .eq 5, 3) := by decide +kernel
theorem dX1_lacksPlace_26 : decode cX1_lacksPlace 26 = .ok (.iconst 1, 1) := by decide +kernel
theorem dX1_lacksPlace_27 : decode cX1_lacksPlace 27 = .ok (.ireturn, 1) := by decide +kernel
theorem dX1_lacksPlace_28 : decode cX1_lacksPlace 28 = .ok (.aload_n 1, 1) := by decide +kernel
theorem dX1_lacksPlace_29 : decode cX1_lacksPlace 29 = .ok (.getfield 166, 3) := by decide +kernel
theorem dX1_lacksPlace_32 : decode cX1_lacksPlace 32 = .ok (.aload_n 1, 1) := by decide +kernel
theorem dX1_lacksPlace_33 : decode cX1_lacksPlace 33 = .ok (.getfield 197, 3) := by decide +kernel
theorem dX1_lacksPlace_36 : decode cX1_lacksPlace 36 = .ok (.getfield 173, 3) := by decide +kernel
theorem dX1_lacksPlace_39 : decode cX1_lacksPlace 39 = .ok (.l2i, 1) := by decide +kernel
theorem dX1_lacksPlace_40 : decode cX1_lacksPlace 40 = .ok (.invokevirtual 252, 3) := by decide +kernel
theorem dX1_lacksPlace_43 : decode cX1_lacksPlace 43 = .ok (.ifCond .eq 5, 3) := by decide +kernel
theorem dX1_lacksPlace_46 : decode cX1_lacksPlace 46 = .ok (.iconst 0, 1) := by decide +kernel
theorem dX1_lacksPlace_47 : decode cX1_lacksPlace 47 = .ok (.ireturn, 1) := by decide +kernel
theorem dX1_lacksPlace_48 : decode cX1_lacksPlace 48 = .ok (.aload_n 0, 1) := by decide +kernel
theorem dX1_lacksPlace_49 : decode cX1_lacksPlace 49 = .ok (.aload_n 1, 1) := by decide +kernel
theorem dX1_lacksPlace_50 : decode cX1_lacksPlace 50 = .ok (.getfield 139, 3) := by decide +kernel
theorem dX1_lacksPlace_53 : decode cX1_lacksPlace 53 = .ok (.getfield 120, 3) := by decide +kernel
theorem dX1_lacksPlace_56 : decode cX1_lacksPlace 56 = .ok (.aload_n 1, 1) := by decide +kernel
theorem dX1_lacksPlace_57 : decode cX1_lacksPlace 57 = .ok (.getfield 166, 3) := by decide +kernel
theorem dX1_lacksPlace_60 : decode cX1_lacksPlace 60 = .ok (.getfield 255, 3) := by decide +kernel
theorem dX1_lacksPlace_63 : decode cX1_lacksPlace 63 = .ok (.ifnonnull 7, 3) := by decide +kernel
theorem dX1_lacksPlace_66 : decode cX1_lacksPlace 66 = .ok (.iconst 1, 1) := by decide +kernel
theorem dX1_lacksPlace_67 : decode cX1_lacksPlace 67 = .ok (.goto 4, 3) := by decide +kernel
theorem dX1_lacksPlace_70 : decode cX1_lacksPlace 70 = .ok (.iconst 2, 1) := by decide +kernel
theorem dX1_lacksPlace_71 : decode cX1_lacksPlace 71 = .ok (.invokevirtual 85, 3) := by decide +kernel
theorem dX1_lacksPlace_74 : decode cX1_lacksPlace 74 = .ok (.pop, 1) := by decide +kernel
theorem dX1_lacksPlace_75 : decode cX1_lacksPlace 75 = .ok (.iconst 1, 1) := by decide +kernel
theorem dX1_lacksPlace_76 : decode cX1_lacksPlace 76 = .ok (.ireturn, 1) := by decide +kernel
theorem dX1_put_0 : decode cX1_put 0 = .ok (.aload_n 0, 1) := by decide +kernel
theorem dX1_put_1 : decode cX1_put 1 = .ok (.aload_n 1, 1) := by decide +kernel
theorem dX1_put_2 : decode cX1_put 2 = .ok (.invokevirtual 258, 3) := by decide +kernel
theorem dX1_put_5 : decode cX1_put 5 = .ok (.ifCond .eq 5, 3) := by decide +kernel
theorem dX1_put_8 : decode cX1_put 8 = .ok (.aconst_null, 1) := by decide +kernel
theorem dX1_put_9 : decode cX1_put 9 = .ok (.areturn, 1) := by decide +kernel
theorem dX1_put_10 : decode cX1_put 10 = .ok (.aload_n 1, 1) := by decide +kernel
theorem dX1_put_11 : decode cX1_put 11 = .ok (.getfield 166, 3) := by decide +kernel
theorem dX1_put_14 : decode cX1_put 14 = .ok (.aload_n 1, 1) := by decide +kernel
theorem dX1_put_15 : decode cX1_put 15 = .ok (.getfield 236, 3) := by decide +kernel
theorem dX1_put_18 : decode cX1_put 18 = .ok (.invokevirtual 261, 3) := by decide +kernel
theorem dX1_put_21 : decode cX1_put 21 = .ok (.ifCond .ne 16, 3) := by decide +kernel
theorem dX1_put_24 : decode cX1_put 24 = .ok (.aload_n 0, 1) := by decide +kernel
theorem dX1_put_25 : decode cX1_put 25 = .ok (.aload_n 1, 1) := by decide +kernel
theorem dX1_put_26 : decode cX1_put 26 = .ok (.getfield 139, 3) := by decide +kernel
theorem dX1_put_29 : decode cX1_put 29 = .ok (.getfield 120, 3) := by decide +kernel
theorem dX1_put_32 : decode cX1_put 32 = .ok (.iconst 4, 1) := by decide +kernel
theorem dX1_put_33 : decode cX1_put 33 = .ok (.invokevirtual 85, 3) := by decide +kernel
theorem dX1_put_36 : decode cX1_put 36 = .ok (.areturn, 1) := by decide +kernel
theorem dX1_put_37 : decode cX1_put 37 = .ok (.aload_n 1, 1) := by decide +kernel
theorem dX1_put_38 : decode cX1_put 38 = .ok (.getfield 166, 3) := by decide +kernel
theorem dX1_put_41 : decode cX1_put 41 = .ok (.getfield 255, 3) := by decide +kernel
theorem dX1_put_44 : decode cX1_put 44 = .ok (.aload_n 1, 1) := by decide +kernel
theorem dX1_put_45 : decode cX1_put 45 = .ok (.getfield 197, 3) := by decide +kernel
theorem dX1_put_48 : decode cX1_put 48 = .ok (.getfield 173, 3) := by decide +kernel
theorem dX1_put_51 : decode cX1_put 51 = .ok (.l2i, 1) := by decide +kernel
theorem dX1_put_52 : decode cX1_put 52 = .ok (.aload_n 1, 1) := by decide +kernel
theorem dX1_put_53 : decode cX1_put 53 = .ok (.getfield 236, 3) := by decide +kernel
theorem dX1_put_56 : decode cX1_put 56 = .ok (.aastore, 1) := by decide +kernel
theorem dX1_put_57 : decode cX1_put 57 = .ok (.aload_n 1, 1) := by decide +kernel
theorem dX1_put_58 : decode cX1_put 58 = .ok (.getfield 236, 3) := by decide +kernel
theorem dX1_put_61 : decode cX1_put 61 = .ok (.areturn, 1) := by decide +kernel
theorem dX1_at_0 : decode cX1_at 0 = .ok (.aload_n 0, 1) := by decide +kernel
theorem dX1_at_1 : decode cX1_at 1 = .ok (.aload_n 1, 1) := by decide +kernel
theorem dX1_at_2 : decode cX1_at 2 = .ok (.invokevirtual 258, 3) := by decide +kernel
theorem dX1_at_5 : decode cX1_at 5 = .ok (.ifCond .eq 7, 3) := by decide +kernel
theorem dX1_at_8 : decode cX1_at 8 = .ok (.aconst_null, 1) := by decide +kernel
theorem dX1_at_9 : decode cX1_at 9 = .ok (.goto 19, 3) := by decide +kernel
theorem dX1_at_12 : decode cX1_at 12 = .ok (.aload_n 1, 1) := by decide +kernel
