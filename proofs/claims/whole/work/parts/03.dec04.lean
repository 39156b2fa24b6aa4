theorem dX7_is_43 : decode cX7_is 43 = .ok (.iload_n 1, 1) := by decide +kernel
theorem dX7_is_44 : decode cX7_is 44 = .ok (.invokevirtual 88, 3) := by decide +kernel
theorem dX7_is_47 : decode cX7_is 47 = .ok (.pop, 1) := by decide +kernel
theorem dX7_is_48 : decode cX7_is 48 = .ok (.iconst 0, 1) := by decide +kernel
theorem dX7_is_49 : decode cX7_is 49 = .ok (.ireturn, 1) := by decide +kernel
theorem dX7_enter_0 : decode cX7_enter 0 = .ok (.aload_n 0, 1) := by decide +kernel
theorem dX7_enter_1 : decode cX7_enter 1 = .ok (.getfield 92, 3) := by decide +kernel
theorem dX7_enter_4 : decode cX7_enter 4 = .ok (.ifCond .ne 9, 3) := by decide +kernel
theorem dX7_enter_7 : decode cX7_enter 7 = .ok (.aload_n 0, 1) := by decide +kernel
theorem dX7_enter_8 : decode cX7_enter 8 = .ok (.iconst (-1), 1) := by decide +kernel
theorem dX7_enter_9 : decode cX7_enter 9 = .ok (.putfield 82, 3) := by decide +kernel
theorem dX7_enter_12 : decode cX7_enter 12 = .ok (.return_, 1) := by decide +kernel
theorem dX7_enter_13 : decode cX7_enter 13 = .ok (.aload_n 0, 1) := by decide +kernel
theorem dX7_enter_14 : decode cX7_enter 14 = .ok (.dup, 1) := by decide +kernel
theorem dX7_enter_15 : decode cX7_enter 15 = .ok (.getfield 92, 3) := by decide +kernel
theorem dX7_enter_18 : decode cX7_enter 18 = .ok (.iconst 1, 1) := by decide +kernel
theorem dX7_enter_19 : decode cX7_enter 19 = .ok (.isub, 1) := by decide +kernel
theorem dX7_enter_20 : decode cX7_enter 20 = .ok (.putfield 92, 3) := by decide +kernel
theorem dX7_enter_23 : decode cX7_enter 23 = .ok (.aload_n 0, 1) := by decide +kernel
theorem dX7_enter_24 : decode cX7_enter 24 = .ok (.dup, 1) := by decide +kernel
theorem dX7_enter_25 : decode cX7_enter 25 = .ok (.getfield 95, 3) := by decide +kernel
theorem dX7_enter_28 : decode cX7_enter 28 = .ok (.iconst 1, 1) := by decide +kernel
theorem dX7_enter_29 : decode cX7_enter 29 = .ok (.iadd, 1) := by decide +kernel
theorem dX7_enter_30 : decode cX7_enter 30 = .ok (.putfield 95, 3) := by decide +kernel
theorem dX7_enter_33 : decode cX7_enter 33 = .ok (.aload_n 0, 1) := by decide +kernel
theorem dX7_enter_34 : decode cX7_enter 34 = .ok (.getfield 98, 3) := by decide +kernel
theorem dX7_enter_37 : decode cX7_enter 37 = .ok (.sipush 200, 3) := by decide +kernel
theorem dX7_enter_40 : decode cX7_enter 40 = .ok (.if_icmp .ne 12, 3) := by decide +kernel
theorem dX7_enter_43 : decode cX7_enter 43 = .ok (.aload_n 0, 1) := by decide +kernel
theorem dX7_enter_44 : decode cX7_enter 44 = .ok (.bipush 7, 2) := by decide +kernel
theorem dX7_enter_46 : decode cX7_enter 46 = .ok (.iload_n 1, 1) := by decide +kernel
theorem dX7_enter_47 : decode cX7_enter 47 = .ok (.invokevirtual 88, 3) := by decide +kernel
theorem dX7_enter_50 : decode cX7_enter 50 = .ok (.pop, 1) := by decide +kernel
theorem dX7_enter_51 : decode cX7_enter 51 = .ok (.return_, 1) := by decide +kernel
theorem dX7_enter_52 : decode cX7_enter 52 = .ok (.aload_n 0, 1) := by decide +kernel
theorem dX7_enter_53 : decode cX7_enter 53 = .ok (.dup, 1) := by decide +kernel
theorem dX7_enter_54 : decode cX7_enter 54 = .ok (.getfield 98, 3) := by decide +kernel
theorem dX7_enter_57 : decode cX7_enter 57 = .ok (.iconst 1, 1) := by decide +kernel
theorem dX7_enter_58 : decode cX7_enter 58 = .ok (.iadd, 1) := by decide +kernel
theorem dX7_enter_59 : decode cX7_enter 59 = .ok (.putfield 98, 3) := by decide +kernel
theorem dX7_enter_62 : decode cX7_enter 62 = .ok (.aload_n 0, 1) := by decide +kernel
theorem dX7_enter_63 : decode cX7_enter 63 = .ok (.getfield 46, 3) := by decide +kernel
theorem dX7_enter_66 : decode cX7_enter 66 = .ok (.aload_n 0, 1) := by decide +kernel
theorem dX7_enter_67 : decode cX7_enter 67 = .ok (.getfield 98, 3) := by decide +kernel
theorem dX7_enter_70 : decode cX7_enter 70 = .ok (.iload_n 1, 1) := by decide +kernel
theorem dX7_enter_71 : decode cX7_enter 71 = .ok (.iastore, 1) := by decide +kernel
theorem dX7_enter_72 : decode cX7_enter 72 = .ok (.aload_n 0, 1) := by decide +kernel
theorem dX7_enter_73 : decode cX7_enter 73 = .ok (.getfield 49, 3) := by decide +kernel
theorem dX7_enter_76 : decode cX7_enter 76 = .ok (.aload_n 0, 1) := by decide +kernel
theorem dX7_enter_77 : decode cX7_enter 77 = .ok (.getfield 98, 3) := by decide +kernel
theorem dX7_enter_80 : decode cX7_enter 80 = .ok (.iconst 0, 1) := by decide +kernel
theorem dX7_enter_81 : decode cX7_enter 81 = .ok (.iastore, 1) := by decide +kernel
theorem dX7_enter_82 : decode cX7_enter 82 = .ok (.iconst 0, 1) := by decide +kernel
theorem dX7_enter_83 : decode cX7_enter 83 = .ok (.istore_n 2, 1) := by decide +kernel
theorem dX7_enter_84 : decode cX7_enter 84 = .ok (.iload_n 2, 1) := by decide +kernel
theorem dX7_enter_85 : decode cX7_enter 85 = .ok (.iconst 3, 1) := by decide +kernel
theorem dX7_enter_86 : decode cX7_enter 86 = .ok (.if_icmp .ge 25, 3) := by decide +kernel
theorem dX7_enter_89 : decode cX7_enter 89 = .ok (.aload_n 0, 1) := by decide +kernel
theorem dX7_enter_90 : decode cX7_enter 90 = .ok (.getfield 52, 3) := by decide +kernel
theorem dX7_enter_93 : decode cX7_enter 93 = .ok (.iconst 3, 1) := by decide +kernel
theorem dX7_enter_94 : decode cX7_enter 94 = .ok (.aload_n 0, 1) := by decide +kernel
theorem dX7_enter_95 : decode cX7_enter 95 = .ok (.getfield 98, 3) := by decide +kernel
theorem dX7_enter_98 : decode cX7_enter 98 = .ok (.imul, 1) := by decide +kernel
theorem dX7_enter_99 : decode cX7_enter 99 = .ok (.iconst 3, 1) := by decide +kernel
theorem dX7_enter_100 : decode cX7_enter 100 = .ok (.isub, 1) := by decide +kernel
theorem dX7_enter_101 : decode cX7_enter 101 = .ok (.iload_n 2, 1) := by decide +kernel
theorem dX7_enter_102 : decode cX7_enter 102 = .ok (.iadd, 1) := by decide +kernel
theorem dX7_enter_103 : decode cX7_enter 103 = .ok (.iconst (-1), 1) := by decide +kernel
theorem dX7_enter_104 : decode cX7_enter 104 = .ok (.iastore, 1) := by decide +kernel
theorem dX7_enter_105 : decode cX7_enter 105 = .ok (.iinc 2 1, 3) := by decide +kernel
theorem dX7_enter_108 : decode cX7_enter 108 = .ok (.goto (-24), 3) := by decide +kernel
theorem dX7_enter_111 : decode cX7_enter 111 = .ok (.return_, 1) := by decide +kernel
theorem dX7_begin_0 : decode cX7_begin 0 = .ok (.aload_n 0, 1) := by decide +kernel
theorem dX7_begin_1 : decode cX7_begin 1 = .ok (.iload_n 1, 1) := by decide +kernel
theorem dX7_begin_2 : decode cX7_begin 2 = .ok (.iload_n 2, 1) := by decide +kernel
theorem dX7_begin_3 : decode cX7_begin 3 = .ok (.invokevirtual 101, 3) := by decide +kernel
theorem dX7_begin_6 : decode cX7_begin 6 = .ok (.iconst (-1), 1) := by decide +kernel
theorem dX7_begin_7 : decode cX7_begin 7 = .ok (.if_icmp .ne 13, 3) := by decide +kernel
theorem dX7_begin_10 : decode cX7_begin 10 = .ok (.aload_n 0, 1) := by decide +kernel
theorem dX7_begin_11 : decode cX7_begin 11 = .ok (.iconst 1, 1) := by decide +kernel
theorem dX7_begin_12 : decode cX7_begin 12 = .ok (.iload_n 1, 1) := by decide +kernel
theorem dX7_begin_13 : decode cX7_begin 13 = .ok (.invokevirtual 88, 3) := by decide +kernel
theorem dX7_begin_16 : decode cX7_begin 16 = .ok (.pop, 1) := by decide +kernel
theorem dX7_begin_17 : decode cX7_begin 17 = .ok (.goto 13, 3) := by decide +kernel
theorem dX7_begin_20 : decode cX7_begin 20 = .ok (.aload_n 0, 1) := by decide +kernel
theorem dX7_begin_21 : decode cX7_begin 21 = .ok (.aload_n 0, 1) := by decide +kernel
theorem dX7_begin_22 : decode cX7_begin 22 = .ok (.iload_n 1, 1) := by decide +kernel
theorem dX7_begin_23 : decode cX7_begin 23 = .ok (.iload_n 2, 1) := by decide +kernel
theorem dX7_begin_24 : decode cX7_begin 24 = .ok (.invokevirtual 101, 3) := by decide +kernel
theorem dX7_begin_27 : decode cX7_begin 27 = .ok (.invokevirtual 104, 3) := by decide +kernel
theorem dX7_begin_30 : decode cX7_begin 30 = .ok (.return_, 1) := by decide +kernel
theorem dX7_run_0 : decode cX7_run 0 = .ok (.iload_n 2, 1) := by decide +kernel
theorem dX7_run_1 : decode cX7_run 1 = .ok (.ifCond .lt 10, 3) := by decide +kernel
theorem dX7_run_4 : decode cX7_run 4 = .ok (.iload_n 2, 1) := by decide +kernel
theorem dX7_run_5 : decode cX7_run 5 = .ok (.sipush 10000, 3) := by decide +kernel
theorem dX7_run_8 : decode cX7_run 8 = .ok (.if_icmp .le 6, 3) := by decide +kernel
theorem dX7_run_11 : decode cX7_run 11 = .ok (.bipush (-2), 2) := by decide +kernel
theorem dX7_run_13 : decode cX7_run 13 = .ok (.ireturn, 1) := by decide +kernel
theorem dX7_run_14 : decode cX7_run 14 = .ok (.aload_n 0, 1) := by decide +kernel
theorem dX7_run_15 : decode cX7_run 15 = .ok (.iconst (-1), 1) := by decide +kernel
theorem dX7_run_16 : decode cX7_run 16 = .ok (.putfield 58, 3) := by decide +kernel
theorem dX7_run_19 : decode cX7_run 19 = .ok (.aload_n 0, 1) := by decide +kernel
theorem dX7_run_20 : decode cX7_run 20 = .ok (.iconst 0, 1) := by decide +kernel
theorem dX7_run_21 : decode cX7_run 21 = .ok (.putfield 108, 3) := by decide +kernel
theorem dX7_run_24 : decode cX7_run 24 = .ok (.aload_n 0, 1) := by decide +kernel
theorem dX7_run_25 : decode cX7_run 25 = .ok (.iconst (-1), 1) := by decide +kernel
theorem dX7_run_26 : decode cX7_run 26 = .ok (.putfield 61, 3) := by decide +kernel
theorem dX7_run_29 : decode cX7_run 29 = .ok (.aload_n 0, 1) := by decide +kernel
theorem dX7_run_30 : decode cX7_run 30 = .ok (.iconst 0, 1) := by decide +kernel
theorem dX7_run_31 : decode cX7_run 31 = .ok (.putfield 95, 3) := by decide +kernel
theorem dX7_run_34 : decode cX7_run 34 = .ok (.iload_n 1, 1) := by decide +kernel
theorem dX7_run_35 : decode cX7_run 35 = .ok (.ifCond .lt 11, 3) := by decide +kernel
theorem dX7_run_38 : decode cX7_run 38 = .ok (.iload_n 1, 1) := by decide +kernel
theorem dX7_run_39 : decode cX7_run 39 = .ok (.aload_n 0, 1) := by decide +kernel
theorem dX7_run_40 : decode cX7_run 40 = .ok (.getfield 64, 3) := by decide +kernel
theorem dX7_run_43 : decode cX7_run 43 = .ok (.if_icmp .lt 10, 3) := by decide +kernel
theorem dX7_run_46 : decode cX7_run 46 = .ok (.aload_n 0, 1) := by decide +kernel
theorem dX7_run_47 : decode cX7_run 47 = .ok (.iconst 1, 1) := by decide +kernel
theorem dX7_run_48 : decode cX7_run 48 = .ok (.putfield 108, 3) := by decide +kernel
theorem dX7_run_51 : decode cX7_run 51 = .ok (.iconst 2, 1) := by decide +kernel
theorem dX7_run_52 : decode cX7_run 52 = .ok (.ireturn, 1) := by decide +kernel
theorem dX7_run_53 : decode cX7_run 53 = .ok (.aload_n 0, 1) := by decide +kernel
theorem dX7_run_54 : decode cX7_run 54 = .ok (.iload_n 2, 1) := by decide +kernel
theorem dX7_run_55 : decode cX7_run 55 = .ok (.ldc 23, 2) := by decide +kernel
theorem dX7_run_57 : decode cX7_run 57 = .ok (.aload_n 0, 1) := by decide +kernel
theorem dX7_run_58 : decode cX7_run 58 = .ok (.getfield 111, 3) := by decide +kernel
theorem dX7_run_61 : decode cX7_run 61 = .ok (.isub, 1) := by decide +kernel
theorem dX7_run_62 : decode cX7_run 62 = .ok (.if_icmp .ge 7, 3) := by decide +kernel
theorem dX7_run_65 : decode cX7_run 65 = .ok (.iload_n 2, 1) := by decide +kernel
theorem dX7_run_66 : decode cX7_run 66 = .ok (.goto 10, 3) := by decide +kernel
theorem dX7_run_69 : decode cX7_run 69 = .ok (.ldc 23, 2) := by decide +kernel
theorem dX7_run_71 : decode cX7_run 71 = .ok (.aload_n 0, 1) := by decide +kernel
theorem dX7_run_72 : decode cX7_run 72 = .ok (.getfield 111, 3) := by decide +kernel
theorem dX7_run_75 : decode cX7_run 75 = .ok (.isub, 1) := by decide +kernel
theorem dX7_run_76 : decode cX7_run 76 = .ok (.putfield 92, 3) := by decide +kernel
theorem dX7_run_79 : decode cX7_run 79 = .ok (.aload_n 0, 1) := by decide +kernel
theorem dX7_run_80 : decode cX7_run 80 = .ok (.iconst 0, 1) := by decide +kernel
theorem dX7_run_81 : decode cX7_run 81 = .ok (.putfield 82, 3) := by decide +kernel
theorem dX7_run_84 : decode cX7_run 84 = .ok (.aload_n 0, 1) := by decide +kernel
theorem dX7_run_85 : decode cX7_run 85 = .ok (.iconst (-1), 1) := by decide +kernel
theorem dX7_run_86 : decode cX7_run 86 = .ok (.putfield 114, 3) := by decide +kernel
theorem dX7_run_89 : decode cX7_run 89 = .ok (.aload_n 0, 1) := by decide +kernel
theorem dX7_run_90 : decode cX7_run 90 = .ok (.iconst 0, 1) := by decide +kernel
theorem dX7_run_91 : decode cX7_run 91 = .ok (.putfield 98, 3) := by decide +kernel
theorem dX7_run_94 : decode cX7_run 94 = .ok (.aload_n 0, 1) := by decide +kernel
theorem dX7_run_95 : decode cX7_run 95 = .ok (.iload_n 1, 1) := by decide +kernel
theorem dX7_run_96 : decode cX7_run 96 = .ok (.invokevirtual 104, 3) := by decide +kernel
theorem dX7_run_99 : decode cX7_run 99 = .ok (.aload_n 0, 1) := by decide +kernel
theorem dX7_run_100 : decode cX7_run 100 = .ok (.getfield 98, 3) := by decide +kernel
theorem dX7_run_103 : decode cX7_run 103 = .ok (.ifCond .le 49, 3) := by decide +kernel
theorem dX7_run_106 : decode cX7_run 106 = .ok (.aload_n 0, 1) := by decide +kernel
theorem dX7_run_107 : decode cX7_run 107 = .ok (.getfield 82, 3) := by decide +kernel
theorem dX7_run_110 : decode cX7_run 110 = .ok (.ifCond .lt 42, 3) := by decide +kernel
theorem dX7_run_113 : decode cX7_run 113 = .ok (.aload_n 0, 1) := by decide +kernel
theorem dX7_run_114 : decode cX7_run 114 = .ok (.getfield 82, 3) := by decide +kernel
theorem dX7_run_117 : decode cX7_run 117 = .ok (.ifCond .le 19, 3) := by decide +kernel
theorem dX7_run_120 : decode cX7_run 120 = .ok (.aload_n 0, 1) := by decide +kernel
theorem dX7_run_121 : decode cX7_run 121 = .ok (.aload_n 0, 1) := by decide +kernel
theorem dX7_run_122 : decode cX7_run 122 = .ok (.getfield 46, 3) := by decide +kernel
theorem dX7_run_125 : decode cX7_run 125 = .ok (.aload_n 0, 1) := by decide +kernel
theorem dX7_run_126 : decode cX7_run 126 = .ok (.getfield 98, 3) := by decide +kernel
theorem dX7_run_129 : decode cX7_run 129 = .ok (.iaload, 1) := by decide +kernel
theorem dX7_run_130 : decode cX7_run 130 = .ok (.invokevirtual 117, 3) := by decide +kernel
theorem dX7_run_133 : decode cX7_run 133 = .ok (.goto (-34), 3) := by decide +kernel
theorem dX7_run_136 : decode cX7_run 136 = .ok (.aload_n 0, 1) := by decide +kernel
theorem dX7_run_137 : decode cX7_run 137 = .ok (.aload_n 0, 1) := by decide +kernel
theorem dX7_run_138 : decode cX7_run 138 = .ok (.getfield 46, 3) := by decide +kernel
theorem dX7_run_141 : decode cX7_run 141 = .ok (.aload_n 0, 1) := by decide +kernel
theorem dX7_run_142 : decode cX7_run 142 = .ok (.getfield 98, 3) := by decide +kernel
theorem dX7_run_145 : decode cX7_run 145 = .ok (.iaload, 1) := by decide +kernel
theorem dX7_run_146 : decode cX7_run 146 = .ok (.invokevirtual 120, 3) := by decide +kernel
theorem dX7_run_149 : decode cX7_run 149 = .ok (.goto (-50), 3) := by decide +kernel
theorem dX7_run_152 : decode cX7_run 152 = .ok (.aload_n 0, 1) := by decide +kernel
theorem dX7_run_153 : decode cX7_run 153 = .ok (.dup, 1) := by decide +kernel
theorem dX7_run_154 : decode cX7_run 154 = .ok (.getfield 111, 3) := by decide +kernel
theorem dX7_run_157 : decode cX7_run 157 = .ok (.aload_n 0, 1) := by decide +kernel
theorem dX7_run_158 : decode cX7_run 158 = .ok (.getfield 95, 3) := by decide +kernel
theorem dX7_run_161 : decode cX7_run 161 = .ok (.iadd, 1) := by decide +kernel
theorem dX7_run_162 : decode cX7_run 162 = .ok (.putfield 111, 3) := by decide +kernel
theorem dX7_run_165 : decode cX7_run 165 = .ok (.aload_n 0, 1) := by decide +kernel
theorem dX7_run_166 : decode cX7_run 166 = .ok (.getfield 82, 3) := by decide +kernel
theorem dX7_run_169 : decode cX7_run 169 = .ok (.ifCond .ge 5, 3) := by decide +kernel
theorem dX7_run_172 : decode cX7_run 172 = .ok (.iconst (-1), 1) := by decide +kernel
theorem dX7_run_173 : decode cX7_run 173 = .ok (.ireturn, 1) := by decide +kernel
theorem dX7_run_174 : decode cX7_run 174 = .ok (.aload_n 0, 1) := by decide +kernel
theorem dX7_run_175 : decode cX7_run 175 = .ok (.getfield 82, 3) := by decide +kernel
theorem dX7_run_178 : decode cX7_run 178 = .ok (.ifCond .le 26, 3) := by decide +kernel
theorem dX7_run_181 : decode cX7_run 181 = .ok (.aload_n 0, 1) := by decide +kernel
theorem dX7_run_182 : decode cX7_run 182 = .ok (.aload_n 0, 1) := by decide +kernel
theorem dX7_run_183 : decode cX7_run 183 = .ok (.getfield 82, 3) := by decide +kernel
theorem dX7_run_186 : decode cX7_run 186 = .ok (.putfield 108, 3) := by decide +kernel
theorem dX7_run_189 : decode cX7_run 189 = .ok (.aload_n 0, 1) := by decide +kernel
theorem dX7_run_190 : decode cX7_run 190 = .ok (.aload_n 0, 1) := by decide +kernel
theorem dX7_run_191 : decode cX7_run 191 = .ok (.getfield 85, 3) := by decide +kernel
theorem dX7_run_194 : decode cX7_run 194 = .ok (.putfield 61, 3) := by decide +kernel
theorem dX7_run_197 : decode cX7_run 197 = .ok (.iconst 1, 1) := by decide +kernel
theorem dX7_run_198 : decode cX7_run 198 = .ok (.aload_n 0, 1) := by decide +kernel
theorem dX7_run_199 : decode cX7_run 199 = .ok (.getfield 82, 3) := by decide +kernel
theorem dX7_run_202 : decode cX7_run 202 = .ok (.iadd, 1) := by decide +kernel
theorem dX7_run_203 : decode cX7_run 203 = .ok (.ireturn, 1) := by decide +kernel
theorem dX7_run_204 : decode cX7_run 204 = .ok (.aload_n 0, 1) := by decide +kernel
theorem dX7_run_205 : decode cX7_run 205 = .ok (.aload_n 0, 1) := by decide +kernel
theorem dX7_run_206 : decode cX7_run 206 = .ok (.getfield 114, 3) := by decide +kernel
theorem dX7_run_209 : decode cX7_run 209 = .ok (.putfield 58, 3) := by decide +kernel
theorem dX7_run_212 : decode cX7_run 212 = .ok (.iconst 0, 1) := by decide +kernel
theorem dX7_run_213 : decode cX7_run 213 = .ok (.ireturn, 1) := by decide +kernel
theorem dX7_outward_0 : decode cX7_outward 0 = .ok (.aload_n 0, 1) := by decide +kernel
theorem dX7_outward_1 : decode cX7_outward 1 = .ok (.getfield 13, 3) := by decide +kernel
theorem dX7_outward_4 : decode cX7_outward 4 = .ok (.iload_n 1, 1) := by decide +kernel
theorem dX7_outward_5 : decode cX7_outward 5 = .ok (.iaload, 1) := by decide +kernel
theorem dX7_outward_6 : decode cX7_outward 6 = .ok (.bipush 15, 2) := by decide +kernel
theorem dX7_outward_8 : decode cX7_outward 8 = .ok (.if_icmp .ne 38, 3) := by decide +kernel
theorem dX7_outward_11 : decode cX7_outward 11 = .ok (.aload_n 0, 1) := by decide +kernel
theorem dX7_outward_12 : decode cX7_outward 12 = .ok (.getfield 49, 3) := by decide +kernel
theorem dX7_outward_15 : decode cX7_outward 15 = .ok (.aload_n 0, 1) := by decide +kernel
theorem dX7_outward_16 : decode cX7_outward 16 = .ok (.getfield 98, 3) := by decide +kernel
theorem dX7_outward_19 : decode cX7_outward 19 = .ok (.iaload, 1) := by decide +kernel
theorem dX7_outward_20 : decode cX7_outward 20 = .ok (.iconst 1, 1) := by decide +kernel
theorem dX7_outward_21 : decode cX7_outward 21 = .ok (.if_icmp .ne 25, 3) := by decide +kernel
theorem dX7_outward_24 : decode cX7_outward 24 = .ok (.aload_n 0, 1) := by decide +kernel
theorem dX7_outward_25 : decode cX7_outward 25 = .ok (.iload_n 1, 1) := by decide +kernel
theorem dX7_outward_26 : decode cX7_outward 26 = .ok (.iconst 1, 1) := by decide +kernel
theorem dX7_outward_27 : decode cX7_outward 27 = .ok (.invokevirtual 101, 3) := by decide +kernel
theorem dX7_outward_30 : decode cX7_outward 30 = .ok (.ifCond .eq 27, 3) := by decide +kernel
theorem dX7_outward_33 : decode cX7_outward 33 = .ok (.aload_n 0, 1) := by decide +kernel
theorem dX7_outward_34 : decode cX7_outward 34 = .ok (.iload_n 1, 1) := by decide +kernel
theorem dX7_outward_35 : decode cX7_outward 35 = .ok (.iconst 1, 1) := by decide +kernel
theorem dX7_outward_36 : decode cX7_outward 36 = .ok (.invokevirtual 101, 3) := by decide +kernel
theorem dX7_outward_39 : decode cX7_outward 39 = .ok (.aload_n 0, 1) := by decide +kernel
theorem dX7_outward_40 : decode cX7_outward 40 = .ok (.getfield 82, 3) := by decide +kernel
theorem dX7_outward_43 : decode cX7_outward 43 = .ok (.if_icmp .eq 14, 3) := by decide +kernel
theorem dX7_outward_46 : decode cX7_outward 46 = .ok (.aload_n 0, 1) := by decide +kernel
theorem dX7_outward_47 : decode cX7_outward 47 = .ok (.dup, 1) := by decide +kernel
theorem dX7_outward_48 : decode cX7_outward 48 = .ok (.getfield 98, 3) := by decide +kernel
theorem dX7_outward_51 : decode cX7_outward 51 = .ok (.iconst 1, 1) := by decide +kernel
theorem dX7_outward_52 : decode cX7_outward 52 = .ok (.isub, 1) := by decide +kernel
theorem dX7_outward_53 : decode cX7_outward 53 = .ok (.putfield 98, 3) := by decide +kernel
theorem dX7_outward_56 : decode cX7_outward 56 = .ok (.return_, 1) := by decide +kernel
theorem dX7_outward_57 : decode cX7_outward 57 = .ok (.aload_n 0, 1) := by decide +kernel
theorem dX7_outward_58 : decode cX7_outward 58 = .ok (.getfield 39, 3) := by decide +kernel
theorem dX7_outward_61 : decode cX7_outward 61 = .ok (.iconst 0, 1) := by decide +kernel
theorem dX7_outward_62 : decode cX7_outward 62 = .ok (.aload_n 0, 1) := by decide +kernel
theorem dX7_outward_63 : decode cX7_outward 63 = .ok (.aload_n 0, 1) := by decide +kernel
theorem dX7_outward_64 : decode cX7_outward 64 = .ok (.getfield 82, 3) := by decide +kernel
theorem dX7_outward_67 : decode cX7_outward 67 = .ok (.i2l, 1) := by decide +kernel
theorem dX7_outward_68 : decode cX7_outward 68 = .ok (.invokevirtual 123, 3) := by decide +kernel
theorem dX7_outward_71 : decode cX7_outward 71 = .ok (.iastore, 1) := by decide +kernel
theorem dX7_outward_72 : decode cX7_outward 72 = .ok (.aload_n 0, 1) := by decide +kernel
theorem dX7_outward_73 : decode cX7_outward 73 = .ok (.iconst 0, 1) := by decide +kernel
theorem dX7_outward_74 : decode cX7_outward 74 = .ok (.putfield 82, 3) := by decide +kernel
theorem dX7_outward_77 : decode cX7_outward 77 = .ok (.aload_n 0, 1) := by decide +kernel
theorem dX7_outward_78 : decode cX7_outward 78 = .ok (.getfield 49, 3) := by decide +kernel
theorem dX7_outward_81 : decode cX7_outward 81 = .ok (.aload_n 0, 1) := by decide +kernel
theorem dX7_outward_82 : decode cX7_outward 82 = .ok (.getfield 98, 3) := by decide +kernel
theorem dX7_outward_85 : decode cX7_outward 85 = .ok (.iconst 2, 1) := by decide +kernel
theorem dX7_outward_86 : decode cX7_outward 86 = .ok (.iastore, 1) := by decide +kernel
theorem dX7_outward_87 : decode cX7_outward 87 = .ok (.aload_n 0, 1) := by decide +kernel
theorem dX7_outward_88 : decode cX7_outward 88 = .ok (.iload_n 1, 1) := by decide +kernel
theorem dX7_outward_89 : decode cX7_outward 89 = .ok (.iconst 2, 1) := by decide +kernel
theorem dX7_outward_90 : decode cX7_outward 90 = .ok (.invokevirtual 127, 3) := by decide +kernel
theorem dX7_outward_93 : decode cX7_outward 93 = .ok (.return_, 1) := by decide +kernel
theorem dX7_forward_0 : decode cX7_forward 0 = .ok (.aload_n 0, 1) := by decide +kernel
theorem dX7_forward_1 : decode cX7_forward 1 = .ok (.getfield 13, 3) := by decide +kernel
theorem dX7_forward_4 : decode cX7_forward 4 = .ok (.iload_n 1, 1) := by decide +kernel
theorem dX7_forward_5 : decode cX7_forward 5 = .ok (.iaload, 1) := by decide +kernel
theorem dX7_forward_6 : decode cX7_forward 6 = .ok (.bipush 15, 2) := by decide +kernel
theorem dX7_forward_8 : decode cX7_forward 8 = .ok (.if_icmp .ne 36, 3) := by decide +kernel
theorem dX7_forward_11 : decode cX7_forward 11 = .ok (.aload_n 0, 1) := by decide +kernel
theorem dX7_forward_12 : decode cX7_forward 12 = .ok (.getfield 49, 3) := by decide +kernel
theorem dX7_forward_15 : decode cX7_forward 15 = .ok (.aload_n 0, 1) := by decide +kernel
theorem dX7_forward_16 : decode cX7_forward 16 = .ok (.getfield 98, 3) := by decide +kernel
theorem dX7_forward_19 : decode cX7_forward 19 = .ok (.iaload, 1) := by decide +kernel
theorem dX7_forward_20 : decode cX7_forward 20 = .ok (.ifCond .le 16, 3) := by decide +kernel
theorem dX7_forward_23 : decode cX7_forward 23 = .ok (.aload_n 0, 1) := by decide +kernel
theorem dX7_forward_24 : decode cX7_forward 24 = .ok (.dup, 1) := by decide +kernel
theorem dX7_forward_25 : decode cX7_forward 25 = .ok (.getfield 98, 3) := by decide +kernel
theorem dX7_forward_28 : decode cX7_forward 28 = .ok (.iconst 1, 1) := by decide +kernel
theorem dX7_forward_29 : decode cX7_forward 29 = .ok (.isub, 1) := by decide +kernel
theorem dX7_forward_30 : decode cX7_forward 30 = .ok (.putfield 98, 3) := by decide +kernel
theorem dX7_forward_33 : decode cX7_forward 33 = .ok (.goto 54, 3) := by decide +kernel
theorem dX7_forward_36 : decode cX7_forward 36 = .ok (.aload_n 0, 1) := by decide +kernel
theorem dX7_forward_37 : decode cX7_forward 37 = .ok (.iload_n 1, 1) := by decide +kernel
theorem dX7_forward_38 : decode cX7_forward 38 = .ok (.invokevirtual 131, 3) := by decide +kernel
theorem dX7_forward_41 : decode cX7_forward 41 = .ok (.goto 46, 3) := by decide +kernel
theorem dX7_forward_44 : decode cX7_forward 44 = .ok (.aload_n 0, 1) := by decide +kernel
theorem dX7_forward_45 : decode cX7_forward 45 = .ok (.getfield 13, 3) := by decide +kernel
theorem dX7_forward_48 : decode cX7_forward 48 = .ok (.iload_n 1, 1) := by decide +kernel
theorem dX7_forward_49 : decode cX7_forward 49 = .ok (.iaload, 1) := by decide +kernel
theorem dX7_forward_50 : decode cX7_forward 50 = .ok (.bipush 19, 2) := by decide +kernel
theorem dX7_forward_52 : decode cX7_forward 52 = .ok (.if_icmp .ne 11, 3) := by decide +kernel
theorem dX7_forward_55 : decode cX7_forward 55 = .ok (.aload_n 0, 1) := by decide +kernel
theorem dX7_forward_56 : decode cX7_forward 56 = .ok (.iload_n 1, 1) := by decide +kernel
theorem dX7_forward_57 : decode cX7_forward 57 = .ok (.invokevirtual 134, 3) := by decide +kernel
theorem dX7_forward_60 : decode cX7_forward 60 = .ok (.goto 27, 3) := by decide +kernel
theorem dX7_forward_63 : decode cX7_forward 63 = .ok (.aload_n 0, 1) := by decide +kernel
theorem dX7_forward_64 : decode cX7_forward 64 = .ok (.getfield 13, 3) := by decide +kernel
theorem dX7_forward_67 : decode cX7_forward 67 = .ok (.iload_n 1, 1) := by decide +kernel
theorem dX7_forward_68 : decode cX7_forward 68 = .ok (.iaload, 1) := by decide +kernel
theorem dX7_forward_69 : decode cX7_forward 69 = .ok (.bipush 20, 2) := by decide +kernel
theorem dX7_forward_71 : decode cX7_forward 71 = .ok (.if_icmp .ne 11, 3) := by decide +kernel
theorem dX7_forward_74 : decode cX7_forward 74 = .ok (.aload_n 0, 1) := by decide +kernel
theorem dX7_forward_75 : decode cX7_forward 75 = .ok (.iload_n 1, 1) := by decide +kernel
theorem dX7_forward_76 : decode cX7_forward 76 = .ok (.invokevirtual 137, 3) := by decide +kernel
theorem dX7_forward_79 : decode cX7_forward 79 = .ok (.goto 8, 3) := by decide +kernel
theorem dX7_forward_82 : decode cX7_forward 82 = .ok (.aload_n 0, 1) := by decide +kernel
theorem dX7_forward_83 : decode cX7_forward 83 = .ok (.iload_n 1, 1) := by decide +kernel
theorem dX7_forward_84 : decode cX7_forward 84 = .ok (.invokevirtual 140, 3) := by decide +kernel
theorem dX7_forward_87 : decode cX7_forward 87 = .ok (.return_, 1) := by decide +kernel
theorem dX7_part0_0 : decode cX7_part0 0 = .ok (.aload_n 0, 1) := by decide +kernel
theorem dX7_part0_1 : decode cX7_part0 1 = .ok (.getfield 49, 3) := by decide +kernel
theorem dX7_part0_4 : decode cX7_part0 4 = .ok (.aload_n 0, 1) := by decide +kernel
theorem dX7_part0_5 : decode cX7_part0 5 = .ok (.getfield 98, 3) := by decide +kernel
theorem dX7_part0_8 : decode cX7_part0 8 = .ok (.iconst 1, 1) := by decide +kernel
theorem dX7_part0_9 : decode cX7_part0 9 = .ok (.iastore, 1) := by decide +kernel
theorem dX7_part0_10 : decode cX7_part0 10 = .ok (.aload_n 0, 1) := by decide +kernel
theorem dX7_part0_11 : decode cX7_part0 11 = .ok (.iload_n 1, 1) := by decide +kernel
theorem dX7_part0_12 : decode cX7_part0 12 = .ok (.iconst 0, 1) := by decide +kernel
theorem dX7_part0_13 : decode cX7_part0 13 = .ok (.invokevirtual 127, 3) := by decide +kernel
theorem dX7_part0_16 : decode cX7_part0 16 = .ok (.return_, 1) := by decide +kernel
theorem dX7_choose_0 : decode cX7_choose 0 = .ok (.aload_n 0, 1) := by decide +kernel
theorem dX7_choose_1 : decode cX7_choose 1 = .ok (.getfield 49, 3) := by decide +kernel
theorem dX7_choose_4 : decode cX7_choose 4 = .ok (.aload_n 0, 1) := by decide +kernel
theorem dX7_choose_5 : decode cX7_choose 5 = .ok (.getfield 98, 3) := by decide +kernel
theorem dX7_choose_8 : decode cX7_choose 8 = .ok (.iaload, 1) := by decide +kernel
theorem dX7_choose_9 : decode cX7_choose 9 = .ok (.ifCond .ne 11, 3) := by decide +kernel
theorem dX7_choose_12 : decode cX7_choose 12 = .ok (.aload_n 0, 1) := by decide +kernel
theorem dX7_choose_13 : decode cX7_choose 13 = .ok (.iload_n 1, 1) := by decide +kernel
theorem dX7_choose_14 : decode cX7_choose 14 = .ok (.invokevirtual 131, 3) := by decide +kernel
theorem dX7_choose_17 : decode cX7_choose 17 = .ok (.goto 76, 3) := by decide +kernel
theorem dX7_choose_20 : decode cX7_choose 20 = .ok (.aload_n 0, 1) := by decide +kernel
theorem dX7_choose_21 : decode cX7_choose 21 = .ok (.getfield 49, 3) := by decide +kernel
theorem dX7_choose_24 : decode cX7_choose 24 = .ok (.aload_n 0, 1) := by decide +kernel
theorem dX7_choose_25 : decode cX7_choose 25 = .ok (.getfield 98, 3) := by decide +kernel
theorem dX7_choose_28 : decode cX7_choose 28 = .ok (.iaload, 1) := by decide +kernel
theorem dX7_choose_29 : decode cX7_choose 29 = .ok (.iconst 2, 1) := by decide +kernel
theorem dX7_choose_30 : decode cX7_choose 30 = .ok (.if_icmp .ne 16, 3) := by decide +kernel
theorem dX7_choose_33 : decode cX7_choose 33 = .ok (.aload_n 0, 1) := by decide +kernel
theorem dX7_choose_34 : decode cX7_choose 34 = .ok (.dup, 1) := by decide +kernel
theorem dX7_choose_35 : decode cX7_choose 35 = .ok (.getfield 98, 3) := by decide +kernel
theorem dX7_choose_38 : decode cX7_choose 38 = .ok (.iconst 1, 1) := by decide +kernel
theorem dX7_choose_39 : decode cX7_choose 39 = .ok (.isub, 1) := by decide +kernel
theorem dX7_choose_40 : decode cX7_choose 40 = .ok (.putfield 98, 3) := by decide +kernel
theorem dX7_choose_43 : decode cX7_choose 43 = .ok (.goto 50, 3) := by decide +kernel
theorem dX7_choose_46 : decode cX7_choose 46 = .ok (.aload_n 0, 1) := by decide +kernel
theorem dX7_choose_47 : decode cX7_choose 47 = .ok (.iload_n 1, 1) := by decide +kernel
theorem dX7_choose_48 : decode cX7_choose 48 = .ok (.aload_n 0, 1) := by decide +kernel
theorem dX7_choose_49 : decode cX7_choose 49 = .ok (.getfield 114, 3) := by decide +kernel
theorem dX7_choose_52 : decode cX7_choose 52 = .ok (.iconst 1, 1) := by decide +kernel
theorem dX7_choose_53 : decode cX7_choose 53 = .ok (.invokevirtual 143, 3) := by decide +kernel
theorem dX7_choose_56 : decode cX7_choose 56 = .ok (.ifCond .eq 37, 3) := by decide +kernel
theorem dX7_choose_59 : decode cX7_choose 59 = .ok (.aload_n 0, 1) := by decide +kernel
theorem dX7_choose_60 : decode cX7_choose 60 = .ok (.getfield 49, 3) := by decide +kernel
theorem dX7_choose_63 : decode cX7_choose 63 = .ok (.aload_n 0, 1) := by decide +kernel
theorem dX7_choose_64 : decode cX7_choose 64 = .ok (.getfield 98, 3) := by decide +kernel
theorem dX7_choose_67 : decode cX7_choose 67 = .ok (.iconst 2, 1) := by decide +kernel
theorem dX7_choose_68 : decode cX7_choose 68 = .ok (.iastore, 1) := by decide +kernel
theorem dX7_choose_69 : decode cX7_choose 69 = .ok (.aload_n 0, 1) := by decide +kernel
theorem dX7_choose_70 : decode cX7_choose 70 = .ok (.iload_n 1, 1) := by decide +kernel
theorem dX7_choose_71 : decode cX7_choose 71 = .ok (.aload_n 0, 1) := by decide +kernel
theorem dX7_choose_72 : decode cX7_choose 72 = .ok (.getfield 33, 3) := by decide +kernel
theorem dX7_choose_75 : decode cX7_choose 75 = .ok (.aload_n 0, 1) := by decide +kernel
theorem dX7_choose_76 : decode cX7_choose 76 = .ok (.getfield 114, 3) := by decide +kernel
theorem dX7_choose_79 : decode cX7_choose 79 = .ok (.laload, 1) := by decide +kernel
theorem dX7_choose_80 : decode cX7_choose 80 = .ok (.lconst 0, 1) := by decide +kernel
theorem dX7_choose_81 : decode cX7_choose 81 = .ok (.lcmp, 1) := by decide +kernel
theorem dX7_choose_82 : decode cX7_choose 82 = .ok (.ifCond .eq 7, 3) := by decide +kernel
theorem dX7_choose_85 : decode cX7_choose 85 = .ok (.iconst 1, 1) := by decide +kernel
theorem dX7_choose_86 : decode cX7_choose 86 = .ok (.goto 4, 3) := by decide +kernel
theorem dX7_choose_89 : decode cX7_choose 89 = .ok (.iconst 2, 1) := by decide +kernel
theorem dX7_choose_90 : decode cX7_choose 90 = .ok (.invokevirtual 127, 3) := by decide +kernel
theorem dX7_choose_93 : decode cX7_choose 93 = .ok (.return_, 1) := by decide +kernel
theorem dX7_again_0 : decode cX7_again 0 = .ok (.aload_n 0, 1) := by decide +kernel
theorem dX7_again_1 : decode cX7_again 1 = .ok (.getfield 49, 3) := by decide +kernel
theorem dX7_again_4 : decode cX7_again 4 = .ok (.aload_n 0, 1) := by decide +kernel
theorem dX7_again_5 : decode cX7_again 5 = .ok (.getfield 98, 3) := by decide +kernel
theorem dX7_again_8 : decode cX7_again 8 = .ok (.iaload, 1) := by decide +kernel
theorem dX7_again_9 : decode cX7_again 9 = .ok (.ifCond .ne 9, 3) := by decide +kernel
theorem dX7_again_12 : decode cX7_again 12 = .ok (.aload_n 0, 1) := by decide +kernel
theorem dX7_again_13 : decode cX7_again 13 = .ok (.iload_n 1, 1) := by decide +kernel
theorem dX7_again_14 : decode cX7_again 14 = .ok (.invokevirtual 131, 3) := by decide +kernel
theorem dX7_again_17 : decode cX7_again 17 = .ok (.return_, 1) := by decide +kernel
theorem dX7_again_18 : decode cX7_again 18 = .ok (.aload_n 0, 1) := by decide +kernel
theorem dX7_again_19 : decode cX7_again 19 = .ok (.getfield 49, 3) := by decide +kernel
theorem dX7_again_22 : decode cX7_again 22 = .ok (.aload_n 0, 1) := by decide +kernel
theorem dX7_again_23 : decode cX7_again 23 = .ok (.getfield 98, 3) := by decide +kernel
theorem dX7_again_26 : decode cX7_again 26 = .ok (.iaload, 1) := by decide +kernel
theorem dX7_again_27 : decode cX7_again 27 = .ok (.iconst 1, 1) := by decide +kernel
theorem dX7_again_28 : decode cX7_again 28 = .ok (.if_icmp .ne 53, 3) := by decide +kernel
theorem dX7_again_31 : decode cX7_again 31 = .ok (.aload_n 0, 1) := by decide +kernel
theorem dX7_again_32 : decode cX7_again 32 = .ok (.iload_n 1, 1) := by decide +kernel
theorem dX7_again_33 : decode cX7_again 33 = .ok (.aload_n 0, 1) := by decide +kernel
theorem dX7_again_34 : decode cX7_again 34 = .ok (.getfield 114, 3) := by decide +kernel
theorem dX7_again_37 : decode cX7_again 37 = .ok (.iconst 1, 1) := by decide +kernel
theorem dX7_again_38 : decode cX7_again 38 = .ok (.invokevirtual 143, 3) := by decide +kernel
theorem dX7_again_41 : decode cX7_again 41 = .ok (.ifCond .ne 4, 3) := by decide +kernel
theorem dX7_again_44 : decode cX7_again 44 = .ok (.return_, 1) := by decide +kernel
theorem dX7_again_45 : decode cX7_again 45 = .ok (.aload_n 0, 1) := by decide +kernel
theorem dX7_again_46 : decode cX7_again 46 = .ok (.getfield 55, 3) := by decide +kernel
theorem dX7_again_49 : decode cX7_again 49 = .ok (.aload_n 0, 1) := by decide +kernel
theorem dX7_again_50 : decode cX7_again 50 = .ok (.getfield 98, 3) := by decide +kernel
theorem dX7_again_53 : decode cX7_again 53 = .ok (.aload_n 0, 1) := by decide +kernel
theorem dX7_again_54 : decode cX7_again 54 = .ok (.getfield 33, 3) := by decide +kernel
theorem dX7_again_57 : decode cX7_again 57 = .ok (.aload_n 0, 1) := by decide +kernel
theorem dX7_again_58 : decode cX7_again 58 = .ok (.getfield 114, 3) := by decide +kernel
theorem dX7_again_61 : decode cX7_again 61 = .ok (.laload, 1) := by decide +kernel
theorem dX7_again_62 : decode cX7_again 62 = .ok (.lastore, 1) := by decide +kernel
theorem dX7_again_63 : decode cX7_again 63 = .ok (.aload_n 0, 1) := by decide +kernel
theorem dX7_again_64 : decode cX7_again 64 = .ok (.iconst (-1), 1) := by decide +kernel
theorem dX7_again_65 : decode cX7_again 65 = .ok (.putfield 114, 3) := by decide +kernel
theorem dX7_again_68 : decode cX7_again 68 = .ok (.aload_n 0, 1) := by decide +kernel
theorem dX7_again_69 : decode cX7_again 69 = .ok (.getfield 49, 3) := by decide +kernel
theorem dX7_again_72 : decode cX7_again 72 = .ok (.aload_n 0, 1) := by decide +kernel
theorem dX7_again_73 : decode cX7_again 73 = .ok (.getfield 98, 3) := by decide +kernel
theorem dX7_again_76 : decode cX7_again 76 = .ok (.iconst 2, 1) := by decide +kernel
theorem dX7_again_77 : decode cX7_again 77 = .ok (.iastore, 1) := by decide +kernel
theorem dX7_again_78 : decode cX7_again 78 = .ok (.goto 16, 3) := by decide +kernel
theorem dX7_again_81 : decode cX7_again 81 = .ok (.aload_n 0, 1) := by decide +kernel
theorem dX7_again_82 : decode cX7_again 82 = .ok (.getfield 55, 3) := by decide +kernel
theorem dX7_again_85 : decode cX7_again 85 = .ok (.aload_n 0, 1) := by decide +kernel
theorem dX7_again_86 : decode cX7_again 86 = .ok (.getfield 98, 3) := by decide +kernel
theorem dX7_again_89 : decode cX7_again 89 = .ok (.dup2, 1) := by decide +kernel
theorem dX7_again_90 : decode cX7_again 90 = .ok (.laload, 1) := by decide +kernel
theorem dX7_again_91 : decode cX7_again 91 = .ok (.lconst 1, 1) := by decide +kernel
theorem dX7_again_92 : decode cX7_again 92 = .ok (.lsub, 1) := by decide +kernel
theorem dX7_again_93 : decode cX7_again 93 = .ok (.lastore, 1) := by decide +kernel
theorem dX7_again_94 : decode cX7_again 94 = .ok (.aload_n 0, 1) := by decide +kernel
theorem dX7_again_95 : decode cX7_again 95 = .ok (.getfield 55, 3) := by decide +kernel
theorem dX7_again_98 : decode cX7_again 98 = .ok (.aload_n 0, 1) := by decide +kernel
theorem dX7_again_99 : decode cX7_again 99 = .ok (.getfield 98, 3) := by decide +kernel
theorem dX7_again_102 : decode cX7_again 102 = .ok (.laload, 1) := by decide +kernel
theorem dX7_again_103 : decode cX7_again 103 = .ok (.lconst 0, 1) := by decide +kernel
theorem dX7_again_104 : decode cX7_again 104 = .ok (.lcmp, 1) := by decide +kernel
theorem dX7_again_105 : decode cX7_again 105 = .ok (.ifCond .le 12, 3) := by decide +kernel
theorem dX7_again_108 : decode cX7_again 108 = .ok (.aload_n 0, 1) := by decide +kernel
theorem dX7_again_109 : decode cX7_again 109 = .ok (.iload_n 1, 1) := by decide +kernel
theorem dX7_again_110 : decode cX7_again 110 = .ok (.iconst 1, 1) := by decide +kernel
theorem dX7_again_111 : decode cX7_again 111 = .ok (.invokevirtual 127, 3) := by decide +kernel
theorem dX7_again_114 : decode cX7_again 114 = .ok (.goto 13, 3) := by decide +kernel
theorem dX7_again_117 : decode cX7_again 117 = .ok (.aload_n 0, 1) := by decide +kernel
theorem dX7_again_118 : decode cX7_again 118 = .ok (.dup, 1) := by decide +kernel
theorem dX7_again_119 : decode cX7_again 119 = .ok (.getfield 98, 3) := by decide +kernel
theorem dX7_again_122 : decode cX7_again 122 = .ok (.iconst 1, 1) := by decide +kernel
theorem dX7_again_123 : decode cX7_again 123 = .ok (.isub, 1) := by decide +kernel
theorem dX7_again_124 : decode cX7_again 124 = .ok (.putfield 98, 3) := by decide +kernel
theorem dX7_again_127 : decode cX7_again 127 = .ok (.return_, 1) := by decide +kernel
theorem dX7_eager_0 : decode cX7_eager 0 = .ok (.aload_n 0, 1) := by decide +kernel
theorem dX7_eager_1 : decode cX7_eager 1 = .ok (.getfield 49, 3) := by decide +kernel
theorem dX7_eager_4 : decode cX7_eager 4 = .ok (.aload_n 0, 1) := by decide +kernel
theorem dX7_eager_5 : decode cX7_eager 5 = .ok (.getfield 98, 3) := by decide +kernel
theorem dX7_eager_8 : decode cX7_eager 8 = .ok (.iaload, 1) := by decide +kernel
theorem dX7_eager_9 : decode cX7_eager 9 = .ok (.istore_n 2, 1) := by decide +kernel
theorem dX7_eager_10 : decode cX7_eager 10 = .ok (.iconst 3, 1) := by decide +kernel
theorem dX7_eager_11 : decode cX7_eager 11 = .ok (.aload_n 0, 1) := by decide +kernel
theorem dX7_eager_12 : decode cX7_eager 12 = .ok (.getfield 98, 3) := by decide +kernel
theorem dX7_eager_15 : decode cX7_eager 15 = .ok (.imul, 1) := by decide +kernel
theorem dX7_eager_16 : decode cX7_eager 16 = .ok (.iconst 3, 1) := by decide +kernel
theorem dX7_eager_17 : decode cX7_eager 17 = .ok (.isub, 1) := by decide +kernel
theorem dX7_eager_18 : decode cX7_eager 18 = .ok (.istore_n 3, 1) := by decide +kernel
theorem dX7_eager_19 : decode cX7_eager 19 = .ok (.iload_n 2, 1) := by decide +kernel
theorem dX7_eager_20 : decode cX7_eager 20 = .ok (.ifCond .le 17, 3) := by decide +kernel
theorem dX7_eager_23 : decode cX7_eager 23 = .ok (.aload_n 0, 1) := by decide +kernel
theorem dX7_eager_24 : decode cX7_eager 24 = .ok (.getfield 52, 3) := by decide +kernel
theorem dX7_eager_27 : decode cX7_eager 27 = .ok (.iload_n 3, 1) := by decide +kernel
theorem dX7_eager_28 : decode cX7_eager 28 = .ok (.iload_n 2, 1) := by decide +kernel
theorem dX7_eager_29 : decode cX7_eager 29 = .ok (.iadd, 1) := by decide +kernel
theorem dX7_eager_30 : decode cX7_eager 30 = .ok (.iconst 1, 1) := by decide +kernel
theorem dX7_eager_31 : decode cX7_eager 31 = .ok (.isub, 1) := by decide +kernel
theorem dX7_eager_32 : decode cX7_eager 32 = .ok (.aload_n 0, 1) := by decide +kernel
theorem dX7_eager_33 : decode cX7_eager 33 = .ok (.getfield 114, 3) := by decide +kernel
theorem dX7_eager_36 : decode cX7_eager 36 = .ok (.iastore, 1) := by decide +kernel
theorem dX7_eager_37 : decode cX7_eager 37 = .ok (.iload_n 2, 1) := by decide +kernel
theorem dX7_eager_38 : decode cX7_eager 38 = .ok (.iconst 3, 1) := by decide +kernel
theorem dX7_eager_39 : decode cX7_eager 39 = .ok (.if_icmp .ge 18, 3) := by decide +kernel
theorem dX7_eager_42 : decode cX7_eager 42 = .ok (.aload_n 0, 1) := by decide +kernel
theorem dX7_eager_43 : decode cX7_eager 43 = .ok (.iload_n 1, 1) := by decide +kernel
theorem dX7_eager_44 : decode cX7_eager 44 = .ok (.iload_n 2, 1) := by decide +kernel
theorem dX7_eager_45 : decode cX7_eager 45 = .ok (.invokevirtual 67, 3) := by decide +kernel
theorem dX7_eager_48 : decode cX7_eager 48 = .ok (.ifCond .ne 9, 3) := by decide +kernel
theorem dX7_eager_51 : decode cX7_eager 51 = .ok (.iinc 2 1, 3) := by decide +kernel
theorem dX7_eager_54 : decode cX7_eager 54 = .ok (.goto (-17), 3) := by decide +kernel
theorem dX7_eager_57 : decode cX7_eager 57 = .ok (.iload_n 2, 1) := by decide +kernel
theorem dX7_eager_58 : decode cX7_eager 58 = .ok (.iconst 3, 1) := by decide +kernel
theorem dX7_eager_59 : decode cX7_eager 59 = .ok (.if_icmp .ge 22, 3) := by decide +kernel
theorem dX7_eager_62 : decode cX7_eager 62 = .ok (.aload_n 0, 1) := by decide +kernel
theorem dX7_eager_63 : decode cX7_eager 63 = .ok (.getfield 49, 3) := by decide +kernel
theorem dX7_eager_66 : decode cX7_eager 66 = .ok (.aload_n 0, 1) := by decide +kernel
theorem dX7_eager_67 : decode cX7_eager 67 = .ok (.getfield 98, 3) := by decide +kernel
theorem dX7_eager_70 : decode cX7_eager 70 = .ok (.iload_n 2, 1) := by decide +kernel
theorem dX7_eager_71 : decode cX7_eager 71 = .ok (.iconst 1, 1) := by decide +kernel
theorem dX7_eager_72 : decode cX7_eager 72 = .ok (.iadd, 1) := by decide +kernel
theorem dX7_eager_73 : decode cX7_eager 73 = .ok (.iastore, 1) := by decide +kernel
theorem dX7_eager_74 : decode cX7_eager 74 = .ok (.aload_n 0, 1) := by decide +kernel
theorem dX7_eager_75 : decode cX7_eager 75 = .ok (.iload_n 1, 1) := by decide +kernel
theorem dX7_eager_76 : decode cX7_eager 76 = .ok (.iload_n 2, 1) := by decide +kernel
theorem dX7_eager_77 : decode cX7_eager 77 = .ok (.invokevirtual 127, 3) := by decide +kernel
theorem dX7_eager_80 : decode cX7_eager 80 = .ok (.return_, 1) := by decide +kernel
theorem dX7_eager_81 : decode cX7_eager 81 = .ok (.aload_n 0, 1) := by decide +kernel
theorem dX7_eager_82 : decode cX7_eager 82 = .ok (.iload_n 1, 1) := by decide +kernel
theorem dX7_eager_83 : decode cX7_eager 83 = .ok (.aload_n 0, 1) := by decide +kernel
theorem dX7_eager_84 : decode cX7_eager 84 = .ok (.getfield 52, 3) := by decide +kernel
