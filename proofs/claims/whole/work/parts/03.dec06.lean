theorem dX7_newRow_37 : decode cX7_newRow 37 = .ok (.sipush 20000, 3) := by decide +kernel
theorem dX7_newRow_40 : decode cX7_newRow 40 = .ok (.aload_n 0, 1) := by decide +kernel
theorem dX7_newRow_41 : decode cX7_newRow 41 = .ok (.getfield 176, 3) := by decide +kernel
theorem dX7_newRow_44 : decode cX7_newRow 44 = .ok (.isub, 1) := by decide +kernel
theorem dX7_newRow_45 : decode cX7_newRow 45 = .ok (.if_icmp .le 11, 3) := by decide +kernel
theorem dX7_newRow_48 : decode cX7_newRow 48 = .ok (.aload_n 0, 1) := by decide +kernel
theorem dX7_newRow_49 : decode cX7_newRow 49 = .ok (.bipush 8, 2) := by decide +kernel
theorem dX7_newRow_51 : decode cX7_newRow 51 = .ok (.iload_n 1, 1) := by decide +kernel
theorem dX7_newRow_52 : decode cX7_newRow 52 = .ok (.invokevirtual 88, 3) := by decide +kernel
theorem dX7_newRow_55 : decode cX7_newRow 55 = .ok (.ireturn, 1) := by decide +kernel
theorem dX7_newRow_56 : decode cX7_newRow 56 = .ok (.aload_n 0, 1) := by decide +kernel
theorem dX7_newRow_57 : decode cX7_newRow 57 = .ok (.iconst 5, 1) := by decide +kernel
theorem dX7_newRow_58 : decode cX7_newRow 58 = .ok (.aload_n 0, 1) := by decide +kernel
theorem dX7_newRow_59 : decode cX7_newRow 59 = .ok (.getfield 176, 3) := by decide +kernel
theorem dX7_newRow_62 : decode cX7_newRow 62 = .ok (.i2l, 1) := by decide +kernel
theorem dX7_newRow_63 : decode cX7_newRow 63 = .ok (.iload_n 2, 1) := by decide +kernel
theorem dX7_newRow_64 : decode cX7_newRow 64 = .ok (.iload_n 3, 1) := by decide +kernel
theorem dX7_newRow_65 : decode cX7_newRow 65 = .ok (.invokevirtual 78, 3) := by decide +kernel
theorem dX7_newRow_68 : decode cX7_newRow 68 = .ok (.istore 4, 2) := by decide +kernel
theorem dX7_newRow_70 : decode cX7_newRow 70 = .ok (.iconst 0, 1) := by decide +kernel
theorem dX7_newRow_71 : decode cX7_newRow 71 = .ok (.istore 5, 2) := by decide +kernel
theorem dX7_newRow_73 : decode cX7_newRow 73 = .ok (.iload 5, 2) := by decide +kernel
theorem dX7_newRow_75 : decode cX7_newRow 75 = .ok (.iload_n 2, 1) := by decide +kernel
theorem dX7_newRow_76 : decode cX7_newRow 76 = .ok (.if_icmp .ge 22, 3) := by decide +kernel
theorem dX7_newRow_79 : decode cX7_newRow 79 = .ok (.aload_n 0, 1) := by decide +kernel
theorem dX7_newRow_80 : decode cX7_newRow 80 = .ok (.getfield 36, 3) := by decide +kernel
theorem dX7_newRow_83 : decode cX7_newRow 83 = .ok (.aload_n 0, 1) := by decide +kernel
theorem dX7_newRow_84 : decode cX7_newRow 84 = .ok (.getfield 176, 3) := by decide +kernel
theorem dX7_newRow_87 : decode cX7_newRow 87 = .ok (.iload 5, 2) := by decide +kernel
theorem dX7_newRow_89 : decode cX7_newRow 89 = .ok (.iadd, 1) := by decide +kernel
theorem dX7_newRow_90 : decode cX7_newRow 90 = .ok (.iconst (-1), 1) := by decide +kernel
theorem dX7_newRow_91 : decode cX7_newRow 91 = .ok (.iastore, 1) := by decide +kernel
theorem dX7_newRow_92 : decode cX7_newRow 92 = .ok (.iinc 5 1, 3) := by decide +kernel
theorem dX7_newRow_95 : decode cX7_newRow 95 = .ok (.goto (-22), 3) := by decide +kernel
theorem dX7_newRow_98 : decode cX7_newRow 98 = .ok (.aload_n 0, 1) := by decide +kernel
theorem dX7_newRow_99 : decode cX7_newRow 99 = .ok (.dup, 1) := by decide +kernel
theorem dX7_newRow_100 : decode cX7_newRow 100 = .ok (.getfield 176, 3) := by decide +kernel
theorem dX7_newRow_103 : decode cX7_newRow 103 = .ok (.iload_n 2, 1) := by decide +kernel
theorem dX7_newRow_104 : decode cX7_newRow 104 = .ok (.iadd, 1) := by decide +kernel
theorem dX7_newRow_105 : decode cX7_newRow 105 = .ok (.putfield 176, 3) := by decide +kernel
theorem dX7_newRow_108 : decode cX7_newRow 108 = .ok (.iload 4, 2) := by decide +kernel
theorem dX7_newRow_110 : decode cX7_newRow 110 = .ok (.ireturn, 1) := by decide +kernel
theorem dX7_inRow_0 : decode cX7_inRow 0 = .ok (.aload_n 0, 1) := by decide +kernel
theorem dX7_inRow_1 : decode cX7_inRow 1 = .ok (.getfield 27, 3) := by decide +kernel
theorem dX7_inRow_4 : decode cX7_inRow 4 = .ok (.iload_n 2, 1) := by decide +kernel
theorem dX7_inRow_5 : decode cX7_inRow 5 = .ok (.iaload, 1) := by decide +kernel
theorem dX7_inRow_6 : decode cX7_inRow 6 = .ok (.iconst (-1), 1) := by decide +kernel
theorem dX7_inRow_7 : decode cX7_inRow 7 = .ok (.if_icmp .ne 10, 3) := by decide +kernel
theorem dX7_inRow_10 : decode cX7_inRow 10 = .ok (.aload_n 0, 1) := by decide +kernel
theorem dX7_inRow_11 : decode cX7_inRow 11 = .ok (.iconst 1, 1) := by decide +kernel
theorem dX7_inRow_12 : decode cX7_inRow 12 = .ok (.iload_n 1, 1) := by decide +kernel
theorem dX7_inRow_13 : decode cX7_inRow 13 = .ok (.invokevirtual 88, 3) := by decide +kernel
theorem dX7_inRow_16 : decode cX7_inRow 16 = .ok (.ireturn, 1) := by decide +kernel
theorem dX7_inRow_17 : decode cX7_inRow 17 = .ok (.iload_n 3, 1) := by decide +kernel
theorem dX7_inRow_18 : decode cX7_inRow 18 = .ok (.ifCond .lt 13, 3) := by decide +kernel
theorem dX7_inRow_21 : decode cX7_inRow 21 = .ok (.iload_n 3, 1) := by decide +kernel
theorem dX7_inRow_22 : decode cX7_inRow 22 = .ok (.aload_n 0, 1) := by decide +kernel
theorem dX7_inRow_23 : decode cX7_inRow 23 = .ok (.getfield 27, 3) := by decide +kernel
theorem dX7_inRow_26 : decode cX7_inRow 26 = .ok (.iload_n 2, 1) := by decide +kernel
theorem dX7_inRow_27 : decode cX7_inRow 27 = .ok (.iaload, 1) := by decide +kernel
theorem dX7_inRow_28 : decode cX7_inRow 28 = .ok (.if_icmp .lt 10, 3) := by decide +kernel
theorem dX7_inRow_31 : decode cX7_inRow 31 = .ok (.aload_n 0, 1) := by decide +kernel
theorem dX7_inRow_32 : decode cX7_inRow 32 = .ok (.iconst 2, 1) := by decide +kernel
theorem dX7_inRow_33 : decode cX7_inRow 33 = .ok (.iload_n 1, 1) := by decide +kernel
theorem dX7_inRow_34 : decode cX7_inRow 34 = .ok (.invokevirtual 88, 3) := by decide +kernel
theorem dX7_inRow_37 : decode cX7_inRow 37 = .ok (.ireturn, 1) := by decide +kernel
theorem dX7_inRow_38 : decode cX7_inRow 38 = .ok (.aload_n 0, 1) := by decide +kernel
theorem dX7_inRow_39 : decode cX7_inRow 39 = .ok (.getfield 33, 3) := by decide +kernel
theorem dX7_inRow_42 : decode cX7_inRow 42 = .ok (.iload_n 2, 1) := by decide +kernel
theorem dX7_inRow_43 : decode cX7_inRow 43 = .ok (.laload, 1) := by decide +kernel
theorem dX7_inRow_44 : decode cX7_inRow 44 = .ok (.l2i, 1) := by decide +kernel
theorem dX7_inRow_45 : decode cX7_inRow 45 = .ok (.iload_n 3, 1) := by decide +kernel
theorem dX7_inRow_46 : decode cX7_inRow 46 = .ok (.iadd, 1) := by decide +kernel
theorem dX7_inRow_47 : decode cX7_inRow 47 = .ok (.istore 5, 2) := by decide +kernel
theorem dX7_inRow_49 : decode cX7_inRow 49 = .ok (.aload_n 0, 1) := by decide +kernel
theorem dX7_inRow_50 : decode cX7_inRow 50 = .ok (.getfield 13, 3) := by decide +kernel
theorem dX7_inRow_53 : decode cX7_inRow 53 = .ok (.iload_n 1, 1) := by decide +kernel
theorem dX7_inRow_54 : decode cX7_inRow 54 = .ok (.iaload, 1) := by decide +kernel
theorem dX7_inRow_55 : decode cX7_inRow 55 = .ok (.bipush 13, 2) := by decide +kernel
theorem dX7_inRow_57 : decode cX7_inRow 57 = .ok (.if_icmp .ne 11, 3) := by decide +kernel
theorem dX7_inRow_60 : decode cX7_inRow 60 = .ok (.aload_n 0, 1) := by decide +kernel
theorem dX7_inRow_61 : decode cX7_inRow 61 = .ok (.getfield 36, 3) := by decide +kernel
theorem dX7_inRow_64 : decode cX7_inRow 64 = .ok (.iload 5, 2) := by decide +kernel
theorem dX7_inRow_66 : decode cX7_inRow 66 = .ok (.iaload, 1) := by decide +kernel
theorem dX7_inRow_67 : decode cX7_inRow 67 = .ok (.ireturn, 1) := by decide +kernel
theorem dX7_inRow_68 : decode cX7_inRow 68 = .ok (.iload 4, 2) := by decide +kernel
theorem dX7_inRow_70 : decode cX7_inRow 70 = .ok (.iconst (-1), 1) := by decide +kernel
theorem dX7_inRow_71 : decode cX7_inRow 71 = .ok (.if_icmp .eq 29, 3) := by decide +kernel
theorem dX7_inRow_74 : decode cX7_inRow 74 = .ok (.aload_n 0, 1) := by decide +kernel
theorem dX7_inRow_75 : decode cX7_inRow 75 = .ok (.getfield 24, 3) := by decide +kernel
theorem dX7_inRow_78 : decode cX7_inRow 78 = .ok (.iload 4, 2) := by decide +kernel
theorem dX7_inRow_80 : decode cX7_inRow 80 = .ok (.iaload, 1) := by decide +kernel
theorem dX7_inRow_81 : decode cX7_inRow 81 = .ok (.iconst 2, 1) := by decide +kernel
theorem dX7_inRow_82 : decode cX7_inRow 82 = .ok (.if_icmp .eq 14, 3) := by decide +kernel
theorem dX7_inRow_85 : decode cX7_inRow 85 = .ok (.aload_n 0, 1) := by decide +kernel
theorem dX7_inRow_86 : decode cX7_inRow 86 = .ok (.getfield 24, 3) := by decide +kernel
theorem dX7_inRow_89 : decode cX7_inRow 89 = .ok (.iload 4, 2) := by decide +kernel
theorem dX7_inRow_91 : decode cX7_inRow 91 = .ok (.iaload, 1) := by decide +kernel
theorem dX7_inRow_92 : decode cX7_inRow 92 = .ok (.iconst 3, 1) := by decide +kernel
theorem dX7_inRow_93 : decode cX7_inRow 93 = .ok (.if_icmp .ne 7, 3) := by decide +kernel
theorem dX7_inRow_96 : decode cX7_inRow 96 = .ok (.iconst 1, 1) := by decide +kernel
theorem dX7_inRow_97 : decode cX7_inRow 97 = .ok (.goto 4, 3) := by decide +kernel
theorem dX7_inRow_100 : decode cX7_inRow 100 = .ok (.iconst 0, 1) := by decide +kernel
theorem dX7_inRow_101 : decode cX7_inRow 101 = .ok (.istore 6, 2) := by decide +kernel
theorem dX7_inRow_103 : decode cX7_inRow 103 = .ok (.iload 4, 2) := by decide +kernel
theorem dX7_inRow_105 : decode cX7_inRow 105 = .ok (.iconst (-1), 1) := by decide +kernel
theorem dX7_inRow_106 : decode cX7_inRow 106 = .ok (.if_icmp .eq 46, 3) := by decide +kernel
theorem dX7_inRow_109 : decode cX7_inRow 109 = .ok (.aload_n 0, 1) := by decide +kernel
theorem dX7_inRow_110 : decode cX7_inRow 110 = .ok (.getfield 30, 3) := by decide +kernel
theorem dX7_inRow_113 : decode cX7_inRow 113 = .ok (.iload_n 2, 1) := by decide +kernel
theorem dX7_inRow_114 : decode cX7_inRow 114 = .ok (.iaload, 1) := by decide +kernel
theorem dX7_inRow_115 : decode cX7_inRow 115 = .ok (.iconst 1, 1) := by decide +kernel
theorem dX7_inRow_116 : decode cX7_inRow 116 = .ok (.if_icmp .ne 8, 3) := by decide +kernel
theorem dX7_inRow_119 : decode cX7_inRow 119 = .ok (.iload 6, 2) := by decide +kernel
theorem dX7_inRow_121 : decode cX7_inRow 121 = .ok (.ifCond .eq 24, 3) := by decide +kernel
theorem dX7_inRow_124 : decode cX7_inRow 124 = .ok (.aload_n 0, 1) := by decide +kernel
theorem dX7_inRow_125 : decode cX7_inRow 125 = .ok (.getfield 30, 3) := by decide +kernel
theorem dX7_inRow_128 : decode cX7_inRow 128 = .ok (.iload_n 2, 1) := by decide +kernel
theorem dX7_inRow_129 : decode cX7_inRow 129 = .ok (.iaload, 1) := by decide +kernel
theorem dX7_inRow_130 : decode cX7_inRow 130 = .ok (.iconst 2, 1) := by decide +kernel
theorem dX7_inRow_131 : decode cX7_inRow 131 = .ok (.if_icmp .ne 21, 3) := by decide +kernel
theorem dX7_inRow_134 : decode cX7_inRow 134 = .ok (.aload_n 0, 1) := by decide +kernel
theorem dX7_inRow_135 : decode cX7_inRow 135 = .ok (.getfield 24, 3) := by decide +kernel
theorem dX7_inRow_138 : decode cX7_inRow 138 = .ok (.iload 4, 2) := by decide +kernel
theorem dX7_inRow_140 : decode cX7_inRow 140 = .ok (.iaload, 1) := by decide +kernel
theorem dX7_inRow_141 : decode cX7_inRow 141 = .ok (.iconst 3, 1) := by decide +kernel
theorem dX7_inRow_142 : decode cX7_inRow 142 = .ok (.if_icmp .eq 10, 3) := by decide +kernel
theorem dX7_inRow_145 : decode cX7_inRow 145 = .ok (.aload_n 0, 1) := by decide +kernel
theorem dX7_inRow_146 : decode cX7_inRow 146 = .ok (.iconst 4, 1) := by decide +kernel
theorem dX7_inRow_147 : decode cX7_inRow 147 = .ok (.iload_n 1, 1) := by decide +kernel
theorem dX7_inRow_148 : decode cX7_inRow 148 = .ok (.invokevirtual 88, 3) := by decide +kernel
theorem dX7_inRow_151 : decode cX7_inRow 151 = .ok (.ireturn, 1) := by decide +kernel
theorem dX7_inRow_152 : decode cX7_inRow 152 = .ok (.aload_n 0, 1) := by decide +kernel
theorem dX7_inRow_153 : decode cX7_inRow 153 = .ok (.getfield 36, 3) := by decide +kernel
theorem dX7_inRow_156 : decode cX7_inRow 156 = .ok (.iload 5, 2) := by decide +kernel
theorem dX7_inRow_158 : decode cX7_inRow 158 = .ok (.iload 4, 2) := by decide +kernel
theorem dX7_inRow_160 : decode cX7_inRow 160 = .ok (.iastore, 1) := by decide +kernel
theorem dX7_inRow_161 : decode cX7_inRow 161 = .ok (.iload 4, 2) := by decide +kernel
theorem dX7_inRow_163 : decode cX7_inRow 163 = .ok (.ireturn, 1) := by decide +kernel
theorem dX7_thingAt_0 : decode cX7_thingAt 0 = .ok (.iload_n 1, 1) := by decide +kernel
theorem dX7_thingAt_1 : decode cX7_thingAt 1 = .ok (.iconst (-1), 1) := by decide +kernel
theorem dX7_thingAt_2 : decode cX7_thingAt 2 = .ok (.if_icmp .ne 8, 3) := by decide +kernel
theorem dX7_thingAt_5 : decode cX7_thingAt 5 = .ok (.aload_n 0, 1) := by decide +kernel
theorem dX7_thingAt_6 : decode cX7_thingAt 6 = .ok (.getfield 58, 3) := by decide +kernel
theorem dX7_thingAt_9 : decode cX7_thingAt 9 = .ok (.ireturn, 1) := by decide +kernel
theorem dX7_thingAt_10 : decode cX7_thingAt 10 = .ok (.iload_n 1, 1) := by decide +kernel
theorem dX7_thingAt_11 : decode cX7_thingAt 11 = .ok (.ifCond .lt 10, 3) := by decide +kernel
theorem dX7_thingAt_14 : decode cX7_thingAt 14 = .ok (.iload_n 1, 1) := by decide +kernel
theorem dX7_thingAt_15 : decode cX7_thingAt 15 = .ok (.sipush 255, 3) := by decide +kernel
theorem dX7_thingAt_18 : decode cX7_thingAt 18 = .ok (.if_icmp .le 7, 3) := by decide +kernel
theorem dX7_thingAt_21 : decode cX7_thingAt 21 = .ok (.iconst (-1), 1) := by decide +kernel
theorem dX7_thingAt_22 : decode cX7_thingAt 22 = .ok (.goto 9, 3) := by decide +kernel
theorem dX7_thingAt_25 : decode cX7_thingAt 25 = .ok (.aload_n 0, 1) := by decide +kernel
theorem dX7_thingAt_26 : decode cX7_thingAt 26 = .ok (.getfield 39, 3) := by decide +kernel
theorem dX7_thingAt_29 : decode cX7_thingAt 29 = .ok (.iload_n 1, 1) := by decide +kernel
theorem dX7_thingAt_30 : decode cX7_thingAt 30 = .ok (.iaload, 1) := by decide +kernel
theorem dX7_thingAt_31 : decode cX7_thingAt 31 = .ok (.ireturn, 1) := by decide +kernel
theorem dX7_value_0 : decode cX7_value 0 = .ok (.aload_n 0, 1) := by decide +kernel
theorem dX7_value_1 : decode cX7_value 1 = .ok (.iload_n 1, 1) := by decide +kernel
theorem dX7_value_2 : decode cX7_value 2 = .ok (.invokevirtual 179, 3) := by decide +kernel
theorem dX7_value_5 : decode cX7_value 5 = .ok (.istore_n 2, 1) := by decide +kernel
theorem dX7_value_6 : decode cX7_value 6 = .ok (.iload_n 2, 1) := by decide +kernel
theorem dX7_value_7 : decode cX7_value 7 = .ok (.iconst (-1), 1) := by decide +kernel
theorem dX7_value_8 : decode cX7_value 8 = .ok (.if_icmp .eq 33, 3) := by decide +kernel
theorem dX7_value_11 : decode cX7_value 11 = .ok (.aload_n 0, 1) := by decide +kernel
theorem dX7_value_12 : decode cX7_value 12 = .ok (.getfield 24, 3) := by decide +kernel
theorem dX7_value_15 : decode cX7_value 15 = .ok (.iload_n 2, 1) := by decide +kernel
theorem dX7_value_16 : decode cX7_value 16 = .ok (.iaload, 1) := by decide +kernel
theorem dX7_value_17 : decode cX7_value 17 = .ok (.iconst 1, 1) := by decide +kernel
theorem dX7_value_18 : decode cX7_value 18 = .ok (.if_icmp .eq 14, 3) := by decide +kernel
theorem dX7_value_21 : decode cX7_value 21 = .ok (.aload_n 0, 1) := by decide +kernel
theorem dX7_value_22 : decode cX7_value 22 = .ok (.getfield 24, 3) := by decide +kernel
theorem dX7_value_25 : decode cX7_value 25 = .ok (.iload_n 2, 1) := by decide +kernel
theorem dX7_value_26 : decode cX7_value 26 = .ok (.iaload, 1) := by decide +kernel
theorem dX7_value_27 : decode cX7_value 27 = .ok (.bipush 6, 2) := by decide +kernel
theorem dX7_value_29 : decode cX7_value 29 = .ok (.if_icmp .ne 12, 3) := by decide +kernel
theorem dX7_value_32 : decode cX7_value 32 = .ok (.aload_n 0, 1) := by decide +kernel
theorem dX7_value_33 : decode cX7_value 33 = .ok (.getfield 33, 3) := by decide +kernel
theorem dX7_value_36 : decode cX7_value 36 = .ok (.iload_n 2, 1) := by decide +kernel
theorem dX7_value_37 : decode cX7_value 37 = .ok (.laload, 1) := by decide +kernel
theorem dX7_value_38 : decode cX7_value 38 = .ok (.goto 4, 3) := by decide +kernel
theorem dX7_value_41 : decode cX7_value 41 = .ok (.lconst 0, 1) := by decide +kernel
theorem dX7_value_42 : decode cX7_value 42 = .ok (.lreturn, 1) := by decide +kernel
theorem dX7_thing_0 : decode cX7_thing 0 = .ok (.iload_n 1, 1) := by decide +kernel
theorem dX7_thing_1 : decode cX7_thing 1 = .ok (.iconst (-1), 1) := by decide +kernel
theorem dX7_thing_2 : decode cX7_thing 2 = .ok (.if_icmp .lt 19, 3) := by decide +kernel
theorem dX7_thing_5 : decode cX7_thing 5 = .ok (.iload_n 1, 1) := by decide +kernel
theorem dX7_thing_6 : decode cX7_thing 6 = .ok (.sipush 255, 3) := by decide +kernel
theorem dX7_thing_9 : decode cX7_thing 9 = .ok (.if_icmp .gt 12, 3) := by decide +kernel
theorem dX7_thing_12 : decode cX7_thing 12 = .ok (.iload_n 2, 1) := by decide +kernel
theorem dX7_thing_13 : decode cX7_thing 13 = .ok (.ifCond .lt 8, 3) := by decide +kernel
theorem dX7_thing_16 : decode cX7_thing 16 = .ok (.iload_n 2, 1) := by decide +kernel
theorem dX7_thing_17 : decode cX7_thing 17 = .ok (.iconst 3, 1) := by decide +kernel
theorem dX7_thing_18 : decode cX7_thing 18 = .ok (.if_icmp .le 5, 3) := by decide +kernel
theorem dX7_thing_21 : decode cX7_thing 21 = .ok (.iconst (-1), 1) := by decide +kernel
theorem dX7_thing_22 : decode cX7_thing 22 = .ok (.ireturn, 1) := by decide +kernel
theorem dX7_thing_23 : decode cX7_thing 23 = .ok (.aload_n 0, 1) := by decide +kernel
theorem dX7_thing_24 : decode cX7_thing 24 = .ok (.iload_n 1, 1) := by decide +kernel
theorem dX7_thing_25 : decode cX7_thing 25 = .ok (.invokevirtual 179, 3) := by decide +kernel
theorem dX7_thing_28 : decode cX7_thing 28 = .ok (.istore_n 3, 1) := by decide +kernel
theorem dX7_thing_29 : decode cX7_thing 29 = .ok (.iload_n 2, 1) := by decide +kernel
theorem dX7_thing_30 : decode cX7_thing 30 = .ok (.ifCond .ne 19, 3) := by decide +kernel
theorem dX7_thing_33 : decode cX7_thing 33 = .ok (.iload_n 3, 1) := by decide +kernel
theorem dX7_thing_34 : decode cX7_thing 34 = .ok (.iconst (-1), 1) := by decide +kernel
theorem dX7_thing_35 : decode cX7_thing 35 = .ok (.if_icmp .ne 7, 3) := by decide +kernel
theorem dX7_thing_38 : decode cX7_thing 38 = .ok (.iconst 0, 1) := by decide +kernel
theorem dX7_thing_39 : decode cX7_thing 39 = .ok (.goto 9, 3) := by decide +kernel
theorem dX7_thing_42 : decode cX7_thing 42 = .ok (.aload_n 0, 1) := by decide +kernel
theorem dX7_thing_43 : decode cX7_thing 43 = .ok (.getfield 24, 3) := by decide +kernel
theorem dX7_thing_46 : decode cX7_thing 46 = .ok (.iload_n 3, 1) := by decide +kernel
theorem dX7_thing_47 : decode cX7_thing 47 = .ok (.iaload, 1) := by decide +kernel
theorem dX7_thing_48 : decode cX7_thing 48 = .ok (.ireturn, 1) := by decide +kernel
theorem dX7_thing_49 : decode cX7_thing 49 = .ok (.iload_n 3, 1) := by decide +kernel
theorem dX7_thing_50 : decode cX7_thing 50 = .ok (.iconst (-1), 1) := by decide +kernel
theorem dX7_thing_51 : decode cX7_thing 51 = .ok (.if_icmp .ne 5, 3) := by decide +kernel
theorem dX7_thing_54 : decode cX7_thing 54 = .ok (.iconst (-1), 1) := by decide +kernel
theorem dX7_thing_55 : decode cX7_thing 55 = .ok (.ireturn, 1) := by decide +kernel
theorem dX7_thing_56 : decode cX7_thing 56 = .ok (.iload_n 2, 1) := by decide +kernel
theorem dX7_thing_57 : decode cX7_thing 57 = .ok (.iconst 1, 1) := by decide +kernel
theorem dX7_thing_58 : decode cX7_thing 58 = .ok (.if_icmp .ne 5, 3) := by decide +kernel
theorem dX7_thing_61 : decode cX7_thing 61 = .ok (.iload_n 3, 1) := by decide +kernel
theorem dX7_thing_62 : decode cX7_thing 62 = .ok (.ireturn, 1) := by decide +kernel
theorem dX7_thing_63 : decode cX7_thing 63 = .ok (.aload_n 0, 1) := by decide +kernel
theorem dX7_thing_64 : decode cX7_thing 64 = .ok (.getfield 24, 3) := by decide +kernel
theorem dX7_thing_67 : decode cX7_thing 67 = .ok (.iload_n 3, 1) := by decide +kernel
theorem dX7_thing_68 : decode cX7_thing 68 = .ok (.iaload, 1) := by decide +kernel
theorem dX7_thing_69 : decode cX7_thing 69 = .ok (.iconst 2, 1) := by decide +kernel
theorem dX7_thing_70 : decode cX7_thing 70 = .ok (.if_icmp .eq 13, 3) := by decide +kernel
theorem dX7_thing_73 : decode cX7_thing 73 = .ok (.aload_n 0, 1) := by decide +kernel
theorem dX7_thing_74 : decode cX7_thing 74 = .ok (.getfield 24, 3) := by decide +kernel
theorem dX7_thing_77 : decode cX7_thing 77 = .ok (.iload_n 3, 1) := by decide +kernel
theorem dX7_thing_78 : decode cX7_thing 78 = .ok (.iaload, 1) := by decide +kernel
theorem dX7_thing_79 : decode cX7_thing 79 = .ok (.iconst 3, 1) := by decide +kernel
theorem dX7_thing_80 : decode cX7_thing 80 = .ok (.if_icmp .ne 7, 3) := by decide +kernel
theorem dX7_thing_83 : decode cX7_thing 83 = .ok (.iconst 1, 1) := by decide +kernel
theorem dX7_thing_84 : decode cX7_thing 84 = .ok (.goto 4, 3) := by decide +kernel
theorem dX7_thing_87 : decode cX7_thing 87 = .ok (.iconst 0, 1) := by decide +kernel
theorem dX7_thing_88 : decode cX7_thing 88 = .ok (.istore 4, 2) := by decide +kernel
theorem dX7_thing_90 : decode cX7_thing 90 = .ok (.iload_n 2, 1) := by decide +kernel
theorem dX7_thing_91 : decode cX7_thing 91 = .ok (.iconst 2, 1) := by decide +kernel
theorem dX7_thing_92 : decode cX7_thing 92 = .ok (.if_icmp .ne 39, 3) := by decide +kernel
theorem dX7_thing_95 : decode cX7_thing 95 = .ok (.iload 4, 2) := by decide +kernel
theorem dX7_thing_97 : decode cX7_thing 97 = .ok (.ifCond .ne 23, 3) := by decide +kernel
theorem dX7_thing_100 : decode cX7_thing 100 = .ok (.aload_n 0, 1) := by decide +kernel
theorem dX7_thing_101 : decode cX7_thing 101 = .ok (.getfield 24, 3) := by decide +kernel
theorem dX7_thing_104 : decode cX7_thing 104 = .ok (.iload_n 3, 1) := by decide +kernel
theorem dX7_thing_105 : decode cX7_thing 105 = .ok (.iaload, 1) := by decide +kernel
theorem dX7_thing_106 : decode cX7_thing 106 = .ok (.iconst 4, 1) := by decide +kernel
theorem dX7_thing_107 : decode cX7_thing 107 = .ok (.if_icmp .eq 13, 3) := by decide +kernel
theorem dX7_thing_110 : decode cX7_thing 110 = .ok (.aload_n 0, 1) := by decide +kernel
theorem dX7_thing_111 : decode cX7_thing 111 = .ok (.getfield 24, 3) := by decide +kernel
theorem dX7_thing_114 : decode cX7_thing 114 = .ok (.iload_n 3, 1) := by decide +kernel
theorem dX7_thing_115 : decode cX7_thing 115 = .ok (.iaload, 1) := by decide +kernel
theorem dX7_thing_116 : decode cX7_thing 116 = .ok (.iconst 5, 1) := by decide +kernel
theorem dX7_thing_117 : decode cX7_thing 117 = .ok (.if_icmp .ne 12, 3) := by decide +kernel
theorem dX7_thing_120 : decode cX7_thing 120 = .ok (.aload_n 0, 1) := by decide +kernel
theorem dX7_thing_121 : decode cX7_thing 121 = .ok (.getfield 27, 3) := by decide +kernel
theorem dX7_thing_124 : decode cX7_thing 124 = .ok (.iload_n 3, 1) := by decide +kernel
theorem dX7_thing_125 : decode cX7_thing 125 = .ok (.iaload, 1) := by decide +kernel
theorem dX7_thing_126 : decode cX7_thing 126 = .ok (.goto 4, 3) := by decide +kernel
theorem dX7_thing_129 : decode cX7_thing 129 = .ok (.iconst (-1), 1) := by decide +kernel
theorem dX7_thing_130 : decode cX7_thing 130 = .ok (.ireturn, 1) := by decide +kernel
theorem dX7_thing_131 : decode cX7_thing 131 = .ok (.iload 4, 2) := by decide +kernel
theorem dX7_thing_133 : decode cX7_thing 133 = .ok (.ifCond .ne 13, 3) := by decide +kernel
theorem dX7_thing_136 : decode cX7_thing 136 = .ok (.aload_n 0, 1) := by decide +kernel
theorem dX7_thing_137 : decode cX7_thing 137 = .ok (.getfield 24, 3) := by decide +kernel
theorem dX7_thing_140 : decode cX7_thing 140 = .ok (.iload_n 3, 1) := by decide +kernel
theorem dX7_thing_141 : decode cX7_thing 141 = .ok (.iaload, 1) := by decide +kernel
theorem dX7_thing_142 : decode cX7_thing 142 = .ok (.iconst 5, 1) := by decide +kernel
theorem dX7_thing_143 : decode cX7_thing 143 = .ok (.if_icmp .ne 12, 3) := by decide +kernel
theorem dX7_thing_146 : decode cX7_thing 146 = .ok (.aload_n 0, 1) := by decide +kernel
theorem dX7_thing_147 : decode cX7_thing 147 = .ok (.getfield 30, 3) := by decide +kernel
theorem dX7_thing_150 : decode cX7_thing 150 = .ok (.iload_n 3, 1) := by decide +kernel
theorem dX7_thing_151 : decode cX7_thing 151 = .ok (.iaload, 1) := by decide +kernel
theorem dX7_thing_152 : decode cX7_thing 152 = .ok (.goto 4, 3) := by decide +kernel
theorem dX7_thing_155 : decode cX7_thing 155 = .ok (.iconst (-1), 1) := by decide +kernel
theorem dX7_thing_156 : decode cX7_thing 156 = .ok (.ireturn, 1) := by decide +kernel
theorem dX7_fault_0 : decode cX7_fault 0 = .ok (.aload_n 0, 1) := by decide +kernel
theorem dX7_fault_1 : decode cX7_fault 1 = .ok (.getfield 108, 3) := by decide +kernel
theorem dX7_fault_4 : decode cX7_fault 4 = .ok (.ireturn, 1) := by decide +kernel
theorem dX7_faultNode_0 : decode cX7_faultNode 0 = .ok (.aload_n 0, 1) := by decide +kernel
theorem dX7_faultNode_1 : decode cX7_faultNode 1 = .ok (.getfield 61, 3) := by decide +kernel
theorem dX7_faultNode_4 : decode cX7_faultNode 4 = .ok (.ireturn, 1) := by decide +kernel
theorem dX7_steps_0 : decode cX7_steps 0 = .ok (.aload_n 0, 1) := by decide +kernel
theorem dX7_steps_1 : decode cX7_steps 1 = .ok (.getfield 95, 3) := by decide +kernel
theorem dX7_steps_4 : decode cX7_steps 4 = .ok (.ireturn, 1) := by decide +kernel
theorem dX7_wipe_0 : decode cX7_wipe 0 = .ok (.aload_n 0, 1) := by decide +kernel
theorem dX7_wipe_1 : decode cX7_wipe 1 = .ok (.iconst 0, 1) := by decide +kernel
theorem dX7_wipe_2 : decode cX7_wipe 2 = .ok (.putfield 64, 3) := by decide +kernel
theorem dX7_wipe_5 : decode cX7_wipe 5 = .ok (.aload_n 0, 1) := by decide +kernel
theorem dX7_wipe_6 : decode cX7_wipe 6 = .ok (.iconst (-1), 1) := by decide +kernel
theorem dX7_wipe_7 : decode cX7_wipe 7 = .ok (.putfield 42, 3) := by decide +kernel
theorem dX7_wipe_10 : decode cX7_wipe 10 = .ok (.aload_n 0, 1) := by decide +kernel
theorem dX7_wipe_11 : decode cX7_wipe 11 = .ok (.iconst (-1), 1) := by decide +kernel
theorem dX7_wipe_12 : decode cX7_wipe 12 = .ok (.putfield 58, 3) := by decide +kernel
theorem dX7_wipe_15 : decode cX7_wipe 15 = .ok (.iconst 0, 1) := by decide +kernel
theorem dX7_wipe_16 : decode cX7_wipe 16 = .ok (.istore_n 1, 1) := by decide +kernel
theorem dX7_wipe_17 : decode cX7_wipe 17 = .ok (.iload_n 1, 1) := by decide +kernel
theorem dX7_wipe_18 : decode cX7_wipe 18 = .ok (.sipush 256, 3) := by decide +kernel
theorem dX7_wipe_21 : decode cX7_wipe 21 = .ok (.if_icmp .ge 16, 3) := by decide +kernel
theorem dX7_wipe_24 : decode cX7_wipe 24 = .ok (.aload_n 0, 1) := by decide +kernel
theorem dX7_wipe_25 : decode cX7_wipe 25 = .ok (.getfield 39, 3) := by decide +kernel
theorem dX7_wipe_28 : decode cX7_wipe 28 = .ok (.iload_n 1, 1) := by decide +kernel
theorem dX7_wipe_29 : decode cX7_wipe 29 = .ok (.iconst (-1), 1) := by decide +kernel
theorem dX7_wipe_30 : decode cX7_wipe 30 = .ok (.iastore, 1) := by decide +kernel
theorem dX7_wipe_31 : decode cX7_wipe 31 = .ok (.iinc 1 1, 3) := by decide +kernel
theorem dX7_wipe_34 : decode cX7_wipe 34 = .ok (.goto (-17), 3) := by decide +kernel
theorem dX7_wipe_37 : decode cX7_wipe 37 = .ok (.return_, 1) := by decide +kernel
theorem dJ9_max_7cf53_0 : decode cJ9_max_7cf53 0 = .ok (.iload_n 0, 1) := by decide +kernel
theorem dJ9_max_7cf53_1 : decode cJ9_max_7cf53 1 = .ok (.iload_n 1, 1) := by decide +kernel
theorem dJ9_max_7cf53_2 : decode cJ9_max_7cf53 2 = .ok (.if_icmp .lt 7, 3) := by decide +kernel
theorem dJ9_max_7cf53_5 : decode cJ9_max_7cf53 5 = .ok (.iload_n 0, 1) := by decide +kernel
theorem dJ9_max_7cf53_6 : decode cJ9_max_7cf53 6 = .ok (.goto 4, 3) := by decide +kernel
theorem dJ9_max_7cf53_9 : decode cJ9_max_7cf53 9 = .ok (.iload_n 1, 1) := by decide +kernel
theorem dJ9_max_7cf53_10 : decode cJ9_max_7cf53 10 = .ok (.ireturn, 1) := by decide +kernel
theorem dJ9_min_7cf53_0 : decode cJ9_min_7cf53 0 = .ok (.iload_n 0, 1) := by decide +kernel
theorem dJ9_min_7cf53_1 : decode cJ9_min_7cf53 1 = .ok (.iload_n 1, 1) := by decide +kernel
theorem dJ9_min_7cf53_2 : decode cJ9_min_7cf53 2 = .ok (.if_icmp .gt 7, 3) := by decide +kernel
theorem dJ9_min_7cf53_5 : decode cJ9_min_7cf53 5 = .ok (.iload_n 0, 1) := by decide +kernel
theorem dJ9_min_7cf53_6 : decode cJ9_min_7cf53 6 = .ok (.goto 4, 3) := by decide +kernel
theorem dJ9_min_7cf53_9 : decode cJ9_min_7cf53 9 = .ok (.iload_n 1, 1) := by decide +kernel
theorem dJ9_min_7cf53_10 : decode cJ9_min_7cf53 10 = .ok (.ireturn, 1) := by decide +kernel
theorem dJxa1e45_init_da8c8_0 : decode cJxa1e45_init_da8c8 0 = .ok (.aload_n 0, 1) := by decide +kernel
theorem dJxa1e45_init_da8c8_1 : decode cJxa1e45_init_da8c8 1 = .ok (.invokespecial 1, 3) := by decide +kernel
theorem dJxa1e45_init_da8c8_4 : decode cJxa1e45_init_da8c8 4 = .ok (.return_, 1) := by decide +kernel
theorem dJxc12de_init_da8c8_0 : decode cJxc12de_init_da8c8 0 = .ok (.aload_n 0, 1) := by decide +kernel
theorem dJxc12de_init_da8c8_1 : decode cJxc12de_init_da8c8 1 = .ok (.invokespecial 1, 3) := by decide +kernel
theorem dJxc12de_init_da8c8_4 : decode cJxc12de_init_da8c8 4 = .ok (.aload_n 0, 1) := by decide +kernel
theorem dJxc12de_init_da8c8_5 : decode cJxc12de_init_da8c8 5 = .ok (.iconst 0, 1) := by decide +kernel
theorem dJxc12de_init_da8c8_6 : decode cJxc12de_init_da8c8 6 = .ok (.putfield 7, 3) := by decide +kernel
theorem dJxc12de_init_da8c8_9 : decode cJxc12de_init_da8c8 9 = .ok (.return_, 1) := by decide +kernel
theorem dJx4a65c_init_da8c8_0 : decode cJx4a65c_init_da8c8 0 = .ok (.aload_n 0, 1) := by decide +kernel
theorem dJx4a65c_init_da8c8_1 : decode cJx4a65c_init_da8c8 1 = .ok (.invokespecial 1, 3) := by decide +kernel
theorem dJx4a65c_init_da8c8_4 : decode cJx4a65c_init_da8c8 4 = .ok (.aload_n 0, 1) := by decide +kernel
theorem dJx4a65c_init_da8c8_5 : decode cJx4a65c_init_da8c8 5 = .ok (.getstatic 39, 3) := by decide +kernel
theorem dJx4a65c_init_da8c8_8 : decode cJx4a65c_init_da8c8 8 = .ok (.putfield 9, 3) := by decide +kernel
theorem dJx4a65c_init_da8c8_11 : decode cJx4a65c_init_da8c8 11 = .ok (.return_, 1) := by decide +kernel
theorem dJx4a65c_grow_92f84_0 : decode cJx4a65c_grow_92f84 0 = .ok (.aload_n 0, 1) := by decide +kernel
theorem dJx4a65c_grow_92f84_1 : decode cJx4a65c_grow_92f84 1 = .ok (.getfield 9, 3) := by decide +kernel
theorem dJx4a65c_grow_92f84_4 : decode cJx4a65c_grow_92f84 4 = .ok (.arraylength, 1) := by decide +kernel
theorem dJx4a65c_grow_92f84_5 : decode cJx4a65c_grow_92f84 5 = .ok (.istore_n 2, 1) := by decide +kernel
theorem dJx4a65c_grow_92f84_6 : decode cJx4a65c_grow_92f84 6 = .ok (.iload_n 2, 1) := by decide +kernel
theorem dJx4a65c_grow_92f84_7 : decode cJx4a65c_grow_92f84 7 = .ok (.ifCond .gt 13, 3) := by decide +kernel
theorem dJx4a65c_grow_92f84_10 : decode cJx4a65c_grow_92f84 10 = .ok (.aload_n 0, 1) := by decide +kernel
theorem dJx4a65c_grow_92f84_11 : decode cJx4a65c_grow_92f84 11 = .ok (.getfield 9, 3) := by decide +kernel
theorem dJx4a65c_grow_92f84_14 : decode cJx4a65c_grow_92f84 14 = .ok (.getstatic 39, 3) := by decide +kernel
theorem dJx4a65c_grow_92f84_17 : decode cJx4a65c_grow_92f84 17 = .ok (.if_acmp .eq 28, 3) := by decide +kernel
theorem dJx4a65c_grow_92f84_20 : decode cJx4a65c_grow_92f84 20 = .ok (.iload_n 2, 1) := by decide +kernel
theorem dJx4a65c_grow_92f84_21 : decode cJx4a65c_grow_92f84 21 = .ok (.iload_n 1, 1) := by decide +kernel
theorem dJx4a65c_grow_92f84_22 : decode cJx4a65c_grow_92f84 22 = .ok (.iload_n 2, 1) := by decide +kernel
theorem dJx4a65c_grow_92f84_23 : decode cJx4a65c_grow_92f84 23 = .ok (.isub, 1) := by decide +kernel
theorem dJx4a65c_grow_92f84_24 : decode cJx4a65c_grow_92f84 24 = .ok (.iload_n 2, 1) := by decide +kernel
theorem dJx4a65c_grow_92f84_25 : decode cJx4a65c_grow_92f84 25 = .ok (.iconst 1, 1) := by decide +kernel
theorem dJx4a65c_grow_92f84_26 : decode cJx4a65c_grow_92f84 26 = .ok (.ishr, 1) := by decide +kernel
theorem dJx4a65c_grow_92f84_27 : decode cJx4a65c_grow_92f84 27 = .ok (.invokestatic 73, 3) := by decide +kernel
theorem dJx4a65c_grow_92f84_30 : decode cJx4a65c_grow_92f84 30 = .ok (.istore_n 3, 1) := by decide +kernel
theorem dJx4a65c_grow_92f84_31 : decode cJx4a65c_grow_92f84 31 = .ok (.aload_n 0, 1) := by decide +kernel
theorem dJx4a65c_grow_92f84_32 : decode cJx4a65c_grow_92f84 32 = .ok (.aload_n 0, 1) := by decide +kernel
theorem dJx4a65c_grow_92f84_33 : decode cJx4a65c_grow_92f84 33 = .ok (.getfield 9, 3) := by decide +kernel
theorem dJx4a65c_grow_92f84_36 : decode cJx4a65c_grow_92f84 36 = .ok (.iload_n 3, 1) := by decide +kernel
theorem dJx4a65c_grow_92f84_37 : decode cJx4a65c_grow_92f84 37 = .ok (.invokestatic 66, 3) := by decide +kernel
theorem dJx4a65c_grow_92f84_40 : decode cJx4a65c_grow_92f84 40 = .ok (.dup_x1, 1) := by decide +kernel
theorem dJx4a65c_grow_92f84_41 : decode cJx4a65c_grow_92f84 41 = .ok (.putfield 9, 3) := by decide +kernel
theorem dJx4a65c_grow_92f84_44 : decode cJx4a65c_grow_92f84 44 = .ok (.areturn, 1) := by decide +kernel
theorem dJx4a65c_grow_92f84_45 : decode cJx4a65c_grow_92f84 45 = .ok (.aload_n 0, 1) := by decide +kernel
theorem dJx4a65c_grow_92f84_46 : decode cJx4a65c_grow_92f84 46 = .ok (.bipush 10, 2) := by decide +kernel
theorem dJx4a65c_grow_92f84_48 : decode cJx4a65c_grow_92f84 48 = .ok (.iload_n 1, 1) := by decide +kernel
theorem dJx4a65c_grow_92f84_49 : decode cJx4a65c_grow_92f84 49 = .ok (.invokestatic 79, 3) := by decide +kernel
theorem dJx4a65c_grow_92f84_52 : decode cJx4a65c_grow_92f84 52 = .ok (.anewarray 7, 3) := by decide +kernel
theorem dJx4a65c_grow_92f84_55 : decode cJx4a65c_grow_92f84 55 = .ok (.dup_x1, 1) := by decide +kernel
theorem dJx4a65c_grow_92f84_56 : decode cJx4a65c_grow_92f84 56 = .ok (.putfield 9, 3) := by decide +kernel
theorem dJx4a65c_grow_92f84_59 : decode cJx4a65c_grow_92f84 59 = .ok (.areturn, 1) := by decide +kernel
theorem dJx4a65c_grow_d5877_0 : decode cJx4a65c_grow_d5877 0 = .ok (.aload_n 0, 1) := by decide +kernel
theorem dJx4a65c_grow_d5877_1 : decode cJx4a65c_grow_d5877 1 = .ok (.aload_n 0, 1) := by decide +kernel
theorem dJx4a65c_grow_d5877_2 : decode cJx4a65c_grow_d5877 2 = .ok (.getfield 48, 3) := by decide +kernel
theorem dJx4a65c_grow_d5877_5 : decode cJx4a65c_grow_d5877 5 = .ok (.iconst 1, 1) := by decide +kernel
theorem dJx4a65c_grow_d5877_6 : decode cJx4a65c_grow_d5877 6 = .ok (.iadd, 1) := by decide +kernel
theorem dJx4a65c_grow_d5877_7 : decode cJx4a65c_grow_d5877 7 = .ok (.invokevirtual 69, 3) := by decide +kernel
theorem dJx4a65c_grow_d5877_10 : decode cJx4a65c_grow_d5877 10 = .ok (.areturn, 1) := by decide +kernel
theorem dJx4a65c_size_8abf5_0 : decode cJx4a65c_size_8abf5 0 = .ok (.aload_n 0, 1) := by decide +kernel
theorem dJx4a65c_size_8abf5_1 : decode cJx4a65c_size_8abf5 1 = .ok (.getfield 48, 3) := by decide +kernel
theorem dJx4a65c_size_8abf5_4 : decode cJx4a65c_size_8abf5 4 = .ok (.ireturn, 1) := by decide +kernel
theorem dJx4a65c_elementData_915e3_0 : decode cJx4a65c_elementData_915e3 0 = .ok (.aload_n 0, 1) := by decide +kernel
theorem dJx4a65c_elementData_915e3_1 : decode cJx4a65c_elementData_915e3 1 = .ok (.getfield 9, 3) := by decide +kernel
theorem dJx4a65c_elementData_915e3_4 : decode cJx4a65c_elementData_915e3 4 = .ok (.iload_n 1, 1) := by decide +kernel
theorem dJx4a65c_elementData_915e3_5 : decode cJx4a65c_elementData_915e3 5 = .ok (.aaload, 1) := by decide +kernel
theorem dJx4a65c_elementData_915e3_6 : decode cJx4a65c_elementData_915e3 6 = .ok (.areturn, 1) := by decide +kernel
theorem dJx4a65c_get_915e3_0 : decode cJx4a65c_get_915e3 0 = .ok (.iload_n 1, 1) := by decide +kernel
theorem dJx4a65c_get_915e3_1 : decode cJx4a65c_get_915e3 1 = .ok (.aload_n 0, 1) := by decide +kernel
theorem dJx4a65c_get_915e3_2 : decode cJx4a65c_get_915e3 2 = .ok (.getfield 48, 3) := by decide +kernel
theorem dJx4a65c_get_915e3_5 : decode cJx4a65c_get_915e3 5 = .ok (.invokestatic 118, 3) := by decide +kernel
theorem dJx4a65c_get_915e3_8 : decode cJx4a65c_get_915e3 8 = .ok (.pop, 1) := by decide +kernel
theorem dJx4a65c_get_915e3_9 : decode cJx4a65c_get_915e3 9 = .ok (.aload_n 0, 1) := by decide +kernel
theorem dJx4a65c_get_915e3_10 : decode cJx4a65c_get_915e3 10 = .ok (.iload_n 1, 1) := by decide +kernel
theorem dJx4a65c_get_915e3_11 : decode cJx4a65c_get_915e3 11 = .ok (.invokevirtual 123, 3) := by decide +kernel
theorem dJx4a65c_get_915e3_14 : decode cJx4a65c_get_915e3 14 = .ok (.areturn, 1) := by decide +kernel
theorem dJx4a65c_add_72be8_0 : decode cJx4a65c_add_72be8 0 = .ok (.iload_n 3, 1) := by decide +kernel
theorem dJx4a65c_add_72be8_1 : decode cJx4a65c_add_72be8 1 = .ok (.aload_n 2, 1) := by decide +kernel
theorem dJx4a65c_add_72be8_2 : decode cJx4a65c_add_72be8 2 = .ok (.arraylength, 1) := by decide +kernel
theorem dJx4a65c_add_72be8_3 : decode cJx4a65c_add_72be8 3 = .ok (.if_icmp .ne 8, 3) := by decide +kernel
theorem dJx4a65c_add_72be8_6 : decode cJx4a65c_add_72be8 6 = .ok (.aload_n 0, 1) := by decide +kernel
theorem dJx4a65c_add_72be8_7 : decode cJx4a65c_add_72be8 7 = .ok (.invokevirtual 129, 3) := by decide +kernel
theorem dJx4a65c_add_72be8_10 : decode cJx4a65c_add_72be8 10 = .ok (.astore_n 2, 1) := by decide +kernel
theorem dJx4a65c_add_72be8_11 : decode cJx4a65c_add_72be8 11 = .ok (.aload_n 2, 1) := by decide +kernel
theorem dJx4a65c_add_72be8_12 : decode cJx4a65c_add_72be8 12 = .ok (.iload_n 3, 1) := by decide +kernel
theorem dJx4a65c_add_72be8_13 : decode cJx4a65c_add_72be8 13 = .ok (.aload_n 1, 1) := by decide +kernel
theorem dJx4a65c_add_72be8_14 : decode cJx4a65c_add_72be8 14 = .ok (.aastore, 1) := by decide +kernel
theorem dJx4a65c_add_72be8_15 : decode cJx4a65c_add_72be8 15 = .ok (.aload_n 0, 1) := by decide +kernel
theorem dJx4a65c_add_72be8_16 : decode cJx4a65c_add_72be8 16 = .ok (.iload_n 3, 1) := by decide +kernel
theorem dJx4a65c_add_72be8_17 : decode cJx4a65c_add_72be8 17 = .ok (.iconst 1, 1) := by decide +kernel
theorem dJx4a65c_add_72be8_18 : decode cJx4a65c_add_72be8 18 = .ok (.iadd, 1) := by decide +kernel
theorem dJx4a65c_add_72be8_19 : decode cJx4a65c_add_72be8 19 = .ok (.putfield 48, 3) := by decide +kernel
theorem dJx4a65c_add_72be8_22 : decode cJx4a65c_add_72be8 22 = .ok (.return_, 1) := by decide +kernel
theorem dJx4a65c_add_9ea2d_0 : decode cJx4a65c_add_9ea2d 0 = .ok (.aload_n 0, 1) := by decide +kernel
theorem dJx4a65c_add_9ea2d_1 : decode cJx4a65c_add_9ea2d 1 = .ok (.dup, 1) := by decide +kernel
theorem dJx4a65c_add_9ea2d_2 : decode cJx4a65c_add_9ea2d 2 = .ok (.getfield 63, 3) := by decide +kernel
theorem dJx4a65c_add_9ea2d_5 : decode cJx4a65c_add_9ea2d 5 = .ok (.iconst 1, 1) := by decide +kernel
theorem dJx4a65c_add_9ea2d_6 : decode cJx4a65c_add_9ea2d 6 = .ok (.iadd, 1) := by decide +kernel
theorem dJx4a65c_add_9ea2d_7 : decode cJx4a65c_add_9ea2d 7 = .ok (.putfield 63, 3) := by decide +kernel
theorem dJx4a65c_add_9ea2d_10 : decode cJx4a65c_add_9ea2d 10 = .ok (.aload_n 0, 1) := by decide +kernel
theorem dJx4a65c_add_9ea2d_11 : decode cJx4a65c_add_9ea2d 11 = .ok (.aload_n 1, 1) := by decide +kernel
theorem dJx4a65c_add_9ea2d_12 : decode cJx4a65c_add_9ea2d 12 = .ok (.aload_n 0, 1) := by decide +kernel
theorem dJx4a65c_add_9ea2d_13 : decode cJx4a65c_add_9ea2d 13 = .ok (.getfield 9, 3) := by decide +kernel
theorem dJx4a65c_add_9ea2d_16 : decode cJx4a65c_add_9ea2d 16 = .ok (.aload_n 0, 1) := by decide +kernel
theorem dJx4a65c_add_9ea2d_17 : decode cJx4a65c_add_9ea2d 17 = .ok (.getfield 48, 3) := by decide +kernel
theorem dJx4a65c_add_9ea2d_20 : decode cJx4a65c_add_9ea2d 20 = .ok (.invokevirtual 131, 3) := by decide +kernel
theorem dJx4a65c_add_9ea2d_23 : decode cJx4a65c_add_9ea2d 23 = .ok (.iconst 1, 1) := by decide +kernel
theorem dJx4a65c_add_9ea2d_24 : decode cJx4a65c_add_9ea2d 24 = .ok (.ireturn, 1) := by decide +kernel
theorem dJx4a65c_clear_da8c8_0 : decode cJx4a65c_clear_da8c8 0 = .ok (.aload_n 0, 1) := by decide +kernel
theorem dJx4a65c_clear_da8c8_1 : decode cJx4a65c_clear_da8c8 1 = .ok (.dup, 1) := by decide +kernel
theorem dJx4a65c_clear_da8c8_2 : decode cJx4a65c_clear_da8c8 2 = .ok (.getfield 63, 3) := by decide +kernel
theorem dJx4a65c_clear_da8c8_5 : decode cJx4a65c_clear_da8c8 5 = .ok (.iconst 1, 1) := by decide +kernel
theorem dJx4a65c_clear_da8c8_6 : decode cJx4a65c_clear_da8c8 6 = .ok (.iadd, 1) := by decide +kernel
theorem dJx4a65c_clear_da8c8_7 : decode cJx4a65c_clear_da8c8 7 = .ok (.putfield 63, 3) := by decide +kernel
theorem dJx4a65c_clear_da8c8_10 : decode cJx4a65c_clear_da8c8 10 = .ok (.aload_n 0, 1) := by decide +kernel
theorem dJx4a65c_clear_da8c8_11 : decode cJx4a65c_clear_da8c8 11 = .ok (.getfield 9, 3) := by decide +kernel
theorem dJx4a65c_clear_da8c8_14 : decode cJx4a65c_clear_da8c8 14 = .ok (.astore_n 1, 1) := by decide +kernel
theorem dJx4a65c_clear_da8c8_15 : decode cJx4a65c_clear_da8c8 15 = .ok (.aload_n 0, 1) := by decide +kernel
theorem dJx4a65c_clear_da8c8_16 : decode cJx4a65c_clear_da8c8 16 = .ok (.getfield 48, 3) := by decide +kernel
theorem dJx4a65c_clear_da8c8_19 : decode cJx4a65c_clear_da8c8 19 = .ok (.istore_n 2, 1) := by decide +kernel
theorem dJx4a65c_clear_da8c8_20 : decode cJx4a65c_clear_da8c8 20 = .ok (.aload_n 0, 1) := by decide +kernel
theorem dJx4a65c_clear_da8c8_21 : decode cJx4a65c_clear_da8c8 21 = .ok (.iconst 0, 1) := by decide +kernel
theorem dJx4a65c_clear_da8c8_22 : decode cJx4a65c_clear_da8c8 22 = .ok (.dup_x1, 1) := by decide +kernel
theorem dJx4a65c_clear_da8c8_23 : decode cJx4a65c_clear_da8c8 23 = .ok (.putfield 48, 3) := by decide +kernel
theorem dJx4a65c_clear_da8c8_26 : decode cJx4a65c_clear_da8c8 26 = .ok (.istore_n 3, 1) := by decide +kernel
theorem dJx4a65c_clear_da8c8_27 : decode cJx4a65c_clear_da8c8 27 = .ok (.iload_n 3, 1) := by decide +kernel
theorem dJx4a65c_clear_da8c8_28 : decode cJx4a65c_clear_da8c8 28 = .ok (.iload_n 2, 1) := by decide +kernel
theorem dJx4a65c_clear_da8c8_29 : decode cJx4a65c_clear_da8c8 29 = .ok (.if_icmp .ge 13, 3) := by decide +kernel
theorem dJx4a65c_clear_da8c8_32 : decode cJx4a65c_clear_da8c8 32 = .ok (.aload_n 1, 1) := by decide +kernel
theorem dJx4a65c_clear_da8c8_33 : decode cJx4a65c_clear_da8c8 33 = .ok (.iload_n 3, 1) := by decide +kernel
theorem dJx4a65c_clear_da8c8_34 : decode cJx4a65c_clear_da8c8 34 = .ok (.aconst_null, 1) := by decide +kernel
theorem dJx4a65c_clear_da8c8_35 : decode cJx4a65c_clear_da8c8 35 = .ok (.aastore, 1) := by decide +kernel
theorem dJx4a65c_clear_da8c8_36 : decode cJx4a65c_clear_da8c8 36 = .ok (.iinc 3 1, 3) := by decide +kernel
theorem dJx4a65c_clear_da8c8_39 : decode cJx4a65c_clear_da8c8 39 = .ok (.goto (-12), 3) := by decide +kernel
theorem dJx4a65c_clear_da8c8_42 : decode cJx4a65c_clear_da8c8 42 = .ok (.return_, 1) := by decide +kernel
theorem dJ7_copyOf_1904c_0 : decode cJ7_copyOf_1904c 0 = .ok (.aload_n 0, 1) := by decide +kernel
theorem dJ7_copyOf_1904c_1 : decode cJ7_copyOf_1904c 1 = .ok (.iload_n 1, 1) := by decide +kernel
theorem dJ7_copyOf_1904c_2 : decode cJ7_copyOf_1904c 2 = .ok (.aload_n 0, 1) := by decide +kernel
theorem dJ7_copyOf_1904c_3 : decode cJ7_copyOf_1904c 3 = .ok (.invokevirtual 86, 3) := by decide +kernel
theorem dJ7_copyOf_1904c_6 : decode cJ7_copyOf_1904c 6 = .ok (.invokestatic 300, 3) := by decide +kernel
theorem dJ7_copyOf_1904c_9 : decode cJ7_copyOf_1904c 9 = .ok (.areturn, 1) := by decide +kernel
theorem dJ7_copyOf_6403c_0 : decode cJ7_copyOf_6403c 0 = .ok (.aload_n 2, 1) := by decide +kernel
theorem dJ7_copyOf_6403c_1 : decode cJ7_copyOf_6403c 1 = .ok (.ldc 110, 2) := by decide +kernel
theorem dJ7_copyOf_6403c_3 : decode cJ7_copyOf_6403c 3 = .ok (.if_acmp .ne 10, 3) := by decide +kernel
theorem dJ7_copyOf_6403c_6 : decode cJ7_copyOf_6403c 6 = .ok (.iload_n 1, 1) := by decide +kernel
theorem dJ7_copyOf_6403c_7 : decode cJ7_copyOf_6403c 7 = .ok (.anewarray 2, 3) := by decide +kernel
theorem dJ7_copyOf_6403c_10 : decode cJ7_copyOf_6403c 10 = .ok (.goto 14, 3) := by decide +kernel
theorem dJ7_copyOf_6403c_13 : decode cJ7_copyOf_6403c 13 = .ok (.aload_n 2, 1) := by decide +kernel
theorem dJ7_copyOf_6403c_14 : decode cJ7_copyOf_6403c 14 = .ok (.invokevirtual 90, 3) := by decide +kernel
theorem dJ7_copyOf_6403c_17 : decode cJ7_copyOf_6403c 17 = .ok (.iload_n 1, 1) := by decide +kernel
theorem dJ7_copyOf_6403c_18 : decode cJ7_copyOf_6403c 18 = .ok (.invokestatic 95, 3) := by decide +kernel
theorem dJ7_copyOf_6403c_21 : decode cJ7_copyOf_6403c 21 = .ok (.checkcast 110, 3) := by decide +kernel
theorem dJ7_copyOf_6403c_24 : decode cJ7_copyOf_6403c 24 = .ok (.astore_n 3, 1) := by decide +kernel
theorem dJ7_copyOf_6403c_25 : decode cJ7_copyOf_6403c 25 = .ok (.aload_n 0, 1) := by decide +kernel
theorem dJ7_copyOf_6403c_26 : decode cJ7_copyOf_6403c 26 = .ok (.iconst 0, 1) := by decide +kernel
theorem dJ7_copyOf_6403c_27 : decode cJ7_copyOf_6403c 27 = .ok (.aload_n 3, 1) := by decide +kernel
theorem dJ7_copyOf_6403c_28 : decode cJ7_copyOf_6403c 28 = .ok (.iconst 0, 1) := by decide +kernel
theorem dJ7_copyOf_6403c_29 : decode cJ7_copyOf_6403c 29 = .ok (.aload_n 0, 1) := by decide +kernel
theorem dJ7_copyOf_6403c_30 : decode cJ7_copyOf_6403c 30 = .ok (.arraylength, 1) := by decide +kernel
theorem dJ7_copyOf_6403c_31 : decode cJ7_copyOf_6403c 31 = .ok (.iload_n 1, 1) := by decide +kernel
theorem dJ7_copyOf_6403c_32 : decode cJ7_copyOf_6403c 32 = .ok (.invokestatic 304, 3) := by decide +kernel
theorem dJ7_copyOf_6403c_35 : decode cJ7_copyOf_6403c 35 = .ok (.invokestatic 150, 3) := by decide +kernel
theorem dJ7_copyOf_6403c_38 : decode cJ7_copyOf_6403c 38 = .ok (.aload_n 3, 1) := by decide +kernel
theorem dJ7_copyOf_6403c_39 : decode cJ7_copyOf_6403c 39 = .ok (.areturn, 1) := by decide +kernel
theorem dJ15_checkIndex_7cf53_0 : decode cJ15_checkIndex_7cf53 0 = .ok (.iload_n 0, 1) := by decide +kernel
theorem dJ15_checkIndex_7cf53_1 : decode cJ15_checkIndex_7cf53 1 = .ok (.iload_n 1, 1) := by decide +kernel
theorem dJ15_checkIndex_7cf53_2 : decode cJ15_checkIndex_7cf53 2 = .ok (.aconst_null, 1) := by decide +kernel
theorem dJ15_checkIndex_7cf53_3 : decode cJ15_checkIndex_7cf53 3 = .ok (.invokestatic 105, 3) := by decide +kernel
theorem dJ15_checkIndex_7cf53_6 : decode cJ15_checkIndex_7cf53 6 = .ok (.ireturn, 1) := by decide +kernel
theorem dJ8_newLength_cabcc_0 : decode cJ8_newLength_cabcc 0 = .ok (.iload_n 0, 1) := by decide +kernel
theorem dJ8_newLength_cabcc_1 : decode cJ8_newLength_cabcc 1 = .ok (.iload_n 1, 1) := by decide +kernel
theorem dJ8_newLength_cabcc_2 : decode cJ8_newLength_cabcc 2 = .ok (.iload_n 2, 1) := by decide +kernel
theorem dJ8_newLength_cabcc_3 : decode cJ8_newLength_cabcc 3 = .ok (.invokestatic 194, 3) := by decide +kernel
theorem dJ8_newLength_cabcc_6 : decode cJ8_newLength_cabcc 6 = .ok (.iadd, 1) := by decide +kernel
theorem dJ8_newLength_cabcc_7 : decode cJ8_newLength_cabcc 7 = .ok (.istore_n 3, 1) := by decide +kernel
theorem dJ8_newLength_cabcc_8 : decode cJ8_newLength_cabcc 8 = .ok (.iconst 0, 1) := by decide +kernel
theorem dJ8_newLength_cabcc_9 : decode cJ8_newLength_cabcc 9 = .ok (.iload_n 3, 1) := by decide +kernel
theorem dJ8_newLength_cabcc_10 : decode cJ8_newLength_cabcc 10 = .ok (.if_icmp .ge 11, 3) := by decide +kernel
theorem dJ8_newLength_cabcc_13 : decode cJ8_newLength_cabcc 13 = .ok (.iload_n 3, 1) := by decide +kernel
theorem dJ8_newLength_cabcc_14 : decode cJ8_newLength_cabcc 14 = .ok (.ldc 200, 2) := by decide +kernel
