theorem dX6_part_0 : decode cX6_part 0 = .ok (.aload_n 0, 1) := by decide +kernel
theorem dX6_part_1 : decode cX6_part 1 = .ok (.getfield 20, 3) := by decide +kernel
theorem dX6_part_4 : decode cX6_part 4 = .ok (.iload_n 1, 1) := by decide +kernel
theorem dX6_part_5 : decode cX6_part 5 = .ok (.invokevirtual 33, 3) := by decide +kernel
theorem dX6_part_8 : decode cX6_part 8 = .ok (.astore 4, 2) := by decide +kernel
theorem dX6_part_10 : decode cX6_part 10 = .ok (.aload 4, 2) := by decide +kernel
theorem dX6_part_12 : decode cX6_part 12 = .ok (.ifnull 12, 3) := by decide +kernel
theorem dX6_part_15 : decode cX6_part 15 = .ok (.iload_n 2, 1) := by decide +kernel
theorem dX6_part_16 : decode cX6_part 16 = .ok (.ifCond .lt 8, 3) := by decide +kernel
theorem dX6_part_19 : decode cX6_part 19 = .ok (.iload_n 2, 1) := by decide +kernel
theorem dX6_part_20 : decode cX6_part 20 = .ok (.iconst 2, 1) := by decide +kernel
theorem dX6_part_21 : decode cX6_part 21 = .ok (.if_icmp .le 5, 3) := by decide +kernel
theorem dX6_part_24 : decode cX6_part 24 = .ok (.iconst (-1), 1) := by decide +kernel
theorem dX6_part_25 : decode cX6_part 25 = .ok (.ireturn, 1) := by decide +kernel
theorem dX6_part_26 : decode cX6_part 26 = .ok (.aload_n 0, 1) := by decide +kernel
theorem dX6_part_27 : decode cX6_part 27 = .ok (.getfield 20, 3) := by decide +kernel
theorem dX6_part_30 : decode cX6_part 30 = .ok (.aload 4, 2) := by decide +kernel
theorem dX6_part_32 : decode cX6_part 32 = .ok (.iload_n 2, 1) := by decide +kernel
theorem dX6_part_33 : decode cX6_part 33 = .ok (.iload_n 3, 1) := by decide +kernel
theorem dX6_part_34 : decode cX6_part 34 = .ok (.invokevirtual 37, 3) := by decide +kernel
theorem dX6_part_37 : decode cX6_part 37 = .ok (.iconst 0, 1) := by decide +kernel
theorem dX6_part_38 : decode cX6_part 38 = .ok (.ireturn, 1) := by decide +kernel
theorem dX6_run_0 : decode cX6_run 0 = .ok (.iload_n 2, 1) := by decide +kernel
theorem dX6_run_1 : decode cX6_run 1 = .ok (.ifCond .lt 10, 3) := by decide +kernel
theorem dX6_run_4 : decode cX6_run 4 = .ok (.iload_n 2, 1) := by decide +kernel
theorem dX6_run_5 : decode cX6_run 5 = .ok (.sipush 10000, 3) := by decide +kernel
theorem dX6_run_8 : decode cX6_run 8 = .ok (.if_icmp .le 6, 3) := by decide +kernel
theorem dX6_run_11 : decode cX6_run 11 = .ok (.bipush (-2), 2) := by decide +kernel
theorem dX6_run_13 : decode cX6_run 13 = .ok (.ireturn, 1) := by decide +kernel
theorem dX6_run_14 : decode cX6_run 14 = .ok (.aload_n 0, 1) := by decide +kernel
theorem dX6_run_15 : decode cX6_run 15 = .ok (.getfield 10, 3) := by decide +kernel
theorem dX6_run_18 : decode cX6_run 18 = .ok (.aload_n 0, 1) := by decide +kernel
theorem dX6_run_19 : decode cX6_run 19 = .ok (.getfield 20, 3) := by decide +kernel
theorem dX6_run_22 : decode cX6_run 22 = .ok (.iload_n 1, 1) := by decide +kernel
theorem dX6_run_23 : decode cX6_run 23 = .ok (.invokevirtual 33, 3) := by decide +kernel
theorem dX6_run_26 : decode cX6_run 26 = .ok (.iload_n 2, 1) := by decide +kernel
theorem dX6_run_27 : decode cX6_run 27 = .ok (.invokevirtual 41, 3) := by decide +kernel
theorem dX6_run_30 : decode cX6_run 30 = .ok (.iconst 0, 1) := by decide +kernel
theorem dX6_run_31 : decode cX6_run 31 = .ok (.istore_n 3, 1) := by decide +kernel
theorem dX6_run_32 : decode cX6_run 32 = .ok (.iload_n 3, 1) := by decide +kernel
theorem dX6_run_33 : decode cX6_run 33 = .ok (.ldc 45, 2) := by decide +kernel
theorem dX6_run_35 : decode cX6_run 35 = .ok (.if_icmp .ge 26, 3) := by decide +kernel
theorem dX6_run_38 : decode cX6_run 38 = .ok (.aload_n 0, 1) := by decide +kernel
theorem dX6_run_39 : decode cX6_run 39 = .ok (.getfield 10, 3) := by decide +kernel
theorem dX6_run_42 : decode cX6_run 42 = .ok (.invokevirtual 46, 3) := by decide +kernel
theorem dX6_run_45 : decode cX6_run 45 = .ok (.ifCond .eq 16, 3) := by decide +kernel
theorem dX6_run_48 : decode cX6_run 48 = .ok (.aload_n 0, 1) := by decide +kernel
theorem dX6_run_49 : decode cX6_run 49 = .ok (.getfield 10, 3) := by decide +kernel
theorem dX6_run_52 : decode cX6_run 52 = .ok (.invokevirtual 50, 3) := by decide +kernel
theorem dX6_run_55 : decode cX6_run 55 = .ok (.iinc 3 1, 3) := by decide +kernel
theorem dX6_run_58 : decode cX6_run 58 = .ok (.goto (-26), 3) := by decide +kernel
theorem dX6_run_61 : decode cX6_run 61 = .ok (.aload_n 0, 1) := by decide +kernel
theorem dX6_run_62 : decode cX6_run 62 = .ok (.getfield 10, 3) := by decide +kernel
theorem dX6_run_65 : decode cX6_run 65 = .ok (.invokevirtual 53, 3) := by decide +kernel
theorem dX6_run_68 : decode cX6_run 68 = .ok (.ireturn, 1) := by decide +kernel
theorem dX6_value_0 : decode cX6_value 0 = .ok (.aload_n 0, 1) := by decide +kernel
theorem dX6_value_1 : decode cX6_value 1 = .ok (.getfield 10, 3) := by decide +kernel
theorem dX6_value_4 : decode cX6_value 4 = .ok (.iload_n 1, 1) := by decide +kernel
theorem dX6_value_5 : decode cX6_value 5 = .ok (.invokevirtual 57, 3) := by decide +kernel
theorem dX6_value_8 : decode cX6_value 8 = .ok (.astore_n 2, 1) := by decide +kernel
theorem dX6_value_9 : decode cX6_value 9 = .ok (.aload_n 2, 1) := by decide +kernel
theorem dX6_value_10 : decode cX6_value 10 = .ok (.ifnull 17, 3) := by decide +kernel
theorem dX6_value_13 : decode cX6_value 13 = .ok (.aload_n 2, 1) := by decide +kernel
theorem dX6_value_14 : decode cX6_value 14 = .ok (.invokevirtual 61, 3) := by decide +kernel
theorem dX6_value_17 : decode cX6_value 17 = .ok (.ifCond .eq 10, 3) := by decide +kernel
theorem dX6_value_20 : decode cX6_value 20 = .ok (.aload_n 2, 1) := by decide +kernel
theorem dX6_value_21 : decode cX6_value 21 = .ok (.getfield 66, 3) := by decide +kernel
theorem dX6_value_24 : decode cX6_value 24 = .ok (.goto 4, 3) := by decide +kernel
theorem dX6_value_27 : decode cX6_value 27 = .ok (.lconst 0, 1) := by decide +kernel
theorem dX6_value_28 : decode cX6_value 28 = .ok (.lreturn, 1) := by decide +kernel
theorem dX6_thing_0 : decode cX6_thing 0 = .ok (.aload_n 0, 1) := by decide +kernel
theorem dX6_thing_1 : decode cX6_thing 1 = .ok (.getfield 10, 3) := by decide +kernel
theorem dX6_thing_4 : decode cX6_thing 4 = .ok (.iload_n 1, 1) := by decide +kernel
theorem dX6_thing_5 : decode cX6_thing 5 = .ok (.invokevirtual 70, 3) := by decide +kernel
theorem dX6_thing_8 : decode cX6_thing 8 = .ok (.ifCond .ne 5, 3) := by decide +kernel
theorem dX6_thing_11 : decode cX6_thing 11 = .ok (.iconst (-1), 1) := by decide +kernel
theorem dX6_thing_12 : decode cX6_thing 12 = .ok (.ireturn, 1) := by decide +kernel
theorem dX6_thing_13 : decode cX6_thing 13 = .ok (.aload_n 0, 1) := by decide +kernel
theorem dX6_thing_14 : decode cX6_thing 14 = .ok (.getfield 10, 3) := by decide +kernel
theorem dX6_thing_17 : decode cX6_thing 17 = .ok (.iload_n 1, 1) := by decide +kernel
theorem dX6_thing_18 : decode cX6_thing 18 = .ok (.invokevirtual 57, 3) := by decide +kernel
theorem dX6_thing_21 : decode cX6_thing 21 = .ok (.astore_n 3, 1) := by decide +kernel
theorem dX6_thing_22 : decode cX6_thing 22 = .ok (.iload_n 2, 1) := by decide +kernel
theorem dX6_thing_23 : decode cX6_thing 23 = .ok (.ifCond .ne 16, 3) := by decide +kernel
theorem dX6_thing_26 : decode cX6_thing 26 = .ok (.aload_n 3, 1) := by decide +kernel
theorem dX6_thing_27 : decode cX6_thing 27 = .ok (.ifnonnull 7, 3) := by decide +kernel
theorem dX6_thing_30 : decode cX6_thing 30 = .ok (.iconst 0, 1) := by decide +kernel
theorem dX6_thing_31 : decode cX6_thing 31 = .ok (.goto 7, 3) := by decide +kernel
theorem dX6_thing_34 : decode cX6_thing 34 = .ok (.aload_n 3, 1) := by decide +kernel
theorem dX6_thing_35 : decode cX6_thing 35 = .ok (.getfield 74, 3) := by decide +kernel
theorem dX6_thing_38 : decode cX6_thing 38 = .ok (.ireturn, 1) := by decide +kernel
theorem dX6_thing_39 : decode cX6_thing 39 = .ok (.aload_n 3, 1) := by decide +kernel
theorem dX6_thing_40 : decode cX6_thing 40 = .ok (.ifnonnull 7, 3) := by decide +kernel
theorem dX6_thing_43 : decode cX6_thing 43 = .ok (.iconst (-1), 1) := by decide +kernel
theorem dX6_thing_44 : decode cX6_thing 44 = .ok (.goto 8, 3) := by decide +kernel
theorem dX6_thing_47 : decode cX6_thing 47 = .ok (.aload_n 3, 1) := by decide +kernel
theorem dX6_thing_48 : decode cX6_thing 48 = .ok (.iload_n 2, 1) := by decide +kernel
theorem dX6_thing_49 : decode cX6_thing 49 = .ok (.invokevirtual 78, 3) := by decide +kernel
theorem dX6_thing_52 : decode cX6_thing 52 = .ok (.ireturn, 1) := by decide +kernel
theorem dX6_fault_0 : decode cX6_fault 0 = .ok (.aload_n 0, 1) := by decide +kernel
theorem dX6_fault_1 : decode cX6_fault 1 = .ok (.getfield 10, 3) := by decide +kernel
theorem dX6_fault_4 : decode cX6_fault 4 = .ok (.getfield 82, 3) := by decide +kernel
theorem dX6_fault_7 : decode cX6_fault 7 = .ok (.ireturn, 1) := by decide +kernel
theorem dX6_faultNode_0 : decode cX6_faultNode 0 = .ok (.aload_n 0, 1) := by decide +kernel
theorem dX6_faultNode_1 : decode cX6_faultNode 1 = .ok (.getfield 10, 3) := by decide +kernel
theorem dX6_faultNode_4 : decode cX6_faultNode 4 = .ok (.getfield 85, 3) := by decide +kernel
theorem dX6_faultNode_7 : decode cX6_faultNode 7 = .ok (.ireturn, 1) := by decide +kernel
theorem dX6_steps_0 : decode cX6_steps 0 = .ok (.aload_n 0, 1) := by decide +kernel
theorem dX6_steps_1 : decode cX6_steps 1 = .ok (.getfield 10, 3) := by decide +kernel
theorem dX6_steps_4 : decode cX6_steps 4 = .ok (.getfield 88, 3) := by decide +kernel
theorem dX6_steps_7 : decode cX6_steps 7 = .ok (.ireturn, 1) := by decide +kernel
theorem dX6_wipe_0 : decode cX6_wipe 0 = .ok (.aload_n 0, 1) := by decide +kernel
theorem dX6_wipe_1 : decode cX6_wipe 1 = .ok (.getfield 20, 3) := by decide +kernel
theorem dX6_wipe_4 : decode cX6_wipe 4 = .ok (.invokevirtual 91, 3) := by decide +kernel
theorem dX6_wipe_7 : decode cX6_wipe 7 = .ok (.aload_n 0, 1) := by decide +kernel
theorem dX6_wipe_8 : decode cX6_wipe 8 = .ok (.getfield 10, 3) := by decide +kernel
theorem dX6_wipe_11 : decode cX6_wipe 11 = .ok (.invokevirtual 94, 3) := by decide +kernel
theorem dX6_wipe_14 : decode cX6_wipe 14 = .ok (.return_, 1) := by decide +kernel
theorem dX7_init_0 : decode cX7_init 0 = .ok (.aload_n 0, 1) := by decide +kernel
theorem dX7_init_1 : decode cX7_init 1 = .ok (.invokespecial 1, 3) := by decide +kernel
theorem dX7_init_4 : decode cX7_init 4 = .ok (.aload_n 0, 1) := by decide +kernel
theorem dX7_init_5 : decode cX7_init 5 = .ok (.bipush 21, 2) := by decide +kernel
theorem dX7_init_7 : decode cX7_init 7 = .ok (.newarray .int, 2) := by decide +kernel
theorem dX7_init_9 : decode cX7_init 9 = .ok (.dup, 1) := by decide +kernel
theorem dX7_init_10 : decode cX7_init 10 = .ok (.iconst 0, 1) := by decide +kernel
theorem dX7_init_11 : decode cX7_init 11 = .ok (.iconst 0, 1) := by decide +kernel
theorem dX7_init_12 : decode cX7_init 12 = .ok (.iastore, 1) := by decide +kernel
theorem dX7_init_13 : decode cX7_init 13 = .ok (.dup, 1) := by decide +kernel
theorem dX7_init_14 : decode cX7_init 14 = .ok (.iconst 1, 1) := by decide +kernel
theorem dX7_init_15 : decode cX7_init 15 = .ok (.iconst 0, 1) := by decide +kernel
theorem dX7_init_16 : decode cX7_init 16 = .ok (.iastore, 1) := by decide +kernel
theorem dX7_init_17 : decode cX7_init 17 = .ok (.dup, 1) := by decide +kernel
theorem dX7_init_18 : decode cX7_init 18 = .ok (.iconst 2, 1) := by decide +kernel
theorem dX7_init_19 : decode cX7_init 19 = .ok (.iconst 2, 1) := by decide +kernel
theorem dX7_init_20 : decode cX7_init 20 = .ok (.iastore, 1) := by decide +kernel
theorem dX7_init_21 : decode cX7_init 21 = .ok (.dup, 1) := by decide +kernel
theorem dX7_init_22 : decode cX7_init 22 = .ok (.iconst 3, 1) := by decide +kernel
theorem dX7_init_23 : decode cX7_init 23 = .ok (.iconst 3, 1) := by decide +kernel
theorem dX7_init_24 : decode cX7_init 24 = .ok (.iastore, 1) := by decide +kernel
theorem dX7_init_25 : decode cX7_init 25 = .ok (.dup, 1) := by decide +kernel
theorem dX7_init_26 : decode cX7_init 26 = .ok (.iconst 4, 1) := by decide +kernel
theorem dX7_init_27 : decode cX7_init 27 = .ok (.iconst 3, 1) := by decide +kernel
theorem dX7_init_28 : decode cX7_init 28 = .ok (.iastore, 1) := by decide +kernel
theorem dX7_init_29 : decode cX7_init 29 = .ok (.dup, 1) := by decide +kernel
theorem dX7_init_30 : decode cX7_init 30 = .ok (.iconst 5, 1) := by decide +kernel
theorem dX7_init_31 : decode cX7_init 31 = .ok (.iconst 1, 1) := by decide +kernel
theorem dX7_init_32 : decode cX7_init 32 = .ok (.iastore, 1) := by decide +kernel
theorem dX7_init_33 : decode cX7_init 33 = .ok (.dup, 1) := by decide +kernel
theorem dX7_init_34 : decode cX7_init 34 = .ok (.bipush 6, 2) := by decide +kernel
theorem dX7_init_36 : decode cX7_init 36 = .ok (.iconst 1, 1) := by decide +kernel
theorem dX7_init_37 : decode cX7_init 37 = .ok (.iastore, 1) := by decide +kernel
theorem dX7_init_38 : decode cX7_init 38 = .ok (.dup, 1) := by decide +kernel
theorem dX7_init_39 : decode cX7_init 39 = .ok (.bipush 7, 2) := by decide +kernel
theorem dX7_init_41 : decode cX7_init 41 = .ok (.iconst 5, 1) := by decide +kernel
theorem dX7_init_42 : decode cX7_init 42 = .ok (.iastore, 1) := by decide +kernel
theorem dX7_init_43 : decode cX7_init 43 = .ok (.dup, 1) := by decide +kernel
theorem dX7_init_44 : decode cX7_init 44 = .ok (.bipush 8, 2) := by decide +kernel
theorem dX7_init_46 : decode cX7_init 46 = .ok (.iconst 1, 1) := by decide +kernel
theorem dX7_init_47 : decode cX7_init 47 = .ok (.iastore, 1) := by decide +kernel
theorem dX7_init_48 : decode cX7_init 48 = .ok (.dup, 1) := by decide +kernel
theorem dX7_init_49 : decode cX7_init 49 = .ok (.bipush 9, 2) := by decide +kernel
theorem dX7_init_51 : decode cX7_init 51 = .ok (.iconst 1, 1) := by decide +kernel
theorem dX7_init_52 : decode cX7_init 52 = .ok (.iastore, 1) := by decide +kernel
theorem dX7_init_53 : decode cX7_init 53 = .ok (.dup, 1) := by decide +kernel
theorem dX7_init_54 : decode cX7_init 54 = .ok (.bipush 10, 2) := by decide +kernel
theorem dX7_init_56 : decode cX7_init 56 = .ok (.iconst 5, 1) := by decide +kernel
theorem dX7_init_57 : decode cX7_init 57 = .ok (.iastore, 1) := by decide +kernel
theorem dX7_init_58 : decode cX7_init 58 = .ok (.dup, 1) := by decide +kernel
theorem dX7_init_59 : decode cX7_init 59 = .ok (.bipush 11, 2) := by decide +kernel
theorem dX7_init_61 : decode cX7_init 61 = .ok (.iconst 2, 1) := by decide +kernel
theorem dX7_init_62 : decode cX7_init 62 = .ok (.iastore, 1) := by decide +kernel
theorem dX7_init_63 : decode cX7_init 63 = .ok (.dup, 1) := by decide +kernel
theorem dX7_init_64 : decode cX7_init 64 = .ok (.bipush 12, 2) := by decide +kernel
theorem dX7_init_66 : decode cX7_init 66 = .ok (.bipush 7, 2) := by decide +kernel
theorem dX7_init_68 : decode cX7_init 68 = .ok (.iastore, 1) := by decide +kernel
theorem dX7_init_69 : decode cX7_init 69 = .ok (.dup, 1) := by decide +kernel
theorem dX7_init_70 : decode cX7_init 70 = .ok (.bipush 13, 2) := by decide +kernel
theorem dX7_init_72 : decode cX7_init 72 = .ok (.iconst 3, 1) := by decide +kernel
theorem dX7_init_73 : decode cX7_init 73 = .ok (.iastore, 1) := by decide +kernel
theorem dX7_init_74 : decode cX7_init 74 = .ok (.dup, 1) := by decide +kernel
theorem dX7_init_75 : decode cX7_init 75 = .ok (.bipush 14, 2) := by decide +kernel
theorem dX7_init_77 : decode cX7_init 77 = .ok (.iconst 1, 1) := by decide +kernel
theorem dX7_init_78 : decode cX7_init 78 = .ok (.iastore, 1) := by decide +kernel
theorem dX7_init_79 : decode cX7_init 79 = .ok (.dup, 1) := by decide +kernel
theorem dX7_init_80 : decode cX7_init 80 = .ok (.bipush 15, 2) := by decide +kernel
theorem dX7_init_82 : decode cX7_init 82 = .ok (.iconst 5, 1) := by decide +kernel
theorem dX7_init_83 : decode cX7_init 83 = .ok (.iastore, 1) := by decide +kernel
theorem dX7_init_84 : decode cX7_init 84 = .ok (.dup, 1) := by decide +kernel
theorem dX7_init_85 : decode cX7_init 85 = .ok (.bipush 16, 2) := by decide +kernel
theorem dX7_init_87 : decode cX7_init 87 = .ok (.iconst 1, 1) := by decide +kernel
theorem dX7_init_88 : decode cX7_init 88 = .ok (.iastore, 1) := by decide +kernel
theorem dX7_init_89 : decode cX7_init 89 = .ok (.dup, 1) := by decide +kernel
theorem dX7_init_90 : decode cX7_init 90 = .ok (.bipush 17, 2) := by decide +kernel
theorem dX7_init_92 : decode cX7_init 92 = .ok (.iconst 1, 1) := by decide +kernel
theorem dX7_init_93 : decode cX7_init 93 = .ok (.iastore, 1) := by decide +kernel
theorem dX7_init_94 : decode cX7_init 94 = .ok (.dup, 1) := by decide +kernel
theorem dX7_init_95 : decode cX7_init 95 = .ok (.bipush 18, 2) := by decide +kernel
theorem dX7_init_97 : decode cX7_init 97 = .ok (.iconst 3, 1) := by decide +kernel
theorem dX7_init_98 : decode cX7_init 98 = .ok (.iastore, 1) := by decide +kernel
theorem dX7_init_99 : decode cX7_init 99 = .ok (.dup, 1) := by decide +kernel
theorem dX7_init_100 : decode cX7_init 100 = .ok (.bipush 19, 2) := by decide +kernel
theorem dX7_init_102 : decode cX7_init 102 = .ok (.bipush 7, 2) := by decide +kernel
theorem dX7_init_104 : decode cX7_init 104 = .ok (.iastore, 1) := by decide +kernel
theorem dX7_init_105 : decode cX7_init 105 = .ok (.dup, 1) := by decide +kernel
theorem dX7_init_106 : decode cX7_init 106 = .ok (.bipush 20, 2) := by decide +kernel
theorem dX7_init_108 : decode cX7_init 108 = .ok (.iconst 3, 1) := by decide +kernel
theorem dX7_init_109 : decode cX7_init 109 = .ok (.iastore, 1) := by decide +kernel
theorem dX7_init_110 : decode cX7_init 110 = .ok (.putfield 7, 3) := by decide +kernel
theorem dX7_init_113 : decode cX7_init 113 = .ok (.aload_n 0, 1) := by decide +kernel
theorem dX7_init_114 : decode cX7_init 114 = .ok (.sipush 4000, 3) := by decide +kernel
theorem dX7_init_117 : decode cX7_init 117 = .ok (.newarray .int, 2) := by decide +kernel
theorem dX7_init_119 : decode cX7_init 119 = .ok (.putfield 13, 3) := by decide +kernel
theorem dX7_init_122 : decode cX7_init 122 = .ok (.aload_n 0, 1) := by decide +kernel
theorem dX7_init_123 : decode cX7_init 123 = .ok (.sipush 12000, 3) := by decide +kernel
theorem dX7_init_126 : decode cX7_init 126 = .ok (.newarray .int, 2) := by decide +kernel
theorem dX7_init_128 : decode cX7_init 128 = .ok (.putfield 16, 3) := by decide +kernel
theorem dX7_init_131 : decode cX7_init 131 = .ok (.aload_n 0, 1) := by decide +kernel
theorem dX7_init_132 : decode cX7_init 132 = .ok (.sipush 4000, 3) := by decide +kernel
theorem dX7_init_135 : decode cX7_init 135 = .ok (.newarray .long, 2) := by decide +kernel
theorem dX7_init_137 : decode cX7_init 137 = .ok (.putfield 19, 3) := by decide +kernel
theorem dX7_init_140 : decode cX7_init 140 = .ok (.aload_n 0, 1) := by decide +kernel
theorem dX7_init_141 : decode cX7_init 141 = .ok (.ldc 23, 2) := by decide +kernel
theorem dX7_init_143 : decode cX7_init 143 = .ok (.newarray .int, 2) := by decide +kernel
theorem dX7_init_145 : decode cX7_init 145 = .ok (.putfield 24, 3) := by decide +kernel
theorem dX7_init_148 : decode cX7_init 148 = .ok (.aload_n 0, 1) := by decide +kernel
theorem dX7_init_149 : decode cX7_init 149 = .ok (.ldc 23, 2) := by decide +kernel
theorem dX7_init_151 : decode cX7_init 151 = .ok (.newarray .int, 2) := by decide +kernel
theorem dX7_init_153 : decode cX7_init 153 = .ok (.putfield 27, 3) := by decide +kernel
theorem dX7_init_156 : decode cX7_init 156 = .ok (.aload_n 0, 1) := by decide +kernel
theorem dX7_init_157 : decode cX7_init 157 = .ok (.ldc 23, 2) := by decide +kernel
theorem dX7_init_159 : decode cX7_init 159 = .ok (.newarray .int, 2) := by decide +kernel
theorem dX7_init_161 : decode cX7_init 161 = .ok (.putfield 30, 3) := by decide +kernel
theorem dX7_init_164 : decode cX7_init 164 = .ok (.aload_n 0, 1) := by decide +kernel
theorem dX7_init_165 : decode cX7_init 165 = .ok (.ldc 23, 2) := by decide +kernel
theorem dX7_init_167 : decode cX7_init 167 = .ok (.newarray .long, 2) := by decide +kernel
theorem dX7_init_169 : decode cX7_init 169 = .ok (.putfield 33, 3) := by decide +kernel
theorem dX7_init_172 : decode cX7_init 172 = .ok (.aload_n 0, 1) := by decide +kernel
theorem dX7_init_173 : decode cX7_init 173 = .ok (.sipush 20000, 3) := by decide +kernel
theorem dX7_init_176 : decode cX7_init 176 = .ok (.newarray .int, 2) := by decide +kernel
theorem dX7_init_178 : decode cX7_init 178 = .ok (.putfield 36, 3) := by decide +kernel
theorem dX7_init_181 : decode cX7_init 181 = .ok (.aload_n 0, 1) := by decide +kernel
theorem dX7_init_182 : decode cX7_init 182 = .ok (.sipush 256, 3) := by decide +kernel
theorem dX7_init_185 : decode cX7_init 185 = .ok (.newarray .int, 2) := by decide +kernel
theorem dX7_init_187 : decode cX7_init 187 = .ok (.putfield 39, 3) := by decide +kernel
theorem dX7_init_190 : decode cX7_init 190 = .ok (.aload_n 0, 1) := by decide +kernel
theorem dX7_init_191 : decode cX7_init 191 = .ok (.iconst (-1), 1) := by decide +kernel
theorem dX7_init_192 : decode cX7_init 192 = .ok (.putfield 42, 3) := by decide +kernel
theorem dX7_init_195 : decode cX7_init 195 = .ok (.aload_n 0, 1) := by decide +kernel
theorem dX7_init_196 : decode cX7_init 196 = .ok (.sipush 201, 3) := by decide +kernel
theorem dX7_init_199 : decode cX7_init 199 = .ok (.newarray .int, 2) := by decide +kernel
theorem dX7_init_201 : decode cX7_init 201 = .ok (.putfield 46, 3) := by decide +kernel
theorem dX7_init_204 : decode cX7_init 204 = .ok (.aload_n 0, 1) := by decide +kernel
theorem dX7_init_205 : decode cX7_init 205 = .ok (.sipush 201, 3) := by decide +kernel
theorem dX7_init_208 : decode cX7_init 208 = .ok (.newarray .int, 2) := by decide +kernel
theorem dX7_init_210 : decode cX7_init 210 = .ok (.putfield 49, 3) := by decide +kernel
theorem dX7_init_213 : decode cX7_init 213 = .ok (.aload_n 0, 1) := by decide +kernel
theorem dX7_init_214 : decode cX7_init 214 = .ok (.sipush 603, 3) := by decide +kernel
theorem dX7_init_217 : decode cX7_init 217 = .ok (.newarray .int, 2) := by decide +kernel
theorem dX7_init_219 : decode cX7_init 219 = .ok (.putfield 52, 3) := by decide +kernel
theorem dX7_init_222 : decode cX7_init 222 = .ok (.aload_n 0, 1) := by decide +kernel
theorem dX7_init_223 : decode cX7_init 223 = .ok (.sipush 201, 3) := by decide +kernel
theorem dX7_init_226 : decode cX7_init 226 = .ok (.newarray .long, 2) := by decide +kernel
theorem dX7_init_228 : decode cX7_init 228 = .ok (.putfield 55, 3) := by decide +kernel
theorem dX7_init_231 : decode cX7_init 231 = .ok (.aload_n 0, 1) := by decide +kernel
theorem dX7_init_232 : decode cX7_init 232 = .ok (.iconst (-1), 1) := by decide +kernel
theorem dX7_init_233 : decode cX7_init 233 = .ok (.putfield 58, 3) := by decide +kernel
theorem dX7_init_236 : decode cX7_init 236 = .ok (.aload_n 0, 1) := by decide +kernel
theorem dX7_init_237 : decode cX7_init 237 = .ok (.iconst (-1), 1) := by decide +kernel
theorem dX7_init_238 : decode cX7_init 238 = .ok (.putfield 61, 3) := by decide +kernel
theorem dX7_init_241 : decode cX7_init 241 = .ok (.iconst 0, 1) := by decide +kernel
theorem dX7_init_242 : decode cX7_init 242 = .ok (.istore_n 1, 1) := by decide +kernel
theorem dX7_init_243 : decode cX7_init 243 = .ok (.iload_n 1, 1) := by decide +kernel
theorem dX7_init_244 : decode cX7_init 244 = .ok (.sipush 256, 3) := by decide +kernel
theorem dX7_init_247 : decode cX7_init 247 = .ok (.if_icmp .ge 16, 3) := by decide +kernel
theorem dX7_init_250 : decode cX7_init 250 = .ok (.aload_n 0, 1) := by decide +kernel
theorem dX7_init_251 : decode cX7_init 251 = .ok (.getfield 39, 3) := by decide +kernel
theorem dX7_init_254 : decode cX7_init 254 = .ok (.iload_n 1, 1) := by decide +kernel
theorem dX7_init_255 : decode cX7_init 255 = .ok (.iconst (-1), 1) := by decide +kernel
theorem dX7_init_256 : decode cX7_init 256 = .ok (.iastore, 1) := by decide +kernel
theorem dX7_init_257 : decode cX7_init 257 = .ok (.iinc 1 1, 3) := by decide +kernel
theorem dX7_init_260 : decode cX7_init 260 = .ok (.goto (-17), 3) := by decide +kernel
theorem dX7_init_263 : decode cX7_init 263 = .ok (.return_, 1) := by decide +kernel
theorem dX7_lit_0 : decode cX7_lit 0 = .ok (.aload_n 0, 1) := by decide +kernel
theorem dX7_lit_1 : decode cX7_lit 1 = .ok (.getfield 64, 3) := by decide +kernel
theorem dX7_lit_4 : decode cX7_lit 4 = .ok (.sipush 4000, 3) := by decide +kernel
theorem dX7_lit_7 : decode cX7_lit 7 = .ok (.if_icmp .ne 5, 3) := by decide +kernel
theorem dX7_lit_10 : decode cX7_lit 10 = .ok (.iconst (-1), 1) := by decide +kernel
theorem dX7_lit_11 : decode cX7_lit 11 = .ok (.ireturn, 1) := by decide +kernel
theorem dX7_lit_12 : decode cX7_lit 12 = .ok (.aload_n 0, 1) := by decide +kernel
theorem dX7_lit_13 : decode cX7_lit 13 = .ok (.getfield 13, 3) := by decide +kernel
theorem dX7_lit_16 : decode cX7_lit 16 = .ok (.aload_n 0, 1) := by decide +kernel
theorem dX7_lit_17 : decode cX7_lit 17 = .ok (.getfield 64, 3) := by decide +kernel
theorem dX7_lit_20 : decode cX7_lit 20 = .ok (.iconst 0, 1) := by decide +kernel
theorem dX7_lit_21 : decode cX7_lit 21 = .ok (.iastore, 1) := by decide +kernel
theorem dX7_lit_22 : decode cX7_lit 22 = .ok (.aload_n 0, 1) := by decide +kernel
theorem dX7_lit_23 : decode cX7_lit 23 = .ok (.getfield 19, 3) := by decide +kernel
theorem dX7_lit_26 : decode cX7_lit 26 = .ok (.aload_n 0, 1) := by decide +kernel
theorem dX7_lit_27 : decode cX7_lit 27 = .ok (.getfield 64, 3) := by decide +kernel
theorem dX7_lit_30 : decode cX7_lit 30 = .ok (.lload_n 1, 1) := by decide +kernel
theorem dX7_lit_31 : decode cX7_lit 31 = .ok (.lastore, 1) := by decide +kernel
theorem dX7_lit_32 : decode cX7_lit 32 = .ok (.aload_n 0, 1) := by decide +kernel
theorem dX7_lit_33 : decode cX7_lit 33 = .ok (.dup, 1) := by decide +kernel
theorem dX7_lit_34 : decode cX7_lit 34 = .ok (.getfield 64, 3) := by decide +kernel
theorem dX7_lit_37 : decode cX7_lit 37 = .ok (.iconst 1, 1) := by decide +kernel
theorem dX7_lit_38 : decode cX7_lit 38 = .ok (.iadd, 1) := by decide +kernel
theorem dX7_lit_39 : decode cX7_lit 39 = .ok (.putfield 64, 3) := by decide +kernel
theorem dX7_lit_42 : decode cX7_lit 42 = .ok (.aload_n 0, 1) := by decide +kernel
theorem dX7_lit_43 : decode cX7_lit 43 = .ok (.getfield 64, 3) := by decide +kernel
theorem dX7_lit_46 : decode cX7_lit 46 = .ok (.iconst 1, 1) := by decide +kernel
theorem dX7_lit_47 : decode cX7_lit 47 = .ok (.isub, 1) := by decide +kernel
theorem dX7_lit_48 : decode cX7_lit 48 = .ok (.ireturn, 1) := by decide +kernel
theorem dX7_isNode_0 : decode cX7_isNode 0 = .ok (.aload_n 0, 1) := by decide +kernel
theorem dX7_isNode_1 : decode cX7_isNode 1 = .ok (.getfield 7, 3) := by decide +kernel
theorem dX7_isNode_4 : decode cX7_isNode 4 = .ok (.aload_n 0, 1) := by decide +kernel
theorem dX7_isNode_5 : decode cX7_isNode 5 = .ok (.getfield 13, 3) := by decide +kernel
theorem dX7_isNode_8 : decode cX7_isNode 8 = .ok (.iload_n 1, 1) := by decide +kernel
theorem dX7_isNode_9 : decode cX7_isNode 9 = .ok (.iaload, 1) := by decide +kernel
theorem dX7_isNode_10 : decode cX7_isNode 10 = .ok (.iaload, 1) := by decide +kernel
theorem dX7_isNode_11 : decode cX7_isNode 11 = .ok (.iload_n 2, 1) := by decide +kernel
theorem dX7_isNode_12 : decode cX7_isNode 12 = .ok (.ishr, 1) := by decide +kernel
theorem dX7_isNode_13 : decode cX7_isNode 13 = .ok (.iconst 1, 1) := by decide +kernel
theorem dX7_isNode_14 : decode cX7_isNode 14 = .ok (.iand, 1) := by decide +kernel
theorem dX7_isNode_15 : decode cX7_isNode 15 = .ok (.iconst 1, 1) := by decide +kernel
theorem dX7_isNode_16 : decode cX7_isNode 16 = .ok (.if_icmp .ne 7, 3) := by decide +kernel
theorem dX7_isNode_19 : decode cX7_isNode 19 = .ok (.iconst 1, 1) := by decide +kernel
theorem dX7_isNode_20 : decode cX7_isNode 20 = .ok (.goto 4, 3) := by decide +kernel
theorem dX7_isNode_23 : decode cX7_isNode 23 = .ok (.iconst 0, 1) := by decide +kernel
theorem dX7_isNode_24 : decode cX7_isNode 24 = .ok (.ireturn, 1) := by decide +kernel
theorem dX7_join_0 : decode cX7_join 0 = .ok (.aload_n 0, 1) := by decide +kernel
theorem dX7_join_1 : decode cX7_join 1 = .ok (.getfield 16, 3) := by decide +kernel
theorem dX7_join_4 : decode cX7_join 4 = .ok (.iconst 3, 1) := by decide +kernel
theorem dX7_join_5 : decode cX7_join 5 = .ok (.iload_n 1, 1) := by decide +kernel
theorem dX7_join_6 : decode cX7_join 6 = .ok (.imul, 1) := by decide +kernel
theorem dX7_join_7 : decode cX7_join 7 = .ok (.iload_n 2, 1) := by decide +kernel
theorem dX7_join_8 : decode cX7_join 8 = .ok (.iadd, 1) := by decide +kernel
theorem dX7_join_9 : decode cX7_join 9 = .ok (.aload_n 0, 1) := by decide +kernel
theorem dX7_join_10 : decode cX7_join 10 = .ok (.iload_n 1, 1) := by decide +kernel
theorem dX7_join_11 : decode cX7_join 11 = .ok (.iload_n 2, 1) := by decide +kernel
theorem dX7_join_12 : decode cX7_join 12 = .ok (.invokevirtual 67, 3) := by decide +kernel
theorem dX7_join_15 : decode cX7_join 15 = .ok (.ifCond .eq 19, 3) := by decide +kernel
theorem dX7_join_18 : decode cX7_join 18 = .ok (.iload_n 3, 1) := by decide +kernel
theorem dX7_join_19 : decode cX7_join 19 = .ok (.ifCond .lt 11, 3) := by decide +kernel
theorem dX7_join_22 : decode cX7_join 22 = .ok (.iload_n 3, 1) := by decide +kernel
theorem dX7_join_23 : decode cX7_join 23 = .ok (.aload_n 0, 1) := by decide +kernel
theorem dX7_join_24 : decode cX7_join 24 = .ok (.getfield 64, 3) := by decide +kernel
theorem dX7_join_27 : decode cX7_join 27 = .ok (.if_icmp .lt 7, 3) := by decide +kernel
theorem dX7_join_30 : decode cX7_join 30 = .ok (.iconst (-1), 1) := by decide +kernel
theorem dX7_join_31 : decode cX7_join 31 = .ok (.goto 4, 3) := by decide +kernel
theorem dX7_join_34 : decode cX7_join 34 = .ok (.iload_n 3, 1) := by decide +kernel
theorem dX7_join_35 : decode cX7_join 35 = .ok (.iastore, 1) := by decide +kernel
theorem dX7_join_36 : decode cX7_join 36 = .ok (.return_, 1) := by decide +kernel
theorem dX7_node_0 : decode cX7_node 0 = .ok (.iload_n 1, 1) := by decide +kernel
theorem dX7_node_1 : decode cX7_node 1 = .ok (.iconst 1, 1) := by decide +kernel
theorem dX7_node_2 : decode cX7_node 2 = .ok (.if_icmp .lt 19, 3) := by decide +kernel
theorem dX7_node_5 : decode cX7_node 5 = .ok (.iload_n 1, 1) := by decide +kernel
theorem dX7_node_6 : decode cX7_node 6 = .ok (.bipush 20, 2) := by decide +kernel
theorem dX7_node_8 : decode cX7_node 8 = .ok (.if_icmp .gt 13, 3) := by decide +kernel
theorem dX7_node_11 : decode cX7_node 11 = .ok (.aload_n 0, 1) := by decide +kernel
theorem dX7_node_12 : decode cX7_node 12 = .ok (.getfield 64, 3) := by decide +kernel
theorem dX7_node_15 : decode cX7_node 15 = .ok (.sipush 4000, 3) := by decide +kernel
theorem dX7_node_18 : decode cX7_node 18 = .ok (.if_icmp .ne 5, 3) := by decide +kernel
theorem dX7_node_21 : decode cX7_node 21 = .ok (.iconst (-1), 1) := by decide +kernel
theorem dX7_node_22 : decode cX7_node 22 = .ok (.ireturn, 1) := by decide +kernel
theorem dX7_node_23 : decode cX7_node 23 = .ok (.aload_n 0, 1) := by decide +kernel
theorem dX7_node_24 : decode cX7_node 24 = .ok (.getfield 13, 3) := by decide +kernel
theorem dX7_node_27 : decode cX7_node 27 = .ok (.aload_n 0, 1) := by decide +kernel
theorem dX7_node_28 : decode cX7_node 28 = .ok (.getfield 64, 3) := by decide +kernel
theorem dX7_node_31 : decode cX7_node 31 = .ok (.iload_n 1, 1) := by decide +kernel
theorem dX7_node_32 : decode cX7_node 32 = .ok (.iastore, 1) := by decide +kernel
theorem dX7_node_33 : decode cX7_node 33 = .ok (.aload_n 0, 1) := by decide +kernel
theorem dX7_node_34 : decode cX7_node 34 = .ok (.aload_n 0, 1) := by decide +kernel
theorem dX7_node_35 : decode cX7_node 35 = .ok (.getfield 64, 3) := by decide +kernel
theorem dX7_node_38 : decode cX7_node 38 = .ok (.iconst 0, 1) := by decide +kernel
theorem dX7_node_39 : decode cX7_node 39 = .ok (.iload_n 2, 1) := by decide +kernel
theorem dX7_node_40 : decode cX7_node 40 = .ok (.invokevirtual 71, 3) := by decide +kernel
theorem dX7_node_43 : decode cX7_node 43 = .ok (.aload_n 0, 1) := by decide +kernel
theorem dX7_node_44 : decode cX7_node 44 = .ok (.aload_n 0, 1) := by decide +kernel
theorem dX7_node_45 : decode cX7_node 45 = .ok (.getfield 64, 3) := by decide +kernel
theorem dX7_node_48 : decode cX7_node 48 = .ok (.iconst 1, 1) := by decide +kernel
theorem dX7_node_49 : decode cX7_node 49 = .ok (.iload_n 3, 1) := by decide +kernel
theorem dX7_node_50 : decode cX7_node 50 = .ok (.invokevirtual 71, 3) := by decide +kernel
theorem dX7_node_53 : decode cX7_node 53 = .ok (.aload_n 0, 1) := by decide +kernel
theorem dX7_node_54 : decode cX7_node 54 = .ok (.aload_n 0, 1) := by decide +kernel
theorem dX7_node_55 : decode cX7_node 55 = .ok (.getfield 64, 3) := by decide +kernel
theorem dX7_node_58 : decode cX7_node 58 = .ok (.iconst 2, 1) := by decide +kernel
theorem dX7_node_59 : decode cX7_node 59 = .ok (.iload 4, 2) := by decide +kernel
theorem dX7_node_61 : decode cX7_node 61 = .ok (.invokevirtual 71, 3) := by decide +kernel
theorem dX7_node_64 : decode cX7_node 64 = .ok (.aload_n 0, 1) := by decide +kernel
theorem dX7_node_65 : decode cX7_node 65 = .ok (.dup, 1) := by decide +kernel
theorem dX7_node_66 : decode cX7_node 66 = .ok (.getfield 64, 3) := by decide +kernel
theorem dX7_node_69 : decode cX7_node 69 = .ok (.iconst 1, 1) := by decide +kernel
theorem dX7_node_70 : decode cX7_node 70 = .ok (.iadd, 1) := by decide +kernel
theorem dX7_node_71 : decode cX7_node 71 = .ok (.putfield 64, 3) := by decide +kernel
theorem dX7_node_74 : decode cX7_node 74 = .ok (.aload_n 0, 1) := by decide +kernel
theorem dX7_node_75 : decode cX7_node 75 = .ok (.getfield 64, 3) := by decide +kernel
theorem dX7_node_78 : decode cX7_node 78 = .ok (.iconst 1, 1) := by decide +kernel
theorem dX7_node_79 : decode cX7_node 79 = .ok (.isub, 1) := by decide +kernel
theorem dX7_node_80 : decode cX7_node 80 = .ok (.ireturn, 1) := by decide +kernel
theorem dX7_part_0 : decode cX7_part 0 = .ok (.iload_n 1, 1) := by decide +kernel
theorem dX7_part_1 : decode cX7_part 1 = .ok (.ifCond .lt 20, 3) := by decide +kernel
theorem dX7_part_4 : decode cX7_part 4 = .ok (.iload_n 1, 1) := by decide +kernel
theorem dX7_part_5 : decode cX7_part 5 = .ok (.aload_n 0, 1) := by decide +kernel
theorem dX7_part_6 : decode cX7_part 6 = .ok (.getfield 64, 3) := by decide +kernel
theorem dX7_part_9 : decode cX7_part 9 = .ok (.if_icmp .ge 12, 3) := by decide +kernel
theorem dX7_part_12 : decode cX7_part 12 = .ok (.iload_n 2, 1) := by decide +kernel
theorem dX7_part_13 : decode cX7_part 13 = .ok (.ifCond .lt 8, 3) := by decide +kernel
theorem dX7_part_16 : decode cX7_part 16 = .ok (.iload_n 2, 1) := by decide +kernel
theorem dX7_part_17 : decode cX7_part 17 = .ok (.iconst 2, 1) := by decide +kernel
theorem dX7_part_18 : decode cX7_part 18 = .ok (.if_icmp .le 5, 3) := by decide +kernel
theorem dX7_part_21 : decode cX7_part 21 = .ok (.iconst (-1), 1) := by decide +kernel
theorem dX7_part_22 : decode cX7_part 22 = .ok (.ireturn, 1) := by decide +kernel
theorem dX7_part_23 : decode cX7_part 23 = .ok (.aload_n 0, 1) := by decide +kernel
theorem dX7_part_24 : decode cX7_part 24 = .ok (.iload_n 1, 1) := by decide +kernel
theorem dX7_part_25 : decode cX7_part 25 = .ok (.iload_n 2, 1) := by decide +kernel
theorem dX7_part_26 : decode cX7_part 26 = .ok (.iload_n 3, 1) := by decide +kernel
theorem dX7_part_27 : decode cX7_part 27 = .ok (.invokevirtual 71, 3) := by decide +kernel
theorem dX7_part_30 : decode cX7_part 30 = .ok (.iconst 0, 1) := by decide +kernel
theorem dX7_part_31 : decode cX7_part 31 = .ok (.ireturn, 1) := by decide +kernel
theorem dX7_number_0 : decode cX7_number 0 = .ok (.aload_n 0, 1) := by decide +kernel
theorem dX7_number_1 : decode cX7_number 1 = .ok (.getfield 16, 3) := by decide +kernel
theorem dX7_number_4 : decode cX7_number 4 = .ok (.iconst 3, 1) := by decide +kernel
theorem dX7_number_5 : decode cX7_number 5 = .ok (.iload_n 1, 1) := by decide +kernel
theorem dX7_number_6 : decode cX7_number 6 = .ok (.imul, 1) := by decide +kernel
theorem dX7_number_7 : decode cX7_number 7 = .ok (.iload_n 2, 1) := by decide +kernel
theorem dX7_number_8 : decode cX7_number 8 = .ok (.iadd, 1) := by decide +kernel
theorem dX7_number_9 : decode cX7_number 9 = .ok (.iaload, 1) := by decide +kernel
theorem dX7_number_10 : decode cX7_number 10 = .ok (.ireturn, 1) := by decide +kernel
theorem dX7_make_0 : decode cX7_make 0 = .ok (.aload_n 0, 1) := by decide +kernel
theorem dX7_make_1 : decode cX7_make 1 = .ok (.getfield 75, 3) := by decide +kernel
theorem dX7_make_4 : decode cX7_make 4 = .ok (.istore 6, 2) := by decide +kernel
theorem dX7_make_6 : decode cX7_make 6 = .ok (.aload_n 0, 1) := by decide +kernel
theorem dX7_make_7 : decode cX7_make 7 = .ok (.dup, 1) := by decide +kernel
theorem dX7_make_8 : decode cX7_make 8 = .ok (.getfield 75, 3) := by decide +kernel
theorem dX7_make_11 : decode cX7_make 11 = .ok (.iconst 1, 1) := by decide +kernel
theorem dX7_make_12 : decode cX7_make 12 = .ok (.iadd, 1) := by decide +kernel
theorem dX7_make_13 : decode cX7_make 13 = .ok (.putfield 75, 3) := by decide +kernel
theorem dX7_make_16 : decode cX7_make 16 = .ok (.aload_n 0, 1) := by decide +kernel
theorem dX7_make_17 : decode cX7_make 17 = .ok (.getfield 24, 3) := by decide +kernel
theorem dX7_make_20 : decode cX7_make 20 = .ok (.iload 6, 2) := by decide +kernel
theorem dX7_make_22 : decode cX7_make 22 = .ok (.iload_n 1, 1) := by decide +kernel
theorem dX7_make_23 : decode cX7_make 23 = .ok (.iastore, 1) := by decide +kernel
theorem dX7_make_24 : decode cX7_make 24 = .ok (.aload_n 0, 1) := by decide +kernel
theorem dX7_make_25 : decode cX7_make 25 = .ok (.getfield 33, 3) := by decide +kernel
theorem dX7_make_28 : decode cX7_make 28 = .ok (.iload 6, 2) := by decide +kernel
theorem dX7_make_30 : decode cX7_make 30 = .ok (.lload_n 2, 1) := by decide +kernel
theorem dX7_make_31 : decode cX7_make 31 = .ok (.lastore, 1) := by decide +kernel
theorem dX7_make_32 : decode cX7_make 32 = .ok (.aload_n 0, 1) := by decide +kernel
theorem dX7_make_33 : decode cX7_make 33 = .ok (.getfield 27, 3) := by decide +kernel
theorem dX7_make_36 : decode cX7_make 36 = .ok (.iload 6, 2) := by decide +kernel
theorem dX7_make_38 : decode cX7_make 38 = .ok (.iload 4, 2) := by decide +kernel
theorem dX7_make_40 : decode cX7_make 40 = .ok (.iastore, 1) := by decide +kernel
theorem dX7_make_41 : decode cX7_make 41 = .ok (.aload_n 0, 1) := by decide +kernel
theorem dX7_make_42 : decode cX7_make 42 = .ok (.getfield 30, 3) := by decide +kernel
theorem dX7_make_45 : decode cX7_make 45 = .ok (.iload 6, 2) := by decide +kernel
theorem dX7_make_47 : decode cX7_make 47 = .ok (.iload 5, 2) := by decide +kernel
theorem dX7_make_49 : decode cX7_make 49 = .ok (.iastore, 1) := by decide +kernel
theorem dX7_make_50 : decode cX7_make 50 = .ok (.iload 6, 2) := by decide +kernel
theorem dX7_make_52 : decode cX7_make 52 = .ok (.ireturn, 1) := by decide +kernel
theorem dX7_num_0 : decode cX7_num 0 = .ok (.aload_n 0, 1) := by decide +kernel
theorem dX7_num_1 : decode cX7_num 1 = .ok (.iconst 1, 1) := by decide +kernel
theorem dX7_num_2 : decode cX7_num 2 = .ok (.lload_n 1, 1) := by decide +kernel
theorem dX7_num_3 : decode cX7_num 3 = .ok (.iconst (-1), 1) := by decide +kernel
theorem dX7_num_4 : decode cX7_num 4 = .ok (.iconst (-1), 1) := by decide +kernel
theorem dX7_num_5 : decode cX7_num 5 = .ok (.invokevirtual 78, 3) := by decide +kernel
theorem dX7_num_8 : decode cX7_num 8 = .ok (.ireturn, 1) := by decide +kernel
theorem dX7_fail_0 : decode cX7_fail 0 = .ok (.aload_n 0, 1) := by decide +kernel
theorem dX7_fail_1 : decode cX7_fail 1 = .ok (.iload_n 1, 1) := by decide +kernel
theorem dX7_fail_2 : decode cX7_fail 2 = .ok (.putfield 82, 3) := by decide +kernel
theorem dX7_fail_5 : decode cX7_fail 5 = .ok (.aload_n 0, 1) := by decide +kernel
theorem dX7_fail_6 : decode cX7_fail 6 = .ok (.iload_n 2, 1) := by decide +kernel
theorem dX7_fail_7 : decode cX7_fail 7 = .ok (.putfield 85, 3) := by decide +kernel
theorem dX7_fail_10 : decode cX7_fail 10 = .ok (.iconst (-1), 1) := by decide +kernel
theorem dX7_fail_11 : decode cX7_fail 11 = .ok (.ireturn, 1) := by decide +kernel
theorem dX7_is_0 : decode cX7_is 0 = .ok (.iload_n 2, 1) := by decide +kernel
theorem dX7_is_1 : decode cX7_is 1 = .ok (.iconst (-1), 1) := by decide +kernel
theorem dX7_is_2 : decode cX7_is 2 = .ok (.if_icmp .eq 30, 3) := by decide +kernel
theorem dX7_is_5 : decode cX7_is 5 = .ok (.aload_n 0, 1) := by decide +kernel
theorem dX7_is_6 : decode cX7_is 6 = .ok (.getfield 24, 3) := by decide +kernel
theorem dX7_is_9 : decode cX7_is 9 = .ok (.iload_n 2, 1) := by decide +kernel
theorem dX7_is_10 : decode cX7_is 10 = .ok (.iaload, 1) := by decide +kernel
theorem dX7_is_11 : decode cX7_is 11 = .ok (.iload_n 3, 1) := by decide +kernel
theorem dX7_is_12 : decode cX7_is 12 = .ok (.if_icmp .eq 18, 3) := by decide +kernel
theorem dX7_is_15 : decode cX7_is 15 = .ok (.iload_n 3, 1) := by decide +kernel
theorem dX7_is_16 : decode cX7_is 16 = .ok (.iconst 2, 1) := by decide +kernel
theorem dX7_is_17 : decode cX7_is 17 = .ok (.if_icmp .ne 15, 3) := by decide +kernel
theorem dX7_is_20 : decode cX7_is 20 = .ok (.aload_n 0, 1) := by decide +kernel
theorem dX7_is_21 : decode cX7_is 21 = .ok (.getfield 24, 3) := by decide +kernel
theorem dX7_is_24 : decode cX7_is 24 = .ok (.iload_n 2, 1) := by decide +kernel
theorem dX7_is_25 : decode cX7_is 25 = .ok (.iaload, 1) := by decide +kernel
theorem dX7_is_26 : decode cX7_is 26 = .ok (.iconst 3, 1) := by decide +kernel
theorem dX7_is_27 : decode cX7_is 27 = .ok (.if_icmp .ne 5, 3) := by decide +kernel
theorem dX7_is_30 : decode cX7_is 30 = .ok (.iconst 1, 1) := by decide +kernel
theorem dX7_is_31 : decode cX7_is 31 = .ok (.ireturn, 1) := by decide +kernel
theorem dX7_is_32 : decode cX7_is 32 = .ok (.aload_n 0, 1) := by decide +kernel
theorem dX7_is_33 : decode cX7_is 33 = .ok (.iload_n 2, 1) := by decide +kernel
theorem dX7_is_34 : decode cX7_is 34 = .ok (.iconst (-1), 1) := by decide +kernel
theorem dX7_is_35 : decode cX7_is 35 = .ok (.if_icmp .ne 7, 3) := by decide +kernel
theorem dX7_is_38 : decode cX7_is 38 = .ok (.iconst 1, 1) := by decide +kernel
theorem dX7_is_39 : decode cX7_is 39 = .ok (.goto 4, 3) := by decide +kernel
theorem dX7_is_42 : decode cX7_is 42 = .ok (.iconst 3, 1) := by decide +kernel
