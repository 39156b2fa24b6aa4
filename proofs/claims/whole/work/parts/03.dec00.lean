theorem dX0_init_0 : decode cX0_init 0 = .ok (.aload_n 0, 1) := by decide +kernel
theorem dX0_init_1 : decode cX0_init 1 = .ok (.invokespecial 1, 3) := by decide +kernel
theorem dX0_init_4 : decode cX0_init 4 = .ok (.aload_n 0, 1) := by decide +kernel
theorem dX0_init_5 : decode cX0_init 5 = .ok (.aload_n 1, 1) := by decide +kernel
theorem dX0_init_6 : decode cX0_init 6 = .ok (.putfield 7, 3) := by decide +kernel
theorem dX0_init_9 : decode cX0_init 9 = .ok (.aload_n 0, 1) := by decide +kernel
theorem dX0_init_10 : decode cX0_init 10 = .ok (.iload_n 2, 1) := by decide +kernel
theorem dX0_init_11 : decode cX0_init 11 = .ok (.putfield 13, 3) := by decide +kernel
theorem dX0_init_14 : decode cX0_init 14 = .ok (.return_, 1) := by decide +kernel
theorem dX0_within_0 : decode cX0_within 0 = .ok (.aload_n 0, 1) := by decide +kernel
theorem dX0_within_1 : decode cX0_within 1 = .ok (.getfield 17, 3) := by decide +kernel
theorem dX0_within_4 : decode cX0_within 4 = .ok (.ifnonnull 21, 3) := by decide +kernel
theorem dX0_within_7 : decode cX0_within 7 = .ok (.aload_n 0, 1) := by decide +kernel
theorem dX0_within_8 : decode cX0_within 8 = .ok (.new 8, 3) := by decide +kernel
theorem dX0_within_11 : decode cX0_within 11 = .ok (.dup, 1) := by decide +kernel
theorem dX0_within_12 : decode cX0_within 12 = .ok (.aload_n 0, 1) := by decide +kernel
theorem dX0_within_13 : decode cX0_within 13 = .ok (.aload_n 0, 1) := by decide +kernel
theorem dX0_within_14 : decode cX0_within 14 = .ok (.getfield 13, 3) := by decide +kernel
theorem dX0_within_17 : decode cX0_within 17 = .ok (.iconst 1, 1) := by decide +kernel
theorem dX0_within_18 : decode cX0_within 18 = .ok (.iadd, 1) := by decide +kernel
theorem dX0_within_19 : decode cX0_within 19 = .ok (.invokespecial 20, 3) := by decide +kernel
theorem dX0_within_22 : decode cX0_within 22 = .ok (.putfield 17, 3) := by decide +kernel
theorem dX0_within_25 : decode cX0_within 25 = .ok (.aload_n 0, 1) := by decide +kernel
theorem dX0_within_26 : decode cX0_within 26 = .ok (.getfield 17, 3) := by decide +kernel
theorem dX0_within_29 : decode cX0_within 29 = .ok (.areturn, 1) := by decide +kernel
theorem dX0_begin_0 : decode cX0_begin 0 = .ok (.aload_n 0, 1) := by decide +kernel
theorem dX0_begin_1 : decode cX0_begin 1 = .ok (.aload_n 1, 1) := by decide +kernel
theorem dX0_begin_2 : decode cX0_begin 2 = .ok (.putfield 23, 3) := by decide +kernel
theorem dX0_begin_5 : decode cX0_begin 5 = .ok (.aload_n 0, 1) := by decide +kernel
theorem dX0_begin_6 : decode cX0_begin 6 = .ok (.iconst (-1), 1) := by decide +kernel
theorem dX0_begin_7 : decode cX0_begin 7 = .ok (.putfield 27, 3) := by decide +kernel
theorem dX0_begin_10 : decode cX0_begin 10 = .ok (.aload_n 0, 1) := by decide +kernel
theorem dX0_begin_11 : decode cX0_begin 11 = .ok (.aconst_null, 1) := by decide +kernel
theorem dX0_begin_12 : decode cX0_begin 12 = .ok (.putfield 30, 3) := by decide +kernel
theorem dX0_begin_15 : decode cX0_begin 15 = .ok (.aload_n 0, 1) := by decide +kernel
theorem dX0_begin_16 : decode cX0_begin 16 = .ok (.aconst_null, 1) := by decide +kernel
theorem dX0_begin_17 : decode cX0_begin 17 = .ok (.putfield 34, 3) := by decide +kernel
theorem dX0_begin_20 : decode cX0_begin 20 = .ok (.aload_n 0, 1) := by decide +kernel
theorem dX0_begin_21 : decode cX0_begin 21 = .ok (.aconst_null, 1) := by decide +kernel
theorem dX0_begin_22 : decode cX0_begin 22 = .ok (.putfield 37, 3) := by decide +kernel
theorem dX0_begin_25 : decode cX0_begin 25 = .ok (.aload_n 0, 1) := by decide +kernel
theorem dX0_begin_26 : decode cX0_begin 26 = .ok (.aconst_null, 1) := by decide +kernel
theorem dX0_begin_27 : decode cX0_begin 27 = .ok (.putfield 40, 3) := by decide +kernel
theorem dX0_begin_30 : decode cX0_begin 30 = .ok (.aload_n 0, 1) := by decide +kernel
theorem dX0_begin_31 : decode cX0_begin 31 = .ok (.lconst 0, 1) := by decide +kernel
theorem dX0_begin_32 : decode cX0_begin 32 = .ok (.putfield 43, 3) := by decide +kernel
theorem dX0_begin_35 : decode cX0_begin 35 = .ok (.return_, 1) := by decide +kernel
theorem dX0_receive_0 : decode cX0_receive 0 = .ok (.aload_n 0, 1) := by decide +kernel
theorem dX0_receive_1 : decode cX0_receive 1 = .ok (.aload_n 1, 1) := by decide +kernel
theorem dX0_receive_2 : decode cX0_receive 2 = .ok (.putfield 40, 3) := by decide +kernel
theorem dX0_receive_5 : decode cX0_receive 5 = .ok (.aload_n 0, 1) := by decide +kernel
theorem dX0_receive_6 : decode cX0_receive 6 = .ok (.getfield 27, 3) := by decide +kernel
theorem dX0_receive_9 : decode cX0_receive 9 = .ok (.lookupswitch 43 #[(0, 27), (1, 35)], 27) := by decide +kernel
theorem dX0_receive_36 : decode cX0_receive 36 = .ok (.aload_n 0, 1) := by decide +kernel
theorem dX0_receive_37 : decode cX0_receive 37 = .ok (.aload_n 1, 1) := by decide +kernel
theorem dX0_receive_38 : decode cX0_receive 38 = .ok (.putfield 30, 3) := by decide +kernel
theorem dX0_receive_41 : decode cX0_receive 41 = .ok (.goto 16, 3) := by decide +kernel
theorem dX0_receive_44 : decode cX0_receive 44 = .ok (.aload_n 0, 1) := by decide +kernel
theorem dX0_receive_45 : decode cX0_receive 45 = .ok (.aload_n 1, 1) := by decide +kernel
theorem dX0_receive_46 : decode cX0_receive 46 = .ok (.putfield 34, 3) := by decide +kernel
theorem dX0_receive_49 : decode cX0_receive 49 = .ok (.goto 8, 3) := by decide +kernel
theorem dX0_receive_52 : decode cX0_receive 52 = .ok (.aload_n 0, 1) := by decide +kernel
theorem dX0_receive_53 : decode cX0_receive 53 = .ok (.aload_n 1, 1) := by decide +kernel
theorem dX0_receive_54 : decode cX0_receive 54 = .ok (.putfield 37, 3) := by decide +kernel
theorem dX0_receive_57 : decode cX0_receive 57 = .ok (.return_, 1) := by decide +kernel
theorem dX1_init_0 : decode cX1_init 0 = .ok (.aload_n 0, 1) := by decide +kernel
theorem dX1_init_1 : decode cX1_init 1 = .ok (.invokespecial 3, 3) := by decide +kernel
theorem dX1_init_4 : decode cX1_init 4 = .ok (.aload_n 0, 1) := by decide +kernel
theorem dX1_init_5 : decode cX1_init 5 = .ok (.new 9, 3) := by decide +kernel
theorem dX1_init_8 : decode cX1_init 8 = .ok (.dup, 1) := by decide +kernel
theorem dX1_init_9 : decode cX1_init 9 = .ok (.invokespecial 11, 3) := by decide +kernel
theorem dX1_init_12 : decode cX1_init 12 = .ok (.putfield 12, 3) := by decide +kernel
theorem dX1_init_15 : decode cX1_init 15 = .ok (.aload_n 0, 1) := by decide +kernel
theorem dX1_init_16 : decode cX1_init 16 = .ok (.new 18, 3) := by decide +kernel
theorem dX1_init_19 : decode cX1_init 19 = .ok (.dup, 1) := by decide +kernel
theorem dX1_init_20 : decode cX1_init 20 = .ok (.invokespecial 20, 3) := by decide +kernel
theorem dX1_init_23 : decode cX1_init 23 = .ok (.putfield 21, 3) := by decide +kernel
theorem dX1_init_26 : decode cX1_init 26 = .ok (.aload_n 0, 1) := by decide +kernel
theorem dX1_init_27 : decode cX1_init 27 = .ok (.sipush 256, 3) := by decide +kernel
theorem dX1_init_30 : decode cX1_init 30 = .ok (.anewarray 25, 3) := by decide +kernel
theorem dX1_init_33 : decode cX1_init 33 = .ok (.putfield 27, 3) := by decide +kernel
theorem dX1_init_36 : decode cX1_init 36 = .ok (.aload_n 0, 1) := by decide +kernel
theorem dX1_init_37 : decode cX1_init 37 = .ok (.new 31, 3) := by decide +kernel
theorem dX1_init_40 : decode cX1_init 40 = .ok (.dup, 1) := by decide +kernel
theorem dX1_init_41 : decode cX1_init 41 = .ok (.aconst_null, 1) := by decide +kernel
theorem dX1_init_42 : decode cX1_init 42 = .ok (.iconst 0, 1) := by decide +kernel
theorem dX1_init_43 : decode cX1_init 43 = .ok (.invokespecial 33, 3) := by decide +kernel
theorem dX1_init_46 : decode cX1_init 46 = .ok (.putfield 36, 3) := by decide +kernel
theorem dX1_init_49 : decode cX1_init 49 = .ok (.aload_n 0, 1) := by decide +kernel
theorem dX1_init_50 : decode cX1_init 50 = .ok (.aload_n 0, 1) := by decide +kernel
theorem dX1_init_51 : decode cX1_init 51 = .ok (.getfield 36, 3) := by decide +kernel
theorem dX1_init_54 : decode cX1_init 54 = .ok (.putfield 40, 3) := by decide +kernel
theorem dX1_init_57 : decode cX1_init 57 = .ok (.aload_n 0, 1) := by decide +kernel
theorem dX1_init_58 : decode cX1_init 58 = .ok (.iconst (-1), 1) := by decide +kernel
theorem dX1_init_59 : decode cX1_init 59 = .ok (.putfield 43, 3) := by decide +kernel
theorem dX1_init_62 : decode cX1_init 62 = .ok (.return_, 1) := by decide +kernel
theorem dX1_canSee_0 : decode cX1_canSee 0 = .ok (.iload_n 1, 1) := by decide +kernel
theorem dX1_canSee_1 : decode cX1_canSee 1 = .ok (.iconst (-1), 1) := by decide +kernel
theorem dX1_canSee_2 : decode cX1_canSee 2 = .ok (.if_icmp .eq 11, 3) := by decide +kernel
theorem dX1_canSee_5 : decode cX1_canSee 5 = .ok (.aload_n 0, 1) := by decide +kernel
theorem dX1_canSee_6 : decode cX1_canSee 6 = .ok (.iload_n 1, 1) := by decide +kernel
theorem dX1_canSee_7 : decode cX1_canSee 7 = .ok (.invokevirtual 47, 3) := by decide +kernel
theorem dX1_canSee_10 : decode cX1_canSee 10 = .ok (.ifCond .eq 7, 3) := by decide +kernel
theorem dX1_canSee_13 : decode cX1_canSee 13 = .ok (.iconst 1, 1) := by decide +kernel
theorem dX1_canSee_14 : decode cX1_canSee 14 = .ok (.goto 4, 3) := by decide +kernel
theorem dX1_canSee_17 : decode cX1_canSee 17 = .ok (.iconst 0, 1) := by decide +kernel
theorem dX1_canSee_18 : decode cX1_canSee 18 = .ok (.ireturn, 1) := by decide +kernel
theorem dX1_seenAt_0 : decode cX1_seenAt 0 = .ok (.iload_n 1, 1) := by decide +kernel
theorem dX1_seenAt_1 : decode cX1_seenAt 1 = .ok (.iconst (-1), 1) := by decide +kernel
theorem dX1_seenAt_2 : decode cX1_seenAt 2 = .ok (.if_icmp .ne 8, 3) := by decide +kernel
theorem dX1_seenAt_5 : decode cX1_seenAt 5 = .ok (.aload_n 0, 1) := by decide +kernel
theorem dX1_seenAt_6 : decode cX1_seenAt 6 = .ok (.getfield 51, 3) := by decide +kernel
theorem dX1_seenAt_9 : decode cX1_seenAt 9 = .ok (.areturn, 1) := by decide +kernel
theorem dX1_seenAt_10 : decode cX1_seenAt 10 = .ok (.aload_n 0, 1) := by decide +kernel
theorem dX1_seenAt_11 : decode cX1_seenAt 11 = .ok (.iload_n 1, 1) := by decide +kernel
theorem dX1_seenAt_12 : decode cX1_seenAt 12 = .ok (.invokevirtual 47, 3) := by decide +kernel
theorem dX1_seenAt_15 : decode cX1_seenAt 15 = .ok (.ifCond .eq 12, 3) := by decide +kernel
theorem dX1_seenAt_18 : decode cX1_seenAt 18 = .ok (.aload_n 0, 1) := by decide +kernel
theorem dX1_seenAt_19 : decode cX1_seenAt 19 = .ok (.getfield 27, 3) := by decide +kernel
theorem dX1_seenAt_22 : decode cX1_seenAt 22 = .ok (.iload_n 1, 1) := by decide +kernel
theorem dX1_seenAt_23 : decode cX1_seenAt 23 = .ok (.aaload, 1) := by decide +kernel
theorem dX1_seenAt_24 : decode cX1_seenAt 24 = .ok (.goto 4, 3) := by decide +kernel
theorem dX1_seenAt_27 : decode cX1_seenAt 27 = .ok (.aconst_null, 1) := by decide +kernel
theorem dX1_seenAt_28 : decode cX1_seenAt 28 = .ok (.areturn, 1) := by decide +kernel
theorem dX1_forget_0 : decode cX1_forget 0 = .ok (.iconst 0, 1) := by decide +kernel
theorem dX1_forget_1 : decode cX1_forget 1 = .ok (.istore_n 1, 1) := by decide +kernel
theorem dX1_forget_2 : decode cX1_forget 2 = .ok (.iload_n 1, 1) := by decide +kernel
theorem dX1_forget_3 : decode cX1_forget 3 = .ok (.sipush 256, 3) := by decide +kernel
theorem dX1_forget_6 : decode cX1_forget 6 = .ok (.if_icmp .ge 16, 3) := by decide +kernel
theorem dX1_forget_9 : decode cX1_forget 9 = .ok (.aload_n 0, 1) := by decide +kernel
theorem dX1_forget_10 : decode cX1_forget 10 = .ok (.getfield 27, 3) := by decide +kernel
theorem dX1_forget_13 : decode cX1_forget 13 = .ok (.iload_n 1, 1) := by decide +kernel
theorem dX1_forget_14 : decode cX1_forget 14 = .ok (.aconst_null, 1) := by decide +kernel
theorem dX1_forget_15 : decode cX1_forget 15 = .ok (.aastore, 1) := by decide +kernel
theorem dX1_forget_16 : decode cX1_forget 16 = .ok (.iinc 1 1, 3) := by decide +kernel
theorem dX1_forget_19 : decode cX1_forget 19 = .ok (.goto (-17), 3) := by decide +kernel
theorem dX1_forget_22 : decode cX1_forget 22 = .ok (.aload_n 0, 1) := by decide +kernel
theorem dX1_forget_23 : decode cX1_forget 23 = .ok (.aconst_null, 1) := by decide +kernel
theorem dX1_forget_24 : decode cX1_forget 24 = .ok (.putfield 55, 3) := by decide +kernel
theorem dX1_forget_27 : decode cX1_forget 27 = .ok (.aload_n 0, 1) := by decide +kernel
theorem dX1_forget_28 : decode cX1_forget 28 = .ok (.aconst_null, 1) := by decide +kernel
theorem dX1_forget_29 : decode cX1_forget 29 = .ok (.putfield 51, 3) := by decide +kernel
theorem dX1_forget_32 : decode cX1_forget 32 = .ok (.return_, 1) := by decide +kernel
theorem dX1_begin_0 : decode cX1_begin 0 = .ok (.aload_n 0, 1) := by decide +kernel
theorem dX1_begin_1 : decode cX1_begin 1 = .ok (.iload_n 2, 1) := by decide +kernel
theorem dX1_begin_2 : decode cX1_begin 2 = .ok (.ldc 58, 2) := by decide +kernel
theorem dX1_begin_4 : decode cX1_begin 4 = .ok (.aload_n 0, 1) := by decide +kernel
theorem dX1_begin_5 : decode cX1_begin 5 = .ok (.getfield 59, 3) := by decide +kernel
theorem dX1_begin_8 : decode cX1_begin 8 = .ok (.isub, 1) := by decide +kernel
theorem dX1_begin_9 : decode cX1_begin 9 = .ok (.invokestatic 62, 3) := by decide +kernel
theorem dX1_begin_12 : decode cX1_begin 12 = .ok (.putfield 68, 3) := by decide +kernel
theorem dX1_begin_15 : decode cX1_begin 15 = .ok (.aload_n 0, 1) := by decide +kernel
theorem dX1_begin_16 : decode cX1_begin 16 = .ok (.iconst 0, 1) := by decide +kernel
theorem dX1_begin_17 : decode cX1_begin 17 = .ok (.putfield 71, 3) := by decide +kernel
theorem dX1_begin_20 : decode cX1_begin 20 = .ok (.aload_n 0, 1) := by decide +kernel
theorem dX1_begin_21 : decode cX1_begin 21 = .ok (.iconst 0, 1) := by decide +kernel
theorem dX1_begin_22 : decode cX1_begin 22 = .ok (.putfield 74, 3) := by decide +kernel
theorem dX1_begin_25 : decode cX1_begin 25 = .ok (.aload_n 0, 1) := by decide +kernel
theorem dX1_begin_26 : decode cX1_begin 26 = .ok (.invokevirtual 78, 3) := by decide +kernel
theorem dX1_begin_29 : decode cX1_begin 29 = .ok (.aload_n 0, 1) := by decide +kernel
theorem dX1_begin_30 : decode cX1_begin 30 = .ok (.aconst_null, 1) := by decide +kernel
theorem dX1_begin_31 : decode cX1_begin 31 = .ok (.putfield 51, 3) := by decide +kernel
theorem dX1_begin_34 : decode cX1_begin 34 = .ok (.aload_n 0, 1) := by decide +kernel
theorem dX1_begin_35 : decode cX1_begin 35 = .ok (.getfield 36, 3) := by decide +kernel
theorem dX1_begin_38 : decode cX1_begin 38 = .ok (.aconst_null, 1) := by decide +kernel
theorem dX1_begin_39 : decode cX1_begin 39 = .ok (.invokevirtual 81, 3) := by decide +kernel
theorem dX1_begin_42 : decode cX1_begin 42 = .ok (.aload_n 0, 1) := by decide +kernel
theorem dX1_begin_43 : decode cX1_begin 43 = .ok (.aload_n 0, 1) := by decide +kernel
theorem dX1_begin_44 : decode cX1_begin 44 = .ok (.getfield 36, 3) := by decide +kernel
theorem dX1_begin_47 : decode cX1_begin 47 = .ok (.putfield 40, 3) := by decide +kernel
theorem dX1_begin_50 : decode cX1_begin 50 = .ok (.aload_n 1, 1) := by decide +kernel
theorem dX1_begin_51 : decode cX1_begin 51 = .ok (.ifnonnull 13, 3) := by decide +kernel
theorem dX1_begin_54 : decode cX1_begin 54 = .ok (.aload_n 0, 1) := by decide +kernel
theorem dX1_begin_55 : decode cX1_begin 55 = .ok (.iconst (-1), 1) := by decide +kernel
theorem dX1_begin_56 : decode cX1_begin 56 = .ok (.iconst 1, 1) := by decide +kernel
theorem dX1_begin_57 : decode cX1_begin 57 = .ok (.invokevirtual 85, 3) := by decide +kernel
theorem dX1_begin_60 : decode cX1_begin 60 = .ok (.pop, 1) := by decide +kernel
theorem dX1_begin_61 : decode cX1_begin 61 = .ok (.goto 8, 3) := by decide +kernel
theorem dX1_begin_64 : decode cX1_begin 64 = .ok (.aload_n 0, 1) := by decide +kernel
theorem dX1_begin_65 : decode cX1_begin 65 = .ok (.aload_n 1, 1) := by decide +kernel
theorem dX1_begin_66 : decode cX1_begin 66 = .ok (.invokevirtual 89, 3) := by decide +kernel
theorem dX1_begin_69 : decode cX1_begin 69 = .ok (.return_, 1) := by decide +kernel
theorem dX1_isAtWork_0 : decode cX1_isAtWork 0 = .ok (.aload_n 0, 1) := by decide +kernel
theorem dX1_isAtWork_1 : decode cX1_isAtWork 1 = .ok (.getfield 40, 3) := by decide +kernel
theorem dX1_isAtWork_4 : decode cX1_isAtWork 4 = .ok (.getfield 92, 3) := by decide +kernel
theorem dX1_isAtWork_7 : decode cX1_isAtWork 7 = .ok (.ifCond .le 14, 3) := by decide +kernel
theorem dX1_isAtWork_10 : decode cX1_isAtWork 10 = .ok (.aload_n 0, 1) := by decide +kernel
theorem dX1_isAtWork_11 : decode cX1_isAtWork 11 = .ok (.getfield 74, 3) := by decide +kernel
theorem dX1_isAtWork_14 : decode cX1_isAtWork 14 = .ok (.ifCond .ne 7, 3) := by decide +kernel
theorem dX1_isAtWork_17 : decode cX1_isAtWork 17 = .ok (.iconst 1, 1) := by decide +kernel
theorem dX1_isAtWork_18 : decode cX1_isAtWork 18 = .ok (.goto 4, 3) := by decide +kernel
theorem dX1_isAtWork_21 : decode cX1_isAtWork 21 = .ok (.iconst 0, 1) := by decide +kernel
theorem dX1_isAtWork_22 : decode cX1_isAtWork 22 = .ok (.ireturn, 1) := by decide +kernel
theorem dX1_takeTurn_0 : decode cX1_takeTurn 0 = .ok (.aload_n 0, 1) := by decide +kernel
theorem dX1_takeTurn_1 : decode cX1_takeTurn 1 = .ok (.getfield 40, 3) := by decide +kernel
theorem dX1_takeTurn_4 : decode cX1_takeTurn 4 = .ok (.astore_n 1, 1) := by decide +kernel
theorem dX1_takeTurn_5 : decode cX1_takeTurn 5 = .ok (.aload_n 0, 1) := by decide +kernel
theorem dX1_takeTurn_6 : decode cX1_takeTurn 6 = .ok (.getfield 95, 3) := by decide +kernel
theorem dX1_takeTurn_9 : decode cX1_takeTurn 9 = .ok (.ifCond .eq 9, 3) := by decide +kernel
theorem dX1_takeTurn_12 : decode cX1_takeTurn 12 = .ok (.aload_n 0, 1) := by decide +kernel
theorem dX1_takeTurn_13 : decode cX1_takeTurn 13 = .ok (.aload_n 1, 1) := by decide +kernel
theorem dX1_takeTurn_14 : decode cX1_takeTurn 14 = .ok (.invokevirtual 98, 3) := by decide +kernel
theorem dX1_takeTurn_17 : decode cX1_takeTurn 17 = .ok (.return_, 1) := by decide +kernel
theorem dX1_takeTurn_18 : decode cX1_takeTurn 18 = .ok (.aload_n 0, 1) := by decide +kernel
theorem dX1_takeTurn_19 : decode cX1_takeTurn 19 = .ok (.aload_n 1, 1) := by decide +kernel
theorem dX1_takeTurn_20 : decode cX1_takeTurn 20 = .ok (.invokevirtual 102, 3) := by decide +kernel
theorem dX1_takeTurn_23 : decode cX1_takeTurn 23 = .ok (.istore_n 2, 1) := by decide +kernel
theorem dX1_takeTurn_24 : decode cX1_takeTurn 24 = .ok (.aload_n 0, 1) := by decide +kernel
theorem dX1_takeTurn_25 : decode cX1_takeTurn 25 = .ok (.getfield 95, 3) := by decide +kernel
theorem dX1_takeTurn_28 : decode cX1_takeTurn 28 = .ok (.ifCond .eq 4, 3) := by decide +kernel
theorem dX1_takeTurn_31 : decode cX1_takeTurn 31 = .ok (.return_, 1) := by decide +kernel
theorem dX1_takeTurn_32 : decode cX1_takeTurn 32 = .ok (.iload_n 2, 1) := by decide +kernel
theorem dX1_takeTurn_33 : decode cX1_takeTurn 33 = .ok (.iconst 3, 1) := by decide +kernel
theorem dX1_takeTurn_34 : decode cX1_takeTurn 34 = .ok (.if_icmp .ne 16, 3) := by decide +kernel
theorem dX1_takeTurn_37 : decode cX1_takeTurn 37 = .ok (.aload_n 0, 1) := by decide +kernel
theorem dX1_takeTurn_38 : decode cX1_takeTurn 38 = .ok (.aload_n 1, 1) := by decide +kernel
theorem dX1_takeTurn_39 : decode cX1_takeTurn 39 = .ok (.aload_n 0, 1) := by decide +kernel
theorem dX1_takeTurn_40 : decode cX1_takeTurn 40 = .ok (.aload_n 1, 1) := by decide +kernel
theorem dX1_takeTurn_41 : decode cX1_takeTurn 41 = .ok (.invokevirtual 106, 3) := by decide +kernel
theorem dX1_takeTurn_44 : decode cX1_takeTurn 44 = .ok (.invokevirtual 110, 3) := by decide +kernel
theorem dX1_takeTurn_47 : decode cX1_takeTurn 47 = .ok (.goto 9, 3) := by decide +kernel
theorem dX1_takeTurn_50 : decode cX1_takeTurn 50 = .ok (.aload_n 0, 1) := by decide +kernel
theorem dX1_takeTurn_51 : decode cX1_takeTurn 51 = .ok (.aload_n 1, 1) := by decide +kernel
theorem dX1_takeTurn_52 : decode cX1_takeTurn 52 = .ok (.iload_n 2, 1) := by decide +kernel
theorem dX1_takeTurn_53 : decode cX1_takeTurn 53 = .ok (.invokevirtual 114, 3) := by decide +kernel
theorem dX1_takeTurn_56 : decode cX1_takeTurn 56 = .ok (.return_, 1) := by decide +kernel
theorem dX1_end_0 : decode cX1_end 0 = .ok (.aload_n 0, 1) := by decide +kernel
theorem dX1_end_1 : decode cX1_end 1 = .ok (.dup, 1) := by decide +kernel
theorem dX1_end_2 : decode cX1_end 2 = .ok (.getfield 59, 3) := by decide +kernel
theorem dX1_end_5 : decode cX1_end 5 = .ok (.aload_n 0, 1) := by decide +kernel
theorem dX1_end_6 : decode cX1_end 6 = .ok (.getfield 71, 3) := by decide +kernel
theorem dX1_end_9 : decode cX1_end 9 = .ok (.iadd, 1) := by decide +kernel
theorem dX1_end_10 : decode cX1_end 10 = .ok (.putfield 59, 3) := by decide +kernel
theorem dX1_end_13 : decode cX1_end 13 = .ok (.aload_n 0, 1) := by decide +kernel
theorem dX1_end_14 : decode cX1_end 14 = .ok (.getfield 74, 3) := by decide +kernel
theorem dX1_end_17 : decode cX1_end 17 = .ok (.ifCond .eq 5, 3) := by decide +kernel
theorem dX1_end_20 : decode cX1_end 20 = .ok (.iconst (-1), 1) := by decide +kernel
theorem dX1_end_21 : decode cX1_end 21 = .ok (.ireturn, 1) := by decide +kernel
theorem dX1_end_22 : decode cX1_end 22 = .ok (.aload_n 0, 1) := by decide +kernel
theorem dX1_end_23 : decode cX1_end 23 = .ok (.getfield 95, 3) := by decide +kernel
theorem dX1_end_26 : decode cX1_end 26 = .ok (.ifCond .eq 10, 3) := by decide +kernel
theorem dX1_end_29 : decode cX1_end 29 = .ok (.iconst 1, 1) := by decide +kernel
theorem dX1_end_30 : decode cX1_end 30 = .ok (.aload_n 0, 1) := by decide +kernel
theorem dX1_end_31 : decode cX1_end 31 = .ok (.getfield 95, 3) := by decide +kernel
theorem dX1_end_34 : decode cX1_end 34 = .ok (.iadd, 1) := by decide +kernel
theorem dX1_end_35 : decode cX1_end 35 = .ok (.ireturn, 1) := by decide +kernel
theorem dX1_end_36 : decode cX1_end 36 = .ok (.aload_n 0, 1) := by decide +kernel
theorem dX1_end_37 : decode cX1_end 37 = .ok (.aload_n 0, 1) := by decide +kernel
theorem dX1_end_38 : decode cX1_end 38 = .ok (.getfield 36, 3) := by decide +kernel
theorem dX1_end_41 : decode cX1_end 41 = .ok (.getfield 117, 3) := by decide +kernel
theorem dX1_end_44 : decode cX1_end 44 = .ok (.putfield 51, 3) := by decide +kernel
theorem dX1_end_47 : decode cX1_end 47 = .ok (.iconst 0, 1) := by decide +kernel
theorem dX1_end_48 : decode cX1_end 48 = .ok (.ireturn, 1) := by decide +kernel
theorem dX1_open_0 : decode cX1_open 0 = .ok (.aload_n 0, 1) := by decide +kernel
theorem dX1_open_1 : decode cX1_open 1 = .ok (.getfield 71, 3) := by decide +kernel
theorem dX1_open_4 : decode cX1_open 4 = .ok (.aload_n 0, 1) := by decide +kernel
theorem dX1_open_5 : decode cX1_open 5 = .ok (.getfield 68, 3) := by decide +kernel
theorem dX1_open_8 : decode cX1_open 8 = .ok (.if_icmp .lt 9, 3) := by decide +kernel
theorem dX1_open_11 : decode cX1_open 11 = .ok (.aload_n 0, 1) := by decide +kernel
theorem dX1_open_12 : decode cX1_open 12 = .ok (.iconst 1, 1) := by decide +kernel
theorem dX1_open_13 : decode cX1_open 13 = .ok (.putfield 74, 3) := by decide +kernel
theorem dX1_open_16 : decode cX1_open 16 = .ok (.return_, 1) := by decide +kernel
theorem dX1_open_17 : decode cX1_open 17 = .ok (.aload_n 0, 1) := by decide +kernel
theorem dX1_open_18 : decode cX1_open 18 = .ok (.dup, 1) := by decide +kernel
theorem dX1_open_19 : decode cX1_open 19 = .ok (.getfield 71, 3) := by decide +kernel
theorem dX1_open_22 : decode cX1_open 22 = .ok (.iconst 1, 1) := by decide +kernel
theorem dX1_open_23 : decode cX1_open 23 = .ok (.iadd, 1) := by decide +kernel
theorem dX1_open_24 : decode cX1_open 24 = .ok (.putfield 71, 3) := by decide +kernel
theorem dX1_open_27 : decode cX1_open 27 = .ok (.aload_n 0, 1) := by decide +kernel
theorem dX1_open_28 : decode cX1_open 28 = .ok (.getfield 40, 3) := by decide +kernel
theorem dX1_open_31 : decode cX1_open 31 = .ok (.getfield 92, 3) := by decide +kernel
theorem dX1_open_34 : decode cX1_open 34 = .ok (.sipush 200, 3) := by decide +kernel
theorem dX1_open_37 : decode cX1_open 37 = .ok (.if_icmp .lt 15, 3) := by decide +kernel
theorem dX1_open_40 : decode cX1_open 40 = .ok (.aload_n 0, 1) := by decide +kernel
theorem dX1_open_41 : decode cX1_open 41 = .ok (.aload_n 1, 1) := by decide +kernel
theorem dX1_open_42 : decode cX1_open 42 = .ok (.getfield 120, 3) := by decide +kernel
theorem dX1_open_45 : decode cX1_open 45 = .ok (.bipush 7, 2) := by decide +kernel
theorem dX1_open_47 : decode cX1_open 47 = .ok (.invokevirtual 85, 3) := by decide +kernel
theorem dX1_open_50 : decode cX1_open 50 = .ok (.pop, 1) := by decide +kernel
theorem dX1_open_51 : decode cX1_open 51 = .ok (.return_, 1) := by decide +kernel
theorem dX1_open_52 : decode cX1_open 52 = .ok (.aload_n 0, 1) := by decide +kernel
theorem dX1_open_53 : decode cX1_open 53 = .ok (.aload_n 0, 1) := by decide +kernel
theorem dX1_open_54 : decode cX1_open 54 = .ok (.getfield 40, 3) := by decide +kernel
theorem dX1_open_57 : decode cX1_open 57 = .ok (.invokevirtual 125, 3) := by decide +kernel
theorem dX1_open_60 : decode cX1_open 60 = .ok (.putfield 40, 3) := by decide +kernel
theorem dX1_open_63 : decode cX1_open 63 = .ok (.aload_n 0, 1) := by decide +kernel
theorem dX1_open_64 : decode cX1_open 64 = .ok (.getfield 40, 3) := by decide +kernel
theorem dX1_open_67 : decode cX1_open 67 = .ok (.aload_n 1, 1) := by decide +kernel
theorem dX1_open_68 : decode cX1_open 68 = .ok (.invokevirtual 81, 3) := by decide +kernel
theorem dX1_open_71 : decode cX1_open 71 = .ok (.return_, 1) := by decide +kernel
theorem dX1_close_0 : decode cX1_close 0 = .ok (.aload_n 0, 1) := by decide +kernel
theorem dX1_close_1 : decode cX1_close 1 = .ok (.getfield 95, 3) := by decide +kernel
theorem dX1_close_4 : decode cX1_close 4 = .ok (.ifCond .ne 19, 3) := by decide +kernel
theorem dX1_close_7 : decode cX1_close 7 = .ok (.aload_n 0, 1) := by decide +kernel
theorem dX1_close_8 : decode cX1_close 8 = .ok (.aload_n 1, 1) := by decide +kernel
theorem dX1_close_9 : decode cX1_close 9 = .ok (.getfield 129, 3) := by decide +kernel
theorem dX1_close_12 : decode cX1_close 12 = .ok (.putfield 40, 3) := by decide +kernel
theorem dX1_close_15 : decode cX1_close 15 = .ok (.aload_n 0, 1) := by decide +kernel
theorem dX1_close_16 : decode cX1_close 16 = .ok (.getfield 40, 3) := by decide +kernel
theorem dX1_close_19 : decode cX1_close 19 = .ok (.aload_n 2, 1) := by decide +kernel
theorem dX1_close_20 : decode cX1_close 20 = .ok (.invokevirtual 132, 3) := by decide +kernel
theorem dX1_close_23 : decode cX1_close 23 = .ok (.return_, 1) := by decide +kernel
theorem dX1_workPart_0 : decode cX1_workPart 0 = .ok (.aload_n 1, 1) := by decide +kernel
theorem dX1_workPart_1 : decode cX1_workPart 1 = .ok (.iload_n 2, 1) := by decide +kernel
theorem dX1_workPart_2 : decode cX1_workPart 2 = .ok (.putfield 136, 3) := by decide +kernel
theorem dX1_workPart_5 : decode cX1_workPart 5 = .ok (.aload_n 0, 1) := by decide +kernel
theorem dX1_workPart_6 : decode cX1_workPart 6 = .ok (.getfield 12, 3) := by decide +kernel
theorem dX1_workPart_9 : decode cX1_workPart 9 = .ok (.aload_n 1, 1) := by decide +kernel
theorem dX1_workPart_10 : decode cX1_workPart 10 = .ok (.getfield 139, 3) := by decide +kernel
theorem dX1_workPart_13 : decode cX1_workPart 13 = .ok (.iload_n 2, 1) := by decide +kernel
theorem dX1_workPart_14 : decode cX1_workPart 14 = .ok (.invokevirtual 143, 3) := by decide +kernel
theorem dX1_workPart_17 : decode cX1_workPart 17 = .ok (.invokevirtual 147, 3) := by decide +kernel
theorem dX1_workPart_20 : decode cX1_workPart 20 = .ok (.astore_n 3, 1) := by decide +kernel
theorem dX1_workPart_21 : decode cX1_workPart 21 = .ok (.aload_n 3, 1) := by decide +kernel
theorem dX1_workPart_22 : decode cX1_workPart 22 = .ok (.ifnonnull 19, 3) := by decide +kernel
theorem dX1_workPart_25 : decode cX1_workPart 25 = .ok (.aload_n 0, 1) := by decide +kernel
theorem dX1_workPart_26 : decode cX1_workPart 26 = .ok (.aload_n 1, 1) := by decide +kernel
theorem dX1_workPart_27 : decode cX1_workPart 27 = .ok (.getfield 139, 3) := by decide +kernel
theorem dX1_workPart_30 : decode cX1_workPart 30 = .ok (.getfield 120, 3) := by decide +kernel
theorem dX1_workPart_33 : decode cX1_workPart 33 = .ok (.iconst 1, 1) := by decide +kernel
theorem dX1_workPart_34 : decode cX1_workPart 34 = .ok (.invokevirtual 85, 3) := by decide +kernel
theorem dX1_workPart_37 : decode cX1_workPart 37 = .ok (.pop, 1) := by decide +kernel
theorem dX1_workPart_38 : decode cX1_workPart 38 = .ok (.goto 8, 3) := by decide +kernel
theorem dX1_workPart_41 : decode cX1_workPart 41 = .ok (.aload_n 0, 1) := by decide +kernel
theorem dX1_workPart_42 : decode cX1_workPart 42 = .ok (.aload_n 3, 1) := by decide +kernel
theorem dX1_workPart_43 : decode cX1_workPart 43 = .ok (.invokevirtual 89, 3) := by decide +kernel
theorem dX1_workPart_46 : decode cX1_workPart 46 = .ok (.return_, 1) := by decide +kernel
theorem dX1_nextPart_0 : decode cX1_nextPart 0 = .ok (.aload_n 1, 1) := by decide +kernel
theorem dX1_nextPart_1 : decode cX1_nextPart 1 = .ok (.getfield 139, 3) := by decide +kernel
theorem dX1_nextPart_4 : decode cX1_nextPart 4 = .ok (.getfield 151, 3) := by decide +kernel
theorem dX1_nextPart_7 : decode cX1_nextPart 7 = .ok (.lookupswitch 59 #[(15, 33), (19, 47), (20, 53)], 33) := by decide +kernel
theorem dX1_nextPart_40 : decode cX1_nextPart 40 = .ok (.aload_n 1, 1) := by decide +kernel
theorem dX1_nextPart_41 : decode cX1_nextPart 41 = .ok (.getfield 136, 3) := by decide +kernel
theorem dX1_nextPart_44 : decode cX1_nextPart 44 = .ok (.iconst (-1), 1) := by decide +kernel
theorem dX1_nextPart_45 : decode cX1_nextPart 45 = .ok (.if_icmp .ne 7, 3) := by decide +kernel
theorem dX1_nextPart_48 : decode cX1_nextPart 48 = .ok (.iconst 0, 1) := by decide +kernel
theorem dX1_nextPart_49 : decode cX1_nextPart 49 = .ok (.goto 4, 3) := by decide +kernel
theorem dX1_nextPart_52 : decode cX1_nextPart 52 = .ok (.iconst 3, 1) := by decide +kernel
theorem dX1_nextPart_53 : decode cX1_nextPart 53 = .ok (.ireturn, 1) := by decide +kernel
theorem dX1_nextPart_54 : decode cX1_nextPart 54 = .ok (.aload_n 0, 1) := by decide +kernel
theorem dX1_nextPart_55 : decode cX1_nextPart 55 = .ok (.aload_n 1, 1) := by decide +kernel
theorem dX1_nextPart_56 : decode cX1_nextPart 56 = .ok (.invokevirtual 154, 3) := by decide +kernel
theorem dX1_nextPart_59 : decode cX1_nextPart 59 = .ok (.ireturn, 1) := by decide +kernel
theorem dX1_nextPart_60 : decode cX1_nextPart 60 = .ok (.aload_n 0, 1) := by decide +kernel
theorem dX1_nextPart_61 : decode cX1_nextPart 61 = .ok (.aload_n 1, 1) := by decide +kernel
theorem dX1_nextPart_62 : decode cX1_nextPart 62 = .ok (.invokevirtual 157, 3) := by decide +kernel
theorem dX1_nextPart_65 : decode cX1_nextPart 65 = .ok (.ireturn, 1) := by decide +kernel
theorem dX1_nextPart_66 : decode cX1_nextPart 66 = .ok (.aload_n 0, 1) := by decide +kernel
theorem dX1_nextPart_67 : decode cX1_nextPart 67 = .ok (.aload_n 1, 1) := by decide +kernel
theorem dX1_nextPart_68 : decode cX1_nextPart 68 = .ok (.invokevirtual 160, 3) := by decide +kernel
theorem dX1_nextPart_71 : decode cX1_nextPart 71 = .ok (.ireturn, 1) := by decide +kernel
theorem dX1_nextInOrder_0 : decode cX1_nextInOrder 0 = .ok (.aload_n 1, 1) := by decide +kernel
theorem dX1_nextInOrder_1 : decode cX1_nextInOrder 1 = .ok (.getfield 136, 3) := by decide +kernel
theorem dX1_nextInOrder_4 : decode cX1_nextInOrder 4 = .ok (.iconst 1, 1) := by decide +kernel
theorem dX1_nextInOrder_5 : decode cX1_nextInOrder 5 = .ok (.iadd, 1) := by decide +kernel
theorem dX1_nextInOrder_6 : decode cX1_nextInOrder 6 = .ok (.istore_n 2, 1) := by decide +kernel
theorem dX1_nextInOrder_7 : decode cX1_nextInOrder 7 = .ok (.iload_n 2, 1) := by decide +kernel
theorem dX1_nextInOrder_8 : decode cX1_nextInOrder 8 = .ok (.iconst 2, 1) := by decide +kernel
theorem dX1_nextInOrder_9 : decode cX1_nextInOrder 9 = .ok (.if_icmp .gt 22, 3) := by decide +kernel
theorem dX1_nextInOrder_12 : decode cX1_nextInOrder 12 = .ok (.aload_n 1, 1) := by decide +kernel
theorem dX1_nextInOrder_13 : decode cX1_nextInOrder 13 = .ok (.getfield 139, 3) := by decide +kernel
theorem dX1_nextInOrder_16 : decode cX1_nextInOrder 16 = .ok (.iload_n 2, 1) := by decide +kernel
theorem dX1_nextInOrder_17 : decode cX1_nextInOrder 17 = .ok (.invokevirtual 163, 3) := by decide +kernel
theorem dX1_nextInOrder_20 : decode cX1_nextInOrder 20 = .ok (.ifCond .eq 5, 3) := by decide +kernel
theorem dX1_nextInOrder_23 : decode cX1_nextInOrder 23 = .ok (.iload_n 2, 1) := by decide +kernel
theorem dX1_nextInOrder_24 : decode cX1_nextInOrder 24 = .ok (.ireturn, 1) := by decide +kernel
theorem dX1_nextInOrder_25 : decode cX1_nextInOrder 25 = .ok (.iinc 2 1, 3) := by decide +kernel
theorem dX1_nextInOrder_28 : decode cX1_nextInOrder 28 = .ok (.goto (-21), 3) := by decide +kernel
theorem dX1_nextInOrder_31 : decode cX1_nextInOrder 31 = .ok (.iconst 3, 1) := by decide +kernel
theorem dX1_nextInOrder_32 : decode cX1_nextInOrder 32 = .ok (.ireturn, 1) := by decide +kernel
theorem dX1_nextOfIf_0 : decode cX1_nextOfIf 0 = .ok (.aload_n 1, 1) := by decide +kernel
theorem dX1_nextOfIf_1 : decode cX1_nextOfIf 1 = .ok (.getfield 136, 3) := by decide +kernel
theorem dX1_nextOfIf_4 : decode cX1_nextOfIf 4 = .ok (.iconst (-1), 1) := by decide +kernel
theorem dX1_nextOfIf_5 : decode cX1_nextOfIf 5 = .ok (.if_icmp .ne 5, 3) := by decide +kernel
theorem dX1_nextOfIf_8 : decode cX1_nextOfIf 8 = .ok (.iconst 0, 1) := by decide +kernel
theorem dX1_nextOfIf_9 : decode cX1_nextOfIf 9 = .ok (.ireturn, 1) := by decide +kernel
theorem dX1_nextOfIf_10 : decode cX1_nextOfIf 10 = .ok (.aload_n 1, 1) := by decide +kernel
theorem dX1_nextOfIf_11 : decode cX1_nextOfIf 11 = .ok (.getfield 136, 3) := by decide +kernel
theorem dX1_nextOfIf_14 : decode cX1_nextOfIf 14 = .ok (.ifCond .ne 16, 3) := by decide +kernel
theorem dX1_nextOfIf_17 : decode cX1_nextOfIf 17 = .ok (.aload_n 0, 1) := by decide +kernel
theorem dX1_nextOfIf_18 : decode cX1_nextOfIf 18 = .ok (.aload_n 1, 1) := by decide +kernel
theorem dX1_nextOfIf_19 : decode cX1_nextOfIf 19 = .ok (.aload_n 1, 1) := by decide +kernel
theorem dX1_nextOfIf_20 : decode cX1_nextOfIf 20 = .ok (.getfield 166, 3) := by decide +kernel
theorem dX1_nextOfIf_23 : decode cX1_nextOfIf 23 = .ok (.iconst 1, 1) := by decide +kernel
theorem dX1_nextOfIf_24 : decode cX1_nextOfIf 24 = .ok (.invokevirtual 169, 3) := by decide +kernel
theorem dX1_nextOfIf_27 : decode cX1_nextOfIf 27 = .ok (.ifCond .eq 5, 3) := by decide +kernel
theorem dX1_nextOfIf_30 : decode cX1_nextOfIf 30 = .ok (.iconst 3, 1) := by decide +kernel
theorem dX1_nextOfIf_31 : decode cX1_nextOfIf 31 = .ok (.ireturn, 1) := by decide +kernel
theorem dX1_nextOfIf_32 : decode cX1_nextOfIf 32 = .ok (.aload_n 1, 1) := by decide +kernel
theorem dX1_nextOfIf_33 : decode cX1_nextOfIf 33 = .ok (.getfield 166, 3) := by decide +kernel
theorem dX1_nextOfIf_36 : decode cX1_nextOfIf 36 = .ok (.getfield 173, 3) := by decide +kernel
theorem dX1_nextOfIf_39 : decode cX1_nextOfIf 39 = .ok (.lconst 0, 1) := by decide +kernel
theorem dX1_nextOfIf_40 : decode cX1_nextOfIf 40 = .ok (.lcmp, 1) := by decide +kernel
theorem dX1_nextOfIf_41 : decode cX1_nextOfIf 41 = .ok (.ifCond .eq 7, 3) := by decide +kernel
theorem dX1_nextOfIf_44 : decode cX1_nextOfIf 44 = .ok (.iconst 1, 1) := by decide +kernel
theorem dX1_nextOfIf_45 : decode cX1_nextOfIf 45 = .ok (.goto 4, 3) := by decide +kernel
theorem dX1_nextOfIf_48 : decode cX1_nextOfIf 48 = .ok (.iconst 2, 1) := by decide +kernel
theorem dX1_nextOfIf_49 : decode cX1_nextOfIf 49 = .ok (.ireturn, 1) := by decide +kernel
theorem dX1_nextOfTimes_0 : decode cX1_nextOfTimes 0 = .ok (.aload_n 1, 1) := by decide +kernel
theorem dX1_nextOfTimes_1 : decode cX1_nextOfTimes 1 = .ok (.getfield 136, 3) := by decide +kernel
theorem dX1_nextOfTimes_4 : decode cX1_nextOfTimes 4 = .ok (.iconst (-1), 1) := by decide +kernel
theorem dX1_nextOfTimes_5 : decode cX1_nextOfTimes 5 = .ok (.if_icmp .ne 5, 3) := by decide +kernel
theorem dX1_nextOfTimes_8 : decode cX1_nextOfTimes 8 = .ok (.iconst 0, 1) := by decide +kernel
theorem dX1_nextOfTimes_9 : decode cX1_nextOfTimes 9 = .ok (.ireturn, 1) := by decide +kernel
theorem dX1_nextOfTimes_10 : decode cX1_nextOfTimes 10 = .ok (.aload_n 1, 1) := by decide +kernel
theorem dX1_nextOfTimes_11 : decode cX1_nextOfTimes 11 = .ok (.getfield 136, 3) := by decide +kernel
theorem dX1_nextOfTimes_14 : decode cX1_nextOfTimes 14 = .ok (.ifCond .ne 34, 3) := by decide +kernel
theorem dX1_nextOfTimes_17 : decode cX1_nextOfTimes 17 = .ok (.aload_n 0, 1) := by decide +kernel
theorem dX1_nextOfTimes_18 : decode cX1_nextOfTimes 18 = .ok (.aload_n 1, 1) := by decide +kernel
theorem dX1_nextOfTimes_19 : decode cX1_nextOfTimes 19 = .ok (.aload_n 1, 1) := by decide +kernel
theorem dX1_nextOfTimes_20 : decode cX1_nextOfTimes 20 = .ok (.getfield 166, 3) := by decide +kernel
theorem dX1_nextOfTimes_23 : decode cX1_nextOfTimes 23 = .ok (.iconst 1, 1) := by decide +kernel
theorem dX1_nextOfTimes_24 : decode cX1_nextOfTimes 24 = .ok (.invokevirtual 169, 3) := by decide +kernel
theorem dX1_nextOfTimes_27 : decode cX1_nextOfTimes 27 = .ok (.ifCond .eq 5, 3) := by decide +kernel
theorem dX1_nextOfTimes_30 : decode cX1_nextOfTimes 30 = .ok (.iconst 3, 1) := by decide +kernel
theorem dX1_nextOfTimes_31 : decode cX1_nextOfTimes 31 = .ok (.ireturn, 1) := by decide +kernel
theorem dX1_nextOfTimes_32 : decode cX1_nextOfTimes 32 = .ok (.aload_n 1, 1) := by decide +kernel
theorem dX1_nextOfTimes_33 : decode cX1_nextOfTimes 33 = .ok (.aload_n 1, 1) := by decide +kernel
theorem dX1_nextOfTimes_34 : decode cX1_nextOfTimes 34 = .ok (.getfield 166, 3) := by decide +kernel
theorem dX1_nextOfTimes_37 : decode cX1_nextOfTimes 37 = .ok (.getfield 173, 3) := by decide +kernel
theorem dX1_nextOfTimes_40 : decode cX1_nextOfTimes 40 = .ok (.putfield 177, 3) := by decide +kernel
theorem dX1_nextOfTimes_43 : decode cX1_nextOfTimes 43 = .ok (.aload_n 1, 1) := by decide +kernel
theorem dX1_nextOfTimes_44 : decode cX1_nextOfTimes 44 = .ok (.aconst_null, 1) := by decide +kernel
theorem dX1_nextOfTimes_45 : decode cX1_nextOfTimes 45 = .ok (.putfield 117, 3) := by decide +kernel
theorem dX1_nextOfTimes_48 : decode cX1_nextOfTimes 48 = .ok (.aload_n 1, 1) := by decide +kernel
theorem dX1_nextOfTimes_49 : decode cX1_nextOfTimes 49 = .ok (.getfield 177, 3) := by decide +kernel
theorem dX1_nextOfTimes_52 : decode cX1_nextOfTimes 52 = .ok (.lconst 1, 1) := by decide +kernel
theorem dX1_nextOfTimes_53 : decode cX1_nextOfTimes 53 = .ok (.lcmp, 1) := by decide +kernel
theorem dX1_nextOfTimes_54 : decode cX1_nextOfTimes 54 = .ok (.ifCond .ge 5, 3) := by decide +kernel
theorem dX1_nextOfTimes_57 : decode cX1_nextOfTimes 57 = .ok (.iconst 3, 1) := by decide +kernel
theorem dX1_nextOfTimes_58 : decode cX1_nextOfTimes 58 = .ok (.ireturn, 1) := by decide +kernel
theorem dX1_nextOfTimes_59 : decode cX1_nextOfTimes 59 = .ok (.aload_n 1, 1) := by decide +kernel
theorem dX1_nextOfTimes_60 : decode cX1_nextOfTimes 60 = .ok (.dup, 1) := by decide +kernel
theorem dX1_nextOfTimes_61 : decode cX1_nextOfTimes 61 = .ok (.getfield 177, 3) := by decide +kernel
theorem dX1_nextOfTimes_64 : decode cX1_nextOfTimes 64 = .ok (.lconst 1, 1) := by decide +kernel
theorem dX1_nextOfTimes_65 : decode cX1_nextOfTimes 65 = .ok (.lsub, 1) := by decide +kernel
theorem dX1_nextOfTimes_66 : decode cX1_nextOfTimes 66 = .ok (.putfield 177, 3) := by decide +kernel
theorem dX1_nextOfTimes_69 : decode cX1_nextOfTimes 69 = .ok (.iconst 1, 1) := by decide +kernel
theorem dX1_nextOfTimes_70 : decode cX1_nextOfTimes 70 = .ok (.ireturn, 1) := by decide +kernel
theorem dX1_passFault_0 : decode cX1_passFault 0 = .ok (.aload_n 0, 1) := by decide +kernel
theorem dX1_passFault_1 : decode cX1_passFault 1 = .ok (.aload_n 1, 1) := by decide +kernel
theorem dX1_passFault_2 : decode cX1_passFault 2 = .ok (.invokevirtual 180, 3) := by decide +kernel
theorem dX1_passFault_5 : decode cX1_passFault 5 = .ok (.ifCond .ne 12, 3) := by decide +kernel
theorem dX1_passFault_8 : decode cX1_passFault 8 = .ok (.aload_n 0, 1) := by decide +kernel
theorem dX1_passFault_9 : decode cX1_passFault 9 = .ok (.aload_n 1, 1) := by decide +kernel
theorem dX1_passFault_10 : decode cX1_passFault 10 = .ok (.getfield 129, 3) := by decide +kernel
theorem dX1_passFault_13 : decode cX1_passFault 13 = .ok (.putfield 40, 3) := by decide +kernel
theorem dX1_passFault_16 : decode cX1_passFault 16 = .ok (.return_, 1) := by decide +kernel
theorem dX1_passFault_17 : decode cX1_passFault 17 = .ok (.aload_n 0, 1) := by decide +kernel
theorem dX1_passFault_18 : decode cX1_passFault 18 = .ok (.getfield 27, 3) := by decide +kernel
theorem dX1_passFault_21 : decode cX1_passFault 21 = .ok (.iconst 0, 1) := by decide +kernel
theorem dX1_passFault_22 : decode cX1_passFault 22 = .ok (.aload_n 0, 1) := by decide +kernel
theorem dX1_passFault_23 : decode cX1_passFault 23 = .ok (.getfield 21, 3) := by decide +kernel
theorem dX1_passFault_26 : decode cX1_passFault 26 = .ok (.iconst 1, 1) := by decide +kernel
theorem dX1_passFault_27 : decode cX1_passFault 27 = .ok (.aload_n 0, 1) := by decide +kernel
theorem dX1_passFault_28 : decode cX1_passFault 28 = .ok (.getfield 95, 3) := by decide +kernel
theorem dX1_passFault_31 : decode cX1_passFault 31 = .ok (.i2l, 1) := by decide +kernel
theorem dX1_passFault_32 : decode cX1_passFault 32 = .ok (.invokevirtual 184, 3) := by decide +kernel
theorem dX1_passFault_35 : decode cX1_passFault 35 = .ok (.aastore, 1) := by decide +kernel
theorem dX1_passFault_36 : decode cX1_passFault 36 = .ok (.aload_n 0, 1) := by decide +kernel
theorem dX1_passFault_37 : decode cX1_passFault 37 = .ok (.invokevirtual 78, 3) := by decide +kernel
theorem dX1_passFault_40 : decode cX1_passFault 40 = .ok (.aload_n 0, 1) := by decide +kernel
theorem dX1_passFault_41 : decode cX1_passFault 41 = .ok (.aload_n 1, 1) := by decide +kernel
theorem dX1_passFault_42 : decode cX1_passFault 42 = .ok (.iconst 2, 1) := by decide +kernel
theorem dX1_passFault_43 : decode cX1_passFault 43 = .ok (.invokevirtual 114, 3) := by decide +kernel
theorem dX1_passFault_46 : decode cX1_passFault 46 = .ok (.return_, 1) := by decide +kernel
theorem dX1_takesFault_0 : decode cX1_takesFault 0 = .ok (.aload_n 1, 1) := by decide +kernel
theorem dX1_takesFault_1 : decode cX1_takesFault 1 = .ok (.getfield 139, 3) := by decide +kernel
theorem dX1_takesFault_4 : decode cX1_takesFault 4 = .ok (.getfield 151, 3) := by decide +kernel
theorem dX1_takesFault_7 : decode cX1_takesFault 7 = .ok (.bipush 15, 2) := by decide +kernel
theorem dX1_takesFault_9 : decode cX1_takesFault 9 = .ok (.if_icmp .ne 10, 3) := by decide +kernel
theorem dX1_takesFault_12 : decode cX1_takesFault 12 = .ok (.aload_n 1, 1) := by decide +kernel
theorem dX1_takesFault_13 : decode cX1_takesFault 13 = .ok (.getfield 136, 3) := by decide +kernel
theorem dX1_takesFault_16 : decode cX1_takesFault 16 = .ok (.ifCond .eq 5, 3) := by decide +kernel
theorem dX1_takesFault_19 : decode cX1_takesFault 19 = .ok (.iconst 0, 1) := by decide +kernel
theorem dX1_takesFault_20 : decode cX1_takesFault 20 = .ok (.ireturn, 1) := by decide +kernel
theorem dX1_takesFault_21 : decode cX1_takesFault 21 = .ok (.aload_n 1, 1) := by decide +kernel
theorem dX1_takesFault_22 : decode cX1_takesFault 22 = .ok (.getfield 139, 3) := by decide +kernel
theorem dX1_takesFault_25 : decode cX1_takesFault 25 = .ok (.iconst 1, 1) := by decide +kernel
theorem dX1_takesFault_26 : decode cX1_takesFault 26 = .ok (.invokevirtual 143, 3) := by decide +kernel
theorem dX1_takesFault_29 : decode cX1_takesFault 29 = .ok (.istore_n 2, 1) := by decide +kernel
theorem dX1_takesFault_30 : decode cX1_takesFault 30 = .ok (.iload_n 2, 1) := by decide +kernel
theorem dX1_takesFault_31 : decode cX1_takesFault 31 = .ok (.ifCond .eq 11, 3) := by decide +kernel
theorem dX1_takesFault_34 : decode cX1_takesFault 34 = .ok (.iload_n 2, 1) := by decide +kernel
theorem dX1_takesFault_35 : decode cX1_takesFault 35 = .ok (.aload_n 0, 1) := by decide +kernel
theorem dX1_takesFault_36 : decode cX1_takesFault 36 = .ok (.getfield 95, 3) := by decide +kernel
theorem dX1_takesFault_39 : decode cX1_takesFault 39 = .ok (.if_icmp .ne 7, 3) := by decide +kernel
theorem dX1_takesFault_42 : decode cX1_takesFault 42 = .ok (.iconst 1, 1) := by decide +kernel
theorem dX1_takesFault_43 : decode cX1_takesFault 43 = .ok (.goto 4, 3) := by decide +kernel
theorem dX1_takesFault_46 : decode cX1_takesFault 46 = .ok (.iconst 0, 1) := by decide +kernel
theorem dX1_takesFault_47 : decode cX1_takesFault 47 = .ok (.ireturn, 1) := by decide +kernel
theorem dX1_clearFault_0 : decode cX1_clearFault 0 = .ok (.aload_n 0, 1) := by decide +kernel
theorem dX1_clearFault_1 : decode cX1_clearFault 1 = .ok (.iconst 0, 1) := by decide +kernel
theorem dX1_clearFault_2 : decode cX1_clearFault 2 = .ok (.putfield 95, 3) := by decide +kernel
theorem dX1_clearFault_5 : decode cX1_clearFault 5 = .ok (.aload_n 0, 1) := by decide +kernel
theorem dX1_clearFault_6 : decode cX1_clearFault 6 = .ok (.iconst (-1), 1) := by decide +kernel
theorem dX1_clearFault_7 : decode cX1_clearFault 7 = .ok (.putfield 43, 3) := by decide +kernel
theorem dX1_clearFault_10 : decode cX1_clearFault 10 = .ok (.return_, 1) := by decide +kernel
theorem dX1_failAt_0 : decode cX1_failAt 0 = .ok (.aload_n 0, 1) := by decide +kernel
theorem dX1_failAt_1 : decode cX1_failAt 1 = .ok (.iload_n 1, 1) := by decide +kernel
