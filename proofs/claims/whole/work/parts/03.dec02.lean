theorem dX1_at_13 : decode cX1_at 13 = .ok (.getfield 166, 3) := by decide +kernel
theorem dX1_at_16 : decode cX1_at 16 = .ok (.getfield 255, 3) := by decide +kernel
theorem dX1_at_19 : decode cX1_at 19 = .ok (.aload_n 1, 1) := by decide +kernel
theorem dX1_at_20 : decode cX1_at 20 = .ok (.getfield 197, 3) := by decide +kernel
theorem dX1_at_23 : decode cX1_at 23 = .ok (.getfield 173, 3) := by decide +kernel
theorem dX1_at_26 : decode cX1_at 26 = .ok (.l2i, 1) := by decide +kernel
theorem dX1_at_27 : decode cX1_at 27 = .ok (.aaload, 1) := by decide +kernel
theorem dX1_at_28 : decode cX1_at 28 = .ok (.areturn, 1) := by decide +kernel
theorem dX1_size_0 : decode cX1_size 0 = .ok (.aload_n 0, 1) := by decide +kernel
theorem dX1_size_1 : decode cX1_size 1 = .ok (.aload_n 1, 1) := by decide +kernel
theorem dX1_size_2 : decode cX1_size 2 = .ok (.aload_n 1, 1) := by decide +kernel
theorem dX1_size_3 : decode cX1_size 3 = .ok (.getfield 166, 3) := by decide +kernel
theorem dX1_size_6 : decode cX1_size 6 = .ok (.iconst 5, 1) := by decide +kernel
theorem dX1_size_7 : decode cX1_size 7 = .ok (.invokevirtual 169, 3) := by decide +kernel
theorem dX1_size_10 : decode cX1_size 10 = .ok (.ifCond .eq 5, 3) := by decide +kernel
theorem dX1_size_13 : decode cX1_size 13 = .ok (.aconst_null, 1) := by decide +kernel
theorem dX1_size_14 : decode cX1_size 14 = .ok (.areturn, 1) := by decide +kernel
theorem dX1_size_15 : decode cX1_size 15 = .ok (.aload_n 1, 1) := by decide +kernel
theorem dX1_size_16 : decode cX1_size 16 = .ok (.getfield 166, 3) := by decide +kernel
theorem dX1_size_19 : decode cX1_size 19 = .ok (.getfield 255, 3) := by decide +kernel
theorem dX1_size_22 : decode cX1_size 22 = .ok (.ifnonnull 16, 3) := by decide +kernel
theorem dX1_size_25 : decode cX1_size 25 = .ok (.aload_n 0, 1) := by decide +kernel
theorem dX1_size_26 : decode cX1_size 26 = .ok (.aload_n 1, 1) := by decide +kernel
theorem dX1_size_27 : decode cX1_size 27 = .ok (.getfield 139, 3) := by decide +kernel
theorem dX1_size_30 : decode cX1_size 30 = .ok (.getfield 120, 3) := by decide +kernel
theorem dX1_size_33 : decode cX1_size 33 = .ok (.iconst 1, 1) := by decide +kernel
theorem dX1_size_34 : decode cX1_size 34 = .ok (.invokevirtual 85, 3) := by decide +kernel
theorem dX1_size_37 : decode cX1_size 37 = .ok (.areturn, 1) := by decide +kernel
theorem dX1_size_38 : decode cX1_size 38 = .ok (.aload_n 0, 1) := by decide +kernel
theorem dX1_size_39 : decode cX1_size 39 = .ok (.getfield 21, 3) := by decide +kernel
theorem dX1_size_42 : decode cX1_size 42 = .ok (.iconst 1, 1) := by decide +kernel
theorem dX1_size_43 : decode cX1_size 43 = .ok (.aload_n 1, 1) := by decide +kernel
theorem dX1_size_44 : decode cX1_size 44 = .ok (.getfield 166, 3) := by decide +kernel
theorem dX1_size_47 : decode cX1_size 47 = .ok (.getfield 255, 3) := by decide +kernel
theorem dX1_size_50 : decode cX1_size 50 = .ok (.arraylength, 1) := by decide +kernel
theorem dX1_size_51 : decode cX1_size 51 = .ok (.i2l, 1) := by decide +kernel
theorem dX1_size_52 : decode cX1_size 52 = .ok (.invokevirtual 184, 3) := by decide +kernel
theorem dX1_size_55 : decode cX1_size 55 = .ok (.areturn, 1) := by decide +kernel
theorem dX1_hold_0 : decode cX1_hold 0 = .ok (.aload_n 0, 1) := by decide +kernel
theorem dX1_hold_1 : decode cX1_hold 1 = .ok (.aload_n 1, 1) := by decide +kernel
theorem dX1_hold_2 : decode cX1_hold 2 = .ok (.aload_n 1, 1) := by decide +kernel
theorem dX1_hold_3 : decode cX1_hold 3 = .ok (.getfield 166, 3) := by decide +kernel
theorem dX1_hold_6 : decode cX1_hold 6 = .ok (.iconst 1, 1) := by decide +kernel
theorem dX1_hold_7 : decode cX1_hold 7 = .ok (.invokevirtual 169, 3) := by decide +kernel
theorem dX1_hold_10 : decode cX1_hold 10 = .ok (.ifCond .eq 5, 3) := by decide +kernel
theorem dX1_hold_13 : decode cX1_hold 13 = .ok (.aconst_null, 1) := by decide +kernel
theorem dX1_hold_14 : decode cX1_hold 14 = .ok (.areturn, 1) := by decide +kernel
theorem dX1_hold_15 : decode cX1_hold 15 = .ok (.aload_n 0, 1) := by decide +kernel
theorem dX1_hold_16 : decode cX1_hold 16 = .ok (.aload_n 0, 1) := by decide +kernel
theorem dX1_hold_17 : decode cX1_hold 17 = .ok (.getfield 21, 3) := by decide +kernel
theorem dX1_hold_20 : decode cX1_hold 20 = .ok (.bipush 6, 2) := by decide +kernel
theorem dX1_hold_22 : decode cX1_hold 22 = .ok (.aload_n 1, 1) := by decide +kernel
theorem dX1_hold_23 : decode cX1_hold 23 = .ok (.getfield 166, 3) := by decide +kernel
theorem dX1_hold_26 : decode cX1_hold 26 = .ok (.getfield 173, 3) := by decide +kernel
theorem dX1_hold_29 : decode cX1_hold 29 = .ok (.invokevirtual 184, 3) := by decide +kernel
theorem dX1_hold_32 : decode cX1_hold 32 = .ok (.putfield 55, 3) := by decide +kernel
theorem dX1_hold_35 : decode cX1_hold 35 = .ok (.aload_n 0, 1) := by decide +kernel
theorem dX1_hold_36 : decode cX1_hold 36 = .ok (.getfield 55, 3) := by decide +kernel
theorem dX1_hold_39 : decode cX1_hold 39 = .ok (.areturn, 1) := by decide +kernel
theorem dX2_init_0 : decode cX2_init 0 = .ok (.aload_n 0, 1) := by decide +kernel
theorem dX2_init_1 : decode cX2_init 1 = .ok (.invokespecial 1, 3) := by decide +kernel
theorem dX2_init_4 : decode cX2_init 4 = .ok (.return_, 1) := by decide +kernel
theorem dX2_withValue_0 : decode cX2_withValue 0 = .ok (.new 7, 3) := by decide +kernel
theorem dX2_withValue_3 : decode cX2_withValue 3 = .ok (.dup, 1) := by decide +kernel
theorem dX2_withValue_4 : decode cX2_withValue 4 = .ok (.aload_n 0, 1) := by decide +kernel
theorem dX2_withValue_5 : decode cX2_withValue 5 = .ok (.dup, 1) := by decide +kernel
theorem dX2_withValue_6 : decode cX2_withValue 6 = .ok (.getfield 9, 3) := by decide +kernel
theorem dX2_withValue_9 : decode cX2_withValue 9 = .ok (.dup_x1, 1) := by decide +kernel
theorem dX2_withValue_10 : decode cX2_withValue 10 = .ok (.iconst 1, 1) := by decide +kernel
theorem dX2_withValue_11 : decode cX2_withValue 11 = .ok (.iadd, 1) := by decide +kernel
theorem dX2_withValue_12 : decode cX2_withValue 12 = .ok (.putfield 9, 3) := by decide +kernel
theorem dX2_withValue_15 : decode cX2_withValue 15 = .ok (.iload_n 1, 1) := by decide +kernel
theorem dX2_withValue_16 : decode cX2_withValue 16 = .ok (.invokespecial 15, 3) := by decide +kernel
theorem dX2_withValue_19 : decode cX2_withValue 19 = .ok (.astore 4, 2) := by decide +kernel
theorem dX2_withValue_21 : decode cX2_withValue 21 = .ok (.aload 4, 2) := by decide +kernel
theorem dX2_withValue_23 : decode cX2_withValue 23 = .ok (.lload_n 2, 1) := by decide +kernel
theorem dX2_withValue_24 : decode cX2_withValue 24 = .ok (.putfield 18, 3) := by decide +kernel
theorem dX2_withValue_27 : decode cX2_withValue 27 = .ok (.aload 4, 2) := by decide +kernel
theorem dX2_withValue_29 : decode cX2_withValue 29 = .ok (.areturn, 1) := by decide +kernel
theorem dX2_withFields_0 : decode cX2_withFields 0 = .ok (.new 7, 3) := by decide +kernel
theorem dX2_withFields_3 : decode cX2_withFields 3 = .ok (.dup, 1) := by decide +kernel
theorem dX2_withFields_4 : decode cX2_withFields 4 = .ok (.aload_n 0, 1) := by decide +kernel
theorem dX2_withFields_5 : decode cX2_withFields 5 = .ok (.dup, 1) := by decide +kernel
theorem dX2_withFields_6 : decode cX2_withFields 6 = .ok (.getfield 9, 3) := by decide +kernel
theorem dX2_withFields_9 : decode cX2_withFields 9 = .ok (.dup_x1, 1) := by decide +kernel
theorem dX2_withFields_10 : decode cX2_withFields 10 = .ok (.iconst 1, 1) := by decide +kernel
theorem dX2_withFields_11 : decode cX2_withFields 11 = .ok (.iadd, 1) := by decide +kernel
theorem dX2_withFields_12 : decode cX2_withFields 12 = .ok (.putfield 9, 3) := by decide +kernel
theorem dX2_withFields_15 : decode cX2_withFields 15 = .ok (.iload_n 1, 1) := by decide +kernel
theorem dX2_withFields_16 : decode cX2_withFields 16 = .ok (.invokespecial 15, 3) := by decide +kernel
theorem dX2_withFields_19 : decode cX2_withFields 19 = .ok (.astore 4, 2) := by decide +kernel
theorem dX2_withFields_21 : decode cX2_withFields 21 = .ok (.aload 4, 2) := by decide +kernel
theorem dX2_withFields_23 : decode cX2_withFields 23 = .ok (.aload_n 2, 1) := by decide +kernel
theorem dX2_withFields_24 : decode cX2_withFields 24 = .ok (.putfield 22, 3) := by decide +kernel
theorem dX2_withFields_27 : decode cX2_withFields 27 = .ok (.aload 4, 2) := by decide +kernel
theorem dX2_withFields_29 : decode cX2_withFields 29 = .ok (.aload_n 3, 1) := by decide +kernel
theorem dX2_withFields_30 : decode cX2_withFields 30 = .ok (.putfield 26, 3) := by decide +kernel
theorem dX2_withFields_33 : decode cX2_withFields 33 = .ok (.aload 4, 2) := by decide +kernel
theorem dX2_withFields_35 : decode cX2_withFields 35 = .ok (.areturn, 1) := by decide +kernel
theorem dX2_hasRoomFor_0 : decode cX2_hasRoomFor 0 = .ok (.iload_n 1, 1) := by decide +kernel
theorem dX2_hasRoomFor_1 : decode cX2_hasRoomFor 1 = .ok (.ifCond .lt 19, 3) := by decide +kernel
theorem dX2_hasRoomFor_4 : decode cX2_hasRoomFor 4 = .ok (.iload_n 1, 1) := by decide +kernel
theorem dX2_hasRoomFor_5 : decode cX2_hasRoomFor 5 = .ok (.sipush 20000, 3) := by decide +kernel
theorem dX2_hasRoomFor_8 : decode cX2_hasRoomFor 8 = .ok (.aload_n 0, 1) := by decide +kernel
theorem dX2_hasRoomFor_9 : decode cX2_hasRoomFor 9 = .ok (.getfield 29, 3) := by decide +kernel
theorem dX2_hasRoomFor_12 : decode cX2_hasRoomFor 12 = .ok (.isub, 1) := by decide +kernel
theorem dX2_hasRoomFor_13 : decode cX2_hasRoomFor 13 = .ok (.if_icmp .gt 7, 3) := by decide +kernel
theorem dX2_hasRoomFor_16 : decode cX2_hasRoomFor 16 = .ok (.iconst 1, 1) := by decide +kernel
theorem dX2_hasRoomFor_17 : decode cX2_hasRoomFor 17 = .ok (.goto 4, 3) := by decide +kernel
theorem dX2_hasRoomFor_20 : decode cX2_hasRoomFor 20 = .ok (.iconst 0, 1) := by decide +kernel
theorem dX2_hasRoomFor_21 : decode cX2_hasRoomFor 21 = .ok (.ireturn, 1) := by decide +kernel
theorem dX2_row_0 : decode cX2_row 0 = .ok (.aload_n 0, 1) := by decide +kernel
theorem dX2_row_1 : decode cX2_row 1 = .ok (.invokevirtual 32, 3) := by decide +kernel
theorem dX2_row_4 : decode cX2_row 4 = .ok (.astore_n 3, 1) := by decide +kernel
theorem dX2_row_5 : decode cX2_row 5 = .ok (.aload_n 0, 1) := by decide +kernel
theorem dX2_row_6 : decode cX2_row 6 = .ok (.iload_n 2, 1) := by decide +kernel
theorem dX2_row_7 : decode cX2_row 7 = .ok (.invokevirtual 36, 3) := by decide +kernel
theorem dX2_row_10 : decode cX2_row 10 = .ok (.ifCond .eq 26, 3) := by decide +kernel
theorem dX2_row_13 : decode cX2_row 13 = .ok (.aload_n 0, 1) := by decide +kernel
theorem dX2_row_14 : decode cX2_row 14 = .ok (.dup, 1) := by decide +kernel
theorem dX2_row_15 : decode cX2_row 15 = .ok (.getfield 29, 3) := by decide +kernel
theorem dX2_row_18 : decode cX2_row 18 = .ok (.iload_n 2, 1) := by decide +kernel
theorem dX2_row_19 : decode cX2_row 19 = .ok (.iadd, 1) := by decide +kernel
theorem dX2_row_20 : decode cX2_row 20 = .ok (.putfield 29, 3) := by decide +kernel
theorem dX2_row_23 : decode cX2_row 23 = .ok (.aload_n 3, 1) := by decide +kernel
theorem dX2_row_24 : decode cX2_row 24 = .ok (.iload_n 1, 1) := by decide +kernel
theorem dX2_row_25 : decode cX2_row 25 = .ok (.putfield 40, 3) := by decide +kernel
theorem dX2_row_28 : decode cX2_row 28 = .ok (.aload_n 3, 1) := by decide +kernel
theorem dX2_row_29 : decode cX2_row 29 = .ok (.iload_n 2, 1) := by decide +kernel
theorem dX2_row_30 : decode cX2_row 30 = .ok (.anewarray 7, 3) := by decide +kernel
theorem dX2_row_33 : decode cX2_row 33 = .ok (.putfield 43, 3) := by decide +kernel
theorem dX2_row_36 : decode cX2_row 36 = .ok (.aload_n 3, 1) := by decide +kernel
theorem dX2_row_37 : decode cX2_row 37 = .ok (.areturn, 1) := by decide +kernel
theorem dX2_rowWithoutPlaces_0 : decode cX2_rowWithoutPlaces 0 = .ok (.new 7, 3) := by decide +kernel
theorem dX2_rowWithoutPlaces_3 : decode cX2_rowWithoutPlaces 3 = .ok (.dup, 1) := by decide +kernel
theorem dX2_rowWithoutPlaces_4 : decode cX2_rowWithoutPlaces 4 = .ok (.aload_n 0, 1) := by decide +kernel
theorem dX2_rowWithoutPlaces_5 : decode cX2_rowWithoutPlaces 5 = .ok (.dup, 1) := by decide +kernel
theorem dX2_rowWithoutPlaces_6 : decode cX2_rowWithoutPlaces 6 = .ok (.getfield 9, 3) := by decide +kernel
theorem dX2_rowWithoutPlaces_9 : decode cX2_rowWithoutPlaces 9 = .ok (.dup_x1, 1) := by decide +kernel
theorem dX2_rowWithoutPlaces_10 : decode cX2_rowWithoutPlaces 10 = .ok (.iconst 1, 1) := by decide +kernel
theorem dX2_rowWithoutPlaces_11 : decode cX2_rowWithoutPlaces 11 = .ok (.iadd, 1) := by decide +kernel
theorem dX2_rowWithoutPlaces_12 : decode cX2_rowWithoutPlaces 12 = .ok (.putfield 9, 3) := by decide +kernel
theorem dX2_rowWithoutPlaces_15 : decode cX2_rowWithoutPlaces 15 = .ok (.iconst 5, 1) := by decide +kernel
theorem dX2_rowWithoutPlaces_16 : decode cX2_rowWithoutPlaces 16 = .ok (.invokespecial 15, 3) := by decide +kernel
theorem dX2_rowWithoutPlaces_19 : decode cX2_rowWithoutPlaces 19 = .ok (.areturn, 1) := by decide +kernel
theorem dX3_init_0 : decode cX3_init 0 = .ok (.aload_n 0, 1) := by decide +kernel
theorem dX3_init_1 : decode cX3_init 1 = .ok (.invokespecial 5, 3) := by decide +kernel
theorem dX3_init_4 : decode cX3_init 4 = .ok (.aload_n 0, 1) := by decide +kernel
theorem dX3_init_5 : decode cX3_init 5 = .ok (.iconst (-1), 1) := by decide +kernel
theorem dX3_init_6 : decode cX3_init 6 = .ok (.putfield 11, 3) := by decide +kernel
theorem dX3_init_9 : decode cX3_init 9 = .ok (.aload_n 0, 1) := by decide +kernel
theorem dX3_init_10 : decode cX3_init 10 = .ok (.iconst (-1), 1) := by decide +kernel
theorem dX3_init_11 : decode cX3_init 11 = .ok (.putfield 15, 3) := by decide +kernel
theorem dX3_init_14 : decode cX3_init 14 = .ok (.aload_n 0, 1) := by decide +kernel
theorem dX3_init_15 : decode cX3_init 15 = .ok (.iconst (-1), 1) := by decide +kernel
theorem dX3_init_16 : decode cX3_init 16 = .ok (.putfield 18, 3) := by decide +kernel
theorem dX3_init_19 : decode cX3_init 19 = .ok (.aload_n 0, 1) := by decide +kernel
theorem dX3_init_20 : decode cX3_init 20 = .ok (.iload_n 1, 1) := by decide +kernel
theorem dX3_init_21 : decode cX3_init 21 = .ok (.putfield 21, 3) := by decide +kernel
theorem dX3_init_24 : decode cX3_init 24 = .ok (.aload_n 0, 1) := by decide +kernel
theorem dX3_init_25 : decode cX3_init 25 = .ok (.iload_n 2, 1) := by decide +kernel
theorem dX3_init_26 : decode cX3_init 26 = .ok (.putfield 24, 3) := by decide +kernel
theorem dX3_init_29 : decode cX3_init 29 = .ok (.aload_n 0, 1) := by decide +kernel
theorem dX3_init_30 : decode cX3_init 30 = .ok (.lload_n 3, 1) := by decide +kernel
theorem dX3_init_31 : decode cX3_init 31 = .ok (.putfield 27, 3) := by decide +kernel
theorem dX3_init_34 : decode cX3_init 34 = .ok (.return_, 1) := by decide +kernel
theorem dX3_get_0 : decode cX3_get 0 = .ok (.iload_n 1, 1) := by decide +kernel
theorem dX3_get_1 : decode cX3_get 1 = .ok (.lookupswitch 37 #[(0, 27), (1, 32)], 27) := by decide +kernel
theorem dX3_get_28 : decode cX3_get 28 = .ok (.aload_n 0, 1) := by decide +kernel
theorem dX3_get_29 : decode cX3_get 29 = .ok (.getfield 11, 3) := by decide +kernel
theorem dX3_get_32 : decode cX3_get 32 = .ok (.ireturn, 1) := by decide +kernel
theorem dX3_get_33 : decode cX3_get 33 = .ok (.aload_n 0, 1) := by decide +kernel
theorem dX3_get_34 : decode cX3_get 34 = .ok (.getfield 15, 3) := by decide +kernel
theorem dX3_get_37 : decode cX3_get 37 = .ok (.ireturn, 1) := by decide +kernel
theorem dX3_get_38 : decode cX3_get 38 = .ok (.aload_n 0, 1) := by decide +kernel
theorem dX3_get_39 : decode cX3_get 39 = .ok (.getfield 18, 3) := by decide +kernel
theorem dX3_get_42 : decode cX3_get 42 = .ok (.ireturn, 1) := by decide +kernel
theorem dX3_set_0 : decode cX3_set 0 = .ok (.iload_n 1, 1) := by decide +kernel
theorem dX3_set_1 : decode cX3_set 1 = .ok (.lookupswitch 43 #[(0, 27), (1, 35)], 27) := by decide +kernel
theorem dX3_set_28 : decode cX3_set 28 = .ok (.aload_n 0, 1) := by decide +kernel
theorem dX3_set_29 : decode cX3_set 29 = .ok (.iload_n 2, 1) := by decide +kernel
theorem dX3_set_30 : decode cX3_set 30 = .ok (.putfield 11, 3) := by decide +kernel
theorem dX3_set_33 : decode cX3_set 33 = .ok (.goto 16, 3) := by decide +kernel
theorem dX3_set_36 : decode cX3_set 36 = .ok (.aload_n 0, 1) := by decide +kernel
theorem dX3_set_37 : decode cX3_set 37 = .ok (.iload_n 2, 1) := by decide +kernel
theorem dX3_set_38 : decode cX3_set 38 = .ok (.putfield 15, 3) := by decide +kernel
theorem dX3_set_41 : decode cX3_set 41 = .ok (.goto 8, 3) := by decide +kernel
theorem dX3_set_44 : decode cX3_set 44 = .ok (.aload_n 0, 1) := by decide +kernel
theorem dX3_set_45 : decode cX3_set 45 = .ok (.iload_n 2, 1) := by decide +kernel
theorem dX3_set_46 : decode cX3_set 46 = .ok (.putfield 18, 3) := by decide +kernel
theorem dX3_set_49 : decode cX3_set 49 = .ok (.return_, 1) := by decide +kernel
theorem dX3_works_0 : decode cX3_works 0 = .ok (.aload_n 0, 1) := by decide +kernel
theorem dX3_works_1 : decode cX3_works 1 = .ok (.getfield 24, 3) := by decide +kernel
theorem dX3_works_4 : decode cX3_works 4 = .ok (.tableswitch 145 2 20 #[102, 113, 113, 92, 92, 128, 92, 92, 128, 102, 143, 113, 92, 128, 92, 92, 113, 143, 113], 92) := by decide +kernel
theorem dX3_works_96 : decode cX3_works 96 = .ok (.iload_n 1, 1) := by decide +kernel
theorem dX3_works_97 : decode cX3_works 97 = .ok (.ifCond .ne 7, 3) := by decide +kernel
theorem dX3_works_100 : decode cX3_works 100 = .ok (.iconst 1, 1) := by decide +kernel
theorem dX3_works_101 : decode cX3_works 101 = .ok (.goto 4, 3) := by decide +kernel
theorem dX3_works_104 : decode cX3_works 104 = .ok (.iconst 0, 1) := by decide +kernel
theorem dX3_works_105 : decode cX3_works 105 = .ok (.ireturn, 1) := by decide +kernel
theorem dX3_works_106 : decode cX3_works 106 = .ok (.iload_n 1, 1) := by decide +kernel
theorem dX3_works_107 : decode cX3_works 107 = .ok (.iconst 1, 1) := by decide +kernel
theorem dX3_works_108 : decode cX3_works 108 = .ok (.if_icmp .ne 7, 3) := by decide +kernel
theorem dX3_works_111 : decode cX3_works 111 = .ok (.iconst 1, 1) := by decide +kernel
theorem dX3_works_112 : decode cX3_works 112 = .ok (.goto 4, 3) := by decide +kernel
theorem dX3_works_115 : decode cX3_works 115 = .ok (.iconst 0, 1) := by decide +kernel
theorem dX3_works_116 : decode cX3_works 116 = .ok (.ireturn, 1) := by decide +kernel
theorem dX3_works_117 : decode cX3_works 117 = .ok (.iload_n 1, 1) := by decide +kernel
theorem dX3_works_118 : decode cX3_works 118 = .ok (.ifCond .eq 8, 3) := by decide +kernel
theorem dX3_works_121 : decode cX3_works 121 = .ok (.iload_n 1, 1) := by decide +kernel
theorem dX3_works_122 : decode cX3_works 122 = .ok (.iconst 1, 1) := by decide +kernel
theorem dX3_works_123 : decode cX3_works 123 = .ok (.if_icmp .ne 7, 3) := by decide +kernel
theorem dX3_works_126 : decode cX3_works 126 = .ok (.iconst 1, 1) := by decide +kernel
theorem dX3_works_127 : decode cX3_works 127 = .ok (.goto 4, 3) := by decide +kernel
theorem dX3_works_130 : decode cX3_works 130 = .ok (.iconst 0, 1) := by decide +kernel
theorem dX3_works_131 : decode cX3_works 131 = .ok (.ireturn, 1) := by decide +kernel
theorem dX3_works_132 : decode cX3_works 132 = .ok (.iload_n 1, 1) := by decide +kernel
theorem dX3_works_133 : decode cX3_works 133 = .ok (.ifCond .eq 8, 3) := by decide +kernel
theorem dX3_works_136 : decode cX3_works 136 = .ok (.iload_n 1, 1) := by decide +kernel
theorem dX3_works_137 : decode cX3_works 137 = .ok (.iconst 2, 1) := by decide +kernel
theorem dX3_works_138 : decode cX3_works 138 = .ok (.if_icmp .ne 7, 3) := by decide +kernel
theorem dX3_works_141 : decode cX3_works 141 = .ok (.iconst 1, 1) := by decide +kernel
theorem dX3_works_142 : decode cX3_works 142 = .ok (.goto 4, 3) := by decide +kernel
theorem dX3_works_145 : decode cX3_works 145 = .ok (.iconst 0, 1) := by decide +kernel
theorem dX3_works_146 : decode cX3_works 146 = .ok (.ireturn, 1) := by decide +kernel
theorem dX3_works_147 : decode cX3_works 147 = .ok (.iconst 1, 1) := by decide +kernel
theorem dX3_works_148 : decode cX3_works 148 = .ok (.ireturn, 1) := by decide +kernel
theorem dX3_works_149 : decode cX3_works 149 = .ok (.iconst 0, 1) := by decide +kernel
theorem dX3_works_150 : decode cX3_works 150 = .ok (.ireturn, 1) := by decide +kernel
theorem dX4_init_0 : decode cX4_init 0 = .ok (.aload_n 0, 1) := by decide +kernel
theorem dX4_init_1 : decode cX4_init 1 = .ok (.invokespecial 3, 3) := by decide +kernel
theorem dX4_init_4 : decode cX4_init 4 = .ok (.aload_n 0, 1) := by decide +kernel
theorem dX4_init_5 : decode cX4_init 5 = .ok (.new 9, 3) := by decide +kernel
theorem dX4_init_8 : decode cX4_init 8 = .ok (.dup, 1) := by decide +kernel
theorem dX4_init_9 : decode cX4_init 9 = .ok (.invokespecial 11, 3) := by decide +kernel
theorem dX4_init_12 : decode cX4_init 12 = .ok (.putfield 12, 3) := by decide +kernel
theorem dX4_init_15 : decode cX4_init 15 = .ok (.return_, 1) := by decide +kernel
theorem dX4_at_0 : decode cX4_at 0 = .ok (.iload_n 1, 1) := by decide +kernel
theorem dX4_at_1 : decode cX4_at 1 = .ok (.ifCond .lt 28, 3) := by decide +kernel
theorem dX4_at_4 : decode cX4_at 4 = .ok (.iload_n 1, 1) := by decide +kernel
theorem dX4_at_5 : decode cX4_at 5 = .ok (.aload_n 0, 1) := by decide +kernel
theorem dX4_at_6 : decode cX4_at 6 = .ok (.getfield 12, 3) := by decide +kernel
theorem dX4_at_9 : decode cX4_at 9 = .ok (.invokevirtual 18, 3) := by decide +kernel
theorem dX4_at_12 : decode cX4_at 12 = .ok (.if_icmp .ge 17, 3) := by decide +kernel
theorem dX4_at_15 : decode cX4_at 15 = .ok (.aload_n 0, 1) := by decide +kernel
theorem dX4_at_16 : decode cX4_at 16 = .ok (.getfield 12, 3) := by decide +kernel
theorem dX4_at_19 : decode cX4_at 19 = .ok (.iload_n 1, 1) := by decide +kernel
theorem dX4_at_20 : decode cX4_at 20 = .ok (.invokevirtual 22, 3) := by decide +kernel
theorem dX4_at_23 : decode cX4_at 23 = .ok (.checkcast 26, 3) := by decide +kernel
theorem dX4_at_26 : decode cX4_at 26 = .ok (.goto 4, 3) := by decide +kernel
theorem dX4_at_29 : decode cX4_at 29 = .ok (.aconst_null, 1) := by decide +kernel
theorem dX4_at_30 : decode cX4_at 30 = .ok (.areturn, 1) := by decide +kernel
theorem dX4_addLiteral_0 : decode cX4_addLiteral 0 = .ok (.aload_n 0, 1) := by decide +kernel
theorem dX4_addLiteral_1 : decode cX4_addLiteral 1 = .ok (.getfield 12, 3) := by decide +kernel
theorem dX4_addLiteral_4 : decode cX4_addLiteral 4 = .ok (.invokevirtual 18, 3) := by decide +kernel
theorem dX4_addLiteral_7 : decode cX4_addLiteral 7 = .ok (.sipush 4000, 3) := by decide +kernel
theorem dX4_addLiteral_10 : decode cX4_addLiteral 10 = .ok (.if_icmp .lt 5, 3) := by decide +kernel
theorem dX4_addLiteral_13 : decode cX4_addLiteral 13 = .ok (.iconst (-1), 1) := by decide +kernel
theorem dX4_addLiteral_14 : decode cX4_addLiteral 14 = .ok (.ireturn, 1) := by decide +kernel
theorem dX4_addLiteral_15 : decode cX4_addLiteral 15 = .ok (.aload_n 0, 1) := by decide +kernel
theorem dX4_addLiteral_16 : decode cX4_addLiteral 16 = .ok (.new 26, 3) := by decide +kernel
theorem dX4_addLiteral_19 : decode cX4_addLiteral 19 = .ok (.dup, 1) := by decide +kernel
theorem dX4_addLiteral_20 : decode cX4_addLiteral 20 = .ok (.aload_n 0, 1) := by decide +kernel
theorem dX4_addLiteral_21 : decode cX4_addLiteral 21 = .ok (.getfield 12, 3) := by decide +kernel
theorem dX4_addLiteral_24 : decode cX4_addLiteral 24 = .ok (.invokevirtual 18, 3) := by decide +kernel
theorem dX4_addLiteral_27 : decode cX4_addLiteral 27 = .ok (.iconst 0, 1) := by decide +kernel
theorem dX4_addLiteral_28 : decode cX4_addLiteral 28 = .ok (.lload_n 1, 1) := by decide +kernel
theorem dX4_addLiteral_29 : decode cX4_addLiteral 29 = .ok (.invokespecial 28, 3) := by decide +kernel
theorem dX4_addLiteral_32 : decode cX4_addLiteral 32 = .ok (.invokevirtual 31, 3) := by decide +kernel
theorem dX4_addLiteral_35 : decode cX4_addLiteral 35 = .ok (.ireturn, 1) := by decide +kernel
theorem dX4_add_0 : decode cX4_add 0 = .ok (.aload_n 0, 1) := by decide +kernel
theorem dX4_add_1 : decode cX4_add 1 = .ok (.getfield 12, 3) := by decide +kernel
theorem dX4_add_4 : decode cX4_add 4 = .ok (.invokevirtual 18, 3) := by decide +kernel
theorem dX4_add_7 : decode cX4_add 7 = .ok (.sipush 4000, 3) := by decide +kernel
theorem dX4_add_10 : decode cX4_add 10 = .ok (.if_icmp .lt 5, 3) := by decide +kernel
theorem dX4_add_13 : decode cX4_add 13 = .ok (.iconst (-1), 1) := by decide +kernel
theorem dX4_add_14 : decode cX4_add 14 = .ok (.ireturn, 1) := by decide +kernel
theorem dX4_add_15 : decode cX4_add 15 = .ok (.new 26, 3) := by decide +kernel
theorem dX4_add_18 : decode cX4_add 18 = .ok (.dup, 1) := by decide +kernel
theorem dX4_add_19 : decode cX4_add 19 = .ok (.aload_n 0, 1) := by decide +kernel
theorem dX4_add_20 : decode cX4_add 20 = .ok (.getfield 12, 3) := by decide +kernel
theorem dX4_add_23 : decode cX4_add 23 = .ok (.invokevirtual 18, 3) := by decide +kernel
theorem dX4_add_26 : decode cX4_add 26 = .ok (.iload_n 1, 1) := by decide +kernel
theorem dX4_add_27 : decode cX4_add 27 = .ok (.lconst 0, 1) := by decide +kernel
theorem dX4_add_28 : decode cX4_add 28 = .ok (.invokespecial 28, 3) := by decide +kernel
theorem dX4_add_31 : decode cX4_add 31 = .ok (.astore 5, 2) := by decide +kernel
theorem dX4_add_33 : decode cX4_add 33 = .ok (.aload_n 0, 1) := by decide +kernel
theorem dX4_add_34 : decode cX4_add 34 = .ok (.aload 5, 2) := by decide +kernel
theorem dX4_add_36 : decode cX4_add 36 = .ok (.iconst 0, 1) := by decide +kernel
theorem dX4_add_37 : decode cX4_add 37 = .ok (.iload_n 2, 1) := by decide +kernel
theorem dX4_add_38 : decode cX4_add 38 = .ok (.invokevirtual 35, 3) := by decide +kernel
theorem dX4_add_41 : decode cX4_add 41 = .ok (.aload_n 0, 1) := by decide +kernel
theorem dX4_add_42 : decode cX4_add 42 = .ok (.aload 5, 2) := by decide +kernel
theorem dX4_add_44 : decode cX4_add 44 = .ok (.iconst 1, 1) := by decide +kernel
theorem dX4_add_45 : decode cX4_add 45 = .ok (.iload_n 3, 1) := by decide +kernel
theorem dX4_add_46 : decode cX4_add 46 = .ok (.invokevirtual 35, 3) := by decide +kernel
theorem dX4_add_49 : decode cX4_add 49 = .ok (.aload_n 0, 1) := by decide +kernel
theorem dX4_add_50 : decode cX4_add 50 = .ok (.aload 5, 2) := by decide +kernel
theorem dX4_add_52 : decode cX4_add 52 = .ok (.iconst 2, 1) := by decide +kernel
theorem dX4_add_53 : decode cX4_add 53 = .ok (.iload 4, 2) := by decide +kernel
theorem dX4_add_55 : decode cX4_add 55 = .ok (.invokevirtual 35, 3) := by decide +kernel
theorem dX4_add_58 : decode cX4_add 58 = .ok (.aload_n 0, 1) := by decide +kernel
theorem dX4_add_59 : decode cX4_add 59 = .ok (.aload 5, 2) := by decide +kernel
theorem dX4_add_61 : decode cX4_add 61 = .ok (.invokevirtual 31, 3) := by decide +kernel
theorem dX4_add_64 : decode cX4_add 64 = .ok (.ireturn, 1) := by decide +kernel
theorem dX4_setPart_0 : decode cX4_setPart 0 = .ok (.aload_n 1, 1) := by decide +kernel
theorem dX4_setPart_1 : decode cX4_setPart 1 = .ok (.iload_n 2, 1) := by decide +kernel
theorem dX4_setPart_2 : decode cX4_setPart 2 = .ok (.invokevirtual 39, 3) := by decide +kernel
theorem dX4_setPart_5 : decode cX4_setPart 5 = .ok (.ifCond .eq 15, 3) := by decide +kernel
theorem dX4_setPart_8 : decode cX4_setPart 8 = .ok (.aload_n 0, 1) := by decide +kernel
theorem dX4_setPart_9 : decode cX4_setPart 9 = .ok (.iload_n 3, 1) := by decide +kernel
theorem dX4_setPart_10 : decode cX4_setPart 10 = .ok (.invokevirtual 43, 3) := by decide +kernel
theorem dX4_setPart_13 : decode cX4_setPart 13 = .ok (.ifnonnull 7, 3) := by decide +kernel
theorem dX4_setPart_16 : decode cX4_setPart 16 = .ok (.iconst 1, 1) := by decide +kernel
theorem dX4_setPart_17 : decode cX4_setPart 17 = .ok (.goto 4, 3) := by decide +kernel
theorem dX4_setPart_20 : decode cX4_setPart 20 = .ok (.iconst 0, 1) := by decide +kernel
theorem dX4_setPart_21 : decode cX4_setPart 21 = .ok (.istore 4, 2) := by decide +kernel
theorem dX4_setPart_23 : decode cX4_setPart 23 = .ok (.aload_n 1, 1) := by decide +kernel
theorem dX4_setPart_24 : decode cX4_setPart 24 = .ok (.iload_n 2, 1) := by decide +kernel
theorem dX4_setPart_25 : decode cX4_setPart 25 = .ok (.iload 4, 2) := by decide +kernel
theorem dX4_setPart_27 : decode cX4_setPart 27 = .ok (.ifCond .eq 7, 3) := by decide +kernel
theorem dX4_setPart_30 : decode cX4_setPart 30 = .ok (.iconst (-1), 1) := by decide +kernel
theorem dX4_setPart_31 : decode cX4_setPart 31 = .ok (.goto 4, 3) := by decide +kernel
theorem dX4_setPart_34 : decode cX4_setPart 34 = .ok (.iload_n 3, 1) := by decide +kernel
theorem dX4_setPart_35 : decode cX4_setPart 35 = .ok (.invokevirtual 47, 3) := by decide +kernel
theorem dX4_setPart_38 : decode cX4_setPart 38 = .ok (.return_, 1) := by decide +kernel
theorem dX4_clear_0 : decode cX4_clear 0 = .ok (.aload_n 0, 1) := by decide +kernel
theorem dX4_clear_1 : decode cX4_clear 1 = .ok (.getfield 12, 3) := by decide +kernel
theorem dX4_clear_4 : decode cX4_clear 4 = .ok (.invokevirtual 51, 3) := by decide +kernel
theorem dX4_clear_7 : decode cX4_clear 7 = .ok (.return_, 1) := by decide +kernel
theorem dX4_append_0 : decode cX4_append 0 = .ok (.aload_n 0, 1) := by decide +kernel
theorem dX4_append_1 : decode cX4_append 1 = .ok (.getfield 12, 3) := by decide +kernel
theorem dX4_append_4 : decode cX4_append 4 = .ok (.aload_n 1, 1) := by decide +kernel
theorem dX4_append_5 : decode cX4_append 5 = .ok (.invokevirtual 54, 3) := by decide +kernel
theorem dX4_append_8 : decode cX4_append 8 = .ok (.pop, 1) := by decide +kernel
theorem dX4_append_9 : decode cX4_append 9 = .ok (.aload_n 1, 1) := by decide +kernel
theorem dX4_append_10 : decode cX4_append 10 = .ok (.getfield 58, 3) := by decide +kernel
theorem dX4_append_13 : decode cX4_append 13 = .ok (.ireturn, 1) := by decide +kernel
theorem dX5_init_0 : decode cX5_init 0 = .ok (.aload_n 0, 1) := by decide +kernel
theorem dX5_init_1 : decode cX5_init 1 = .ok (.invokespecial 3, 3) := by decide +kernel
theorem dX5_init_4 : decode cX5_init 4 = .ok (.aload_n 0, 1) := by decide +kernel
theorem dX5_init_5 : decode cX5_init 5 = .ok (.iload_n 1, 1) := by decide +kernel
theorem dX5_init_6 : decode cX5_init 6 = .ok (.putfield 9, 3) := by decide +kernel
theorem dX5_init_9 : decode cX5_init 9 = .ok (.aload_n 0, 1) := by decide +kernel
theorem dX5_init_10 : decode cX5_init 10 = .ok (.iload_n 2, 1) := by decide +kernel
theorem dX5_init_11 : decode cX5_init 11 = .ok (.putfield 15, 3) := by decide +kernel
theorem dX5_init_14 : decode cX5_init 14 = .ok (.return_, 1) := by decide +kernel
theorem dX5_isA_0 : decode cX5_isA 0 = .ok (.aload_n 0, 1) := by decide +kernel
theorem dX5_isA_1 : decode cX5_isA 1 = .ok (.getfield 15, 3) := by decide +kernel
theorem dX5_isA_4 : decode cX5_isA 4 = .ok (.iload_n 1, 1) := by decide +kernel
theorem dX5_isA_5 : decode cX5_isA 5 = .ok (.if_icmp .eq 16, 3) := by decide +kernel
theorem dX5_isA_8 : decode cX5_isA 8 = .ok (.iload_n 1, 1) := by decide +kernel
theorem dX5_isA_9 : decode cX5_isA 9 = .ok (.iconst 2, 1) := by decide +kernel
theorem dX5_isA_10 : decode cX5_isA 10 = .ok (.if_icmp .ne 15, 3) := by decide +kernel
theorem dX5_isA_13 : decode cX5_isA 13 = .ok (.aload_n 0, 1) := by decide +kernel
theorem dX5_isA_14 : decode cX5_isA 14 = .ok (.getfield 15, 3) := by decide +kernel
theorem dX5_isA_17 : decode cX5_isA 17 = .ok (.iconst 3, 1) := by decide +kernel
theorem dX5_isA_18 : decode cX5_isA 18 = .ok (.if_icmp .ne 7, 3) := by decide +kernel
theorem dX5_isA_21 : decode cX5_isA 21 = .ok (.iconst 1, 1) := by decide +kernel
theorem dX5_isA_22 : decode cX5_isA 22 = .ok (.goto 4, 3) := by decide +kernel
theorem dX5_isA_25 : decode cX5_isA 25 = .ok (.iconst 0, 1) := by decide +kernel
theorem dX5_isA_26 : decode cX5_isA 26 = .ok (.ireturn, 1) := by decide +kernel
theorem dX5_hasValue_0 : decode cX5_hasValue 0 = .ok (.aload_n 0, 1) := by decide +kernel
theorem dX5_hasValue_1 : decode cX5_hasValue 1 = .ok (.getfield 15, 3) := by decide +kernel
theorem dX5_hasValue_4 : decode cX5_hasValue 4 = .ok (.iconst 1, 1) := by decide +kernel
theorem dX5_hasValue_5 : decode cX5_hasValue 5 = .ok (.if_icmp .eq 12, 3) := by decide +kernel
theorem dX5_hasValue_8 : decode cX5_hasValue 8 = .ok (.aload_n 0, 1) := by decide +kernel
theorem dX5_hasValue_9 : decode cX5_hasValue 9 = .ok (.getfield 15, 3) := by decide +kernel
theorem dX5_hasValue_12 : decode cX5_hasValue 12 = .ok (.bipush 6, 2) := by decide +kernel
theorem dX5_hasValue_14 : decode cX5_hasValue 14 = .ok (.if_icmp .ne 7, 3) := by decide +kernel
theorem dX5_hasValue_17 : decode cX5_hasValue 17 = .ok (.iconst 1, 1) := by decide +kernel
theorem dX5_hasValue_18 : decode cX5_hasValue 18 = .ok (.goto 4, 3) := by decide +kernel
theorem dX5_hasValue_21 : decode cX5_hasValue 21 = .ok (.iconst 0, 1) := by decide +kernel
theorem dX5_hasValue_22 : decode cX5_hasValue 22 = .ok (.ireturn, 1) := by decide +kernel
theorem dX5_hasPlace_0 : decode cX5_hasPlace 0 = .ok (.aload_n 0, 1) := by decide +kernel
theorem dX5_hasPlace_1 : decode cX5_hasPlace 1 = .ok (.getfield 18, 3) := by decide +kernel
theorem dX5_hasPlace_4 : decode cX5_hasPlace 4 = .ok (.ifnull 20, 3) := by decide +kernel
theorem dX5_hasPlace_7 : decode cX5_hasPlace 7 = .ok (.iload_n 1, 1) := by decide +kernel
theorem dX5_hasPlace_8 : decode cX5_hasPlace 8 = .ok (.ifCond .lt 16, 3) := by decide +kernel
theorem dX5_hasPlace_11 : decode cX5_hasPlace 11 = .ok (.iload_n 1, 1) := by decide +kernel
theorem dX5_hasPlace_12 : decode cX5_hasPlace 12 = .ok (.aload_n 0, 1) := by decide +kernel
theorem dX5_hasPlace_13 : decode cX5_hasPlace 13 = .ok (.getfield 18, 3) := by decide +kernel
theorem dX5_hasPlace_16 : decode cX5_hasPlace 16 = .ok (.arraylength, 1) := by decide +kernel
theorem dX5_hasPlace_17 : decode cX5_hasPlace 17 = .ok (.if_icmp .ge 7, 3) := by decide +kernel
theorem dX5_hasPlace_20 : decode cX5_hasPlace 20 = .ok (.iconst 1, 1) := by decide +kernel
theorem dX5_hasPlace_21 : decode cX5_hasPlace 21 = .ok (.goto 4, 3) := by decide +kernel
theorem dX5_hasPlace_24 : decode cX5_hasPlace 24 = .ok (.iconst 0, 1) := by decide +kernel
theorem dX5_hasPlace_25 : decode cX5_hasPlace 25 = .ok (.ireturn, 1) := by decide +kernel
theorem dX5_isRowFor_0 : decode cX5_isRowFor 0 = .ok (.aload_n 0, 1) := by decide +kernel
theorem dX5_isRowFor_1 : decode cX5_isRowFor 1 = .ok (.getfield 22, 3) := by decide +kernel
theorem dX5_isRowFor_4 : decode cX5_isRowFor 4 = .ok (.lookupswitch 64 #[(1, 28), (2, 46)], 28) := by decide +kernel
theorem dX5_isRowFor_32 : decode cX5_isRowFor 32 = .ok (.aload_n 1, 1) := by decide +kernel
theorem dX5_isRowFor_33 : decode cX5_isRowFor 33 = .ok (.ifnull 11, 3) := by decide +kernel
theorem dX5_isRowFor_36 : decode cX5_isRowFor 36 = .ok (.aload_n 1, 1) := by decide +kernel
theorem dX5_isRowFor_37 : decode cX5_isRowFor 37 = .ok (.iconst 2, 1) := by decide +kernel
theorem dX5_isRowFor_38 : decode cX5_isRowFor 38 = .ok (.invokevirtual 25, 3) := by decide +kernel
theorem dX5_isRowFor_41 : decode cX5_isRowFor 41 = .ok (.ifCond .eq 7, 3) := by decide +kernel
theorem dX5_isRowFor_44 : decode cX5_isRowFor 44 = .ok (.iconst 1, 1) := by decide +kernel
theorem dX5_isRowFor_45 : decode cX5_isRowFor 45 = .ok (.goto 4, 3) := by decide +kernel
theorem dX5_isRowFor_48 : decode cX5_isRowFor 48 = .ok (.iconst 0, 1) := by decide +kernel
theorem dX5_isRowFor_49 : decode cX5_isRowFor 49 = .ok (.ireturn, 1) := by decide +kernel
theorem dX5_isRowFor_50 : decode cX5_isRowFor 50 = .ok (.aload_n 1, 1) := by decide +kernel
theorem dX5_isRowFor_51 : decode cX5_isRowFor 51 = .ok (.ifnull 11, 3) := by decide +kernel
theorem dX5_isRowFor_54 : decode cX5_isRowFor 54 = .ok (.aload_n 1, 1) := by decide +kernel
theorem dX5_isRowFor_55 : decode cX5_isRowFor 55 = .ok (.iconst 3, 1) := by decide +kernel
theorem dX5_isRowFor_56 : decode cX5_isRowFor 56 = .ok (.invokevirtual 25, 3) := by decide +kernel
theorem dX5_isRowFor_59 : decode cX5_isRowFor 59 = .ok (.ifCond .eq 7, 3) := by decide +kernel
theorem dX5_isRowFor_62 : decode cX5_isRowFor 62 = .ok (.iconst 1, 1) := by decide +kernel
theorem dX5_isRowFor_63 : decode cX5_isRowFor 63 = .ok (.goto 4, 3) := by decide +kernel
theorem dX5_isRowFor_66 : decode cX5_isRowFor 66 = .ok (.iconst 0, 1) := by decide +kernel
theorem dX5_isRowFor_67 : decode cX5_isRowFor 67 = .ok (.ireturn, 1) := by decide +kernel
theorem dX5_isRowFor_68 : decode cX5_isRowFor 68 = .ok (.iconst 1, 1) := by decide +kernel
theorem dX5_isRowFor_69 : decode cX5_isRowFor 69 = .ok (.ireturn, 1) := by decide +kernel
theorem dX5_tell_0 : decode cX5_tell 0 = .ok (.iload_n 1, 1) := by decide +kernel
theorem dX5_tell_1 : decode cX5_tell 1 = .ok (.tableswitch 78 1 3 #[27, 32, 55], 27) := by decide +kernel
theorem dX5_tell_28 : decode cX5_tell 28 = .ok (.aload_n 0, 1) := by decide +kernel
theorem dX5_tell_29 : decode cX5_tell 29 = .ok (.getfield 9, 3) := by decide +kernel
theorem dX5_tell_32 : decode cX5_tell 32 = .ok (.ireturn, 1) := by decide +kernel
theorem dX5_tell_33 : decode cX5_tell 33 = .ok (.aload_n 0, 1) := by decide +kernel
theorem dX5_tell_34 : decode cX5_tell 34 = .ok (.getfield 15, 3) := by decide +kernel
theorem dX5_tell_37 : decode cX5_tell 37 = .ok (.iconst 5, 1) := by decide +kernel
theorem dX5_tell_38 : decode cX5_tell 38 = .ok (.if_icmp .ne 10, 3) := by decide +kernel
theorem dX5_tell_41 : decode cX5_tell 41 = .ok (.aload_n 0, 1) := by decide +kernel
theorem dX5_tell_42 : decode cX5_tell 42 = .ok (.invokevirtual 29, 3) := by decide +kernel
theorem dX5_tell_45 : decode cX5_tell 45 = .ok (.goto 10, 3) := by decide +kernel
theorem dX5_tell_48 : decode cX5_tell 48 = .ok (.aload_n 0, 1) := by decide +kernel
theorem dX5_tell_49 : decode cX5_tell 49 = .ok (.getfield 33, 3) := by decide +kernel
theorem dX5_tell_52 : decode cX5_tell 52 = .ok (.invokestatic 37, 3) := by decide +kernel
theorem dX5_tell_55 : decode cX5_tell 55 = .ok (.ireturn, 1) := by decide +kernel
theorem dX5_tell_56 : decode cX5_tell 56 = .ok (.aload_n 0, 1) := by decide +kernel
theorem dX5_tell_57 : decode cX5_tell 57 = .ok (.getfield 15, 3) := by decide +kernel
theorem dX5_tell_60 : decode cX5_tell 60 = .ok (.iconst 5, 1) := by decide +kernel
theorem dX5_tell_61 : decode cX5_tell 61 = .ok (.if_icmp .ne 10, 3) := by decide +kernel
theorem dX5_tell_64 : decode cX5_tell 64 = .ok (.aload_n 0, 1) := by decide +kernel
theorem dX5_tell_65 : decode cX5_tell 65 = .ok (.invokevirtual 41, 3) := by decide +kernel
theorem dX5_tell_68 : decode cX5_tell 68 = .ok (.goto 10, 3) := by decide +kernel
theorem dX5_tell_71 : decode cX5_tell 71 = .ok (.aload_n 0, 1) := by decide +kernel
theorem dX5_tell_72 : decode cX5_tell 72 = .ok (.getfield 44, 3) := by decide +kernel
theorem dX5_tell_75 : decode cX5_tell 75 = .ok (.invokestatic 37, 3) := by decide +kernel
theorem dX5_tell_78 : decode cX5_tell 78 = .ok (.ireturn, 1) := by decide +kernel
theorem dX5_tell_79 : decode cX5_tell 79 = .ok (.iconst (-1), 1) := by decide +kernel
theorem dX5_tell_80 : decode cX5_tell 80 = .ok (.ireturn, 1) := by decide +kernel
theorem dX5_placesOrNone_0 : decode cX5_placesOrNone 0 = .ok (.aload_n 0, 1) := by decide +kernel
theorem dX5_placesOrNone_1 : decode cX5_placesOrNone 1 = .ok (.getfield 18, 3) := by decide +kernel
theorem dX5_placesOrNone_4 : decode cX5_placesOrNone 4 = .ok (.ifnonnull 7, 3) := by decide +kernel
theorem dX5_placesOrNone_7 : decode cX5_placesOrNone 7 = .ok (.iconst (-1), 1) := by decide +kernel
theorem dX5_placesOrNone_8 : decode cX5_placesOrNone 8 = .ok (.goto 8, 3) := by decide +kernel
theorem dX5_placesOrNone_11 : decode cX5_placesOrNone 11 = .ok (.aload_n 0, 1) := by decide +kernel
theorem dX5_placesOrNone_12 : decode cX5_placesOrNone 12 = .ok (.getfield 18, 3) := by decide +kernel
theorem dX5_placesOrNone_15 : decode cX5_placesOrNone 15 = .ok (.arraylength, 1) := by decide +kernel
theorem dX5_placesOrNone_16 : decode cX5_placesOrNone 16 = .ok (.ireturn, 1) := by decide +kernel
theorem dX5_useOrNone_0 : decode cX5_useOrNone 0 = .ok (.aload_n 0, 1) := by decide +kernel
theorem dX5_useOrNone_1 : decode cX5_useOrNone 1 = .ok (.getfield 18, 3) := by decide +kernel
theorem dX5_useOrNone_4 : decode cX5_useOrNone 4 = .ok (.ifnonnull 7, 3) := by decide +kernel
theorem dX5_useOrNone_7 : decode cX5_useOrNone 7 = .ok (.iconst (-1), 1) := by decide +kernel
theorem dX5_useOrNone_8 : decode cX5_useOrNone 8 = .ok (.goto 7, 3) := by decide +kernel
theorem dX5_useOrNone_11 : decode cX5_useOrNone 11 = .ok (.aload_n 0, 1) := by decide +kernel
theorem dX5_useOrNone_12 : decode cX5_useOrNone 12 = .ok (.getfield 22, 3) := by decide +kernel
theorem dX5_useOrNone_15 : decode cX5_useOrNone 15 = .ok (.ireturn, 1) := by decide +kernel
theorem dX5_numberOf_0 : decode cX5_numberOf 0 = .ok (.aload_n 0, 1) := by decide +kernel
theorem dX5_numberOf_1 : decode cX5_numberOf 1 = .ok (.ifnonnull 7, 3) := by decide +kernel
theorem dX5_numberOf_4 : decode cX5_numberOf 4 = .ok (.iconst (-1), 1) := by decide +kernel
theorem dX5_numberOf_5 : decode cX5_numberOf 5 = .ok (.goto 7, 3) := by decide +kernel
theorem dX5_numberOf_8 : decode cX5_numberOf 8 = .ok (.aload_n 0, 1) := by decide +kernel
theorem dX5_numberOf_9 : decode cX5_numberOf 9 = .ok (.getfield 9, 3) := by decide +kernel
theorem dX5_numberOf_12 : decode cX5_numberOf 12 = .ok (.ireturn, 1) := by decide +kernel
theorem dX6_init_0 : decode cX6_init 0 = .ok (.aload_n 0, 1) := by decide +kernel
theorem dX6_init_1 : decode cX6_init 1 = .ok (.invokespecial 1, 3) := by decide +kernel
theorem dX6_init_4 : decode cX6_init 4 = .ok (.aload_n 0, 1) := by decide +kernel
theorem dX6_init_5 : decode cX6_init 5 = .ok (.new 7, 3) := by decide +kernel
theorem dX6_init_8 : decode cX6_init 8 = .ok (.dup, 1) := by decide +kernel
theorem dX6_init_9 : decode cX6_init 9 = .ok (.invokespecial 9, 3) := by decide +kernel
theorem dX6_init_12 : decode cX6_init 12 = .ok (.putfield 10, 3) := by decide +kernel
theorem dX6_init_15 : decode cX6_init 15 = .ok (.aload_n 0, 1) := by decide +kernel
theorem dX6_init_16 : decode cX6_init 16 = .ok (.aload_n 0, 1) := by decide +kernel
theorem dX6_init_17 : decode cX6_init 17 = .ok (.getfield 10, 3) := by decide +kernel
theorem dX6_init_20 : decode cX6_init 20 = .ok (.getfield 16, 3) := by decide +kernel
theorem dX6_init_23 : decode cX6_init 23 = .ok (.putfield 20, 3) := by decide +kernel
theorem dX6_init_26 : decode cX6_init 26 = .ok (.return_, 1) := by decide +kernel
theorem dX6_lit_0 : decode cX6_lit 0 = .ok (.aload_n 0, 1) := by decide +kernel
theorem dX6_lit_1 : decode cX6_lit 1 = .ok (.getfield 20, 3) := by decide +kernel
theorem dX6_lit_4 : decode cX6_lit 4 = .ok (.lload_n 1, 1) := by decide +kernel
theorem dX6_lit_5 : decode cX6_lit 5 = .ok (.invokevirtual 21, 3) := by decide +kernel
theorem dX6_lit_8 : decode cX6_lit 8 = .ok (.ireturn, 1) := by decide +kernel
theorem dX6_node_0 : decode cX6_node 0 = .ok (.iload_n 1, 1) := by decide +kernel
theorem dX6_node_1 : decode cX6_node 1 = .ok (.iconst 1, 1) := by decide +kernel
theorem dX6_node_2 : decode cX6_node 2 = .ok (.if_icmp .lt 9, 3) := by decide +kernel
theorem dX6_node_5 : decode cX6_node 5 = .ok (.iload_n 1, 1) := by decide +kernel
theorem dX6_node_6 : decode cX6_node 6 = .ok (.bipush 20, 2) := by decide +kernel
theorem dX6_node_8 : decode cX6_node 8 = .ok (.if_icmp .le 5, 3) := by decide +kernel
theorem dX6_node_11 : decode cX6_node 11 = .ok (.iconst (-1), 1) := by decide +kernel
theorem dX6_node_12 : decode cX6_node 12 = .ok (.ireturn, 1) := by decide +kernel
theorem dX6_node_13 : decode cX6_node 13 = .ok (.aload_n 0, 1) := by decide +kernel
theorem dX6_node_14 : decode cX6_node 14 = .ok (.getfield 20, 3) := by decide +kernel
theorem dX6_node_17 : decode cX6_node 17 = .ok (.iload_n 1, 1) := by decide +kernel
theorem dX6_node_18 : decode cX6_node 18 = .ok (.iload_n 2, 1) := by decide +kernel
theorem dX6_node_19 : decode cX6_node 19 = .ok (.iload_n 3, 1) := by decide +kernel
theorem dX6_node_20 : decode cX6_node 20 = .ok (.iload 4, 2) := by decide +kernel
theorem dX6_node_22 : decode cX6_node 22 = .ok (.invokevirtual 29, 3) := by decide +kernel
theorem dX6_node_25 : decode cX6_node 25 = .ok (.ireturn, 1) := by decide +kernel
