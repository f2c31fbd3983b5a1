theorem dX1_init_0 : decode cX1_init 0 = .ok (.aload_n 0, 1) := by decide +kernel
theorem dX1_init_1 : decode cX1_init 1 = .ok (.invokespecial 3, 3) := by decide +kernel
theorem dX1_init_4 : decode cX1_init 4 = .ok (.aload_n 0, 1) := by decide +kernel
theorem dX1_init_5 : decode cX1_init 5 = .ok (.new 9, 3) := by decide +kernel
theorem dX1_init_8 : decode cX1_init 8 = .ok (.dup, 1) := by decide +kernel
theorem dX1_init_9 : decode cX1_init 9 = .ok (.invokespecial 11, 3) := by decide +kernel
theorem dX1_init_12 : decode cX1_init 12 = .ok (.putfield 12, 3) := by decide +kernel
theorem dX1_init_15 : decode cX1_init 15 = .ok (.aload_n 0, 1) := by decide +kernel
theorem dX1_init_16 : decode cX1_init 16 = .ok (.invokevirtual 18, 3) := by decide +kernel
theorem dX1_init_19 : decode cX1_init 19 = .ok (.return_, 1) := by decide +kernel
theorem dX1_beginIsland_0 : decode cX1_beginIsland 0 = .ok (.aload_n 0, 1) := by decide +kernel
theorem dX1_beginIsland_1 : decode cX1_beginIsland 1 = .ok (.iconst 0, 1) := by decide +kernel
theorem dX1_beginIsland_2 : decode cX1_beginIsland 2 = .ok (.putfield 38, 3) := by decide +kernel
theorem dX1_beginIsland_5 : decode cX1_beginIsland 5 = .ok (.aload_n 0, 1) := by decide +kernel
theorem dX1_beginIsland_6 : decode cX1_beginIsland 6 = .ok (.iconst 0, 1) := by decide +kernel
theorem dX1_beginIsland_7 : decode cX1_beginIsland 7 = .ok (.putfield 44, 3) := by decide +kernel
theorem dX1_beginIsland_10 : decode cX1_beginIsland 10 = .ok (.aload_n 0, 1) := by decide +kernel
theorem dX1_beginIsland_11 : decode cX1_beginIsland 11 = .ok (.iconst 0, 1) := by decide +kernel
theorem dX1_beginIsland_12 : decode cX1_beginIsland 12 = .ok (.putfield 48, 3) := by decide +kernel
theorem dX1_beginIsland_15 : decode cX1_beginIsland 15 = .ok (.aload_n 0, 1) := by decide +kernel
theorem dX1_beginIsland_16 : decode cX1_beginIsland 16 = .ok (.iconst 0, 1) := by decide +kernel
theorem dX1_beginIsland_17 : decode cX1_beginIsland 17 = .ok (.putfield 51, 3) := by decide +kernel
theorem dX1_beginIsland_20 : decode cX1_beginIsland 20 = .ok (.aload_n 0, 1) := by decide +kernel
theorem dX1_beginIsland_21 : decode cX1_beginIsland 21 = .ok (.iconst 0, 1) := by decide +kernel
theorem dX1_beginIsland_22 : decode cX1_beginIsland 22 = .ok (.putfield 54, 3) := by decide +kernel
theorem dX1_beginIsland_25 : decode cX1_beginIsland 25 = .ok (.aload_n 0, 1) := by decide +kernel
theorem dX1_beginIsland_26 : decode cX1_beginIsland 26 = .ok (.iconst 0, 1) := by decide +kernel
theorem dX1_beginIsland_27 : decode cX1_beginIsland 27 = .ok (.putfield 57, 3) := by decide +kernel
theorem dX1_beginIsland_30 : decode cX1_beginIsland 30 = .ok (.return_, 1) := by decide +kernel
theorem dX2_init_0 : decode cX2_init 0 = .ok (.aload_n 0, 1) := by decide +kernel
theorem dX2_init_1 : decode cX2_init 1 = .ok (.invokespecial 3, 3) := by decide +kernel
theorem dX2_init_4 : decode cX2_init 4 = .ok (.aload_n 0, 1) := by decide +kernel
theorem dX2_init_5 : decode cX2_init 5 = .ok (.bipush 6, 2) := by decide +kernel
theorem dX2_init_7 : decode cX2_init 7 = .ok (.anewarray 9, 3) := by decide +kernel
theorem dX2_init_10 : decode cX2_init 10 = .ok (.putfield 11, 3) := by decide +kernel
theorem dX2_init_13 : decode cX2_init 13 = .ok (.aload_n 0, 1) := by decide +kernel
theorem dX2_init_14 : decode cX2_init 14 = .ok (.iconst 0, 1) := by decide +kernel
theorem dX2_init_15 : decode cX2_init 15 = .ok (.putfield 17, 3) := by decide +kernel
theorem dX2_init_18 : decode cX2_init 18 = .ok (.iconst 0, 1) := by decide +kernel
theorem dX2_init_19 : decode cX2_init 19 = .ok (.istore_n 1, 1) := by decide +kernel
theorem dX2_init_20 : decode cX2_init 20 = .ok (.iload_n 1, 1) := by decide +kernel
theorem dX2_init_21 : decode cX2_init 21 = .ok (.bipush 6, 2) := by decide +kernel
theorem dX2_init_23 : decode cX2_init 23 = .ok (.if_icmp .ge 22, 3) := by decide +kernel
theorem dX2_init_26 : decode cX2_init 26 = .ok (.aload_n 0, 1) := by decide +kernel
theorem dX2_init_27 : decode cX2_init 27 = .ok (.getfield 11, 3) := by decide +kernel
theorem dX2_init_30 : decode cX2_init 30 = .ok (.iload_n 1, 1) := by decide +kernel
theorem dX2_init_31 : decode cX2_init 31 = .ok (.new 9, 3) := by decide +kernel
theorem dX2_init_34 : decode cX2_init 34 = .ok (.dup, 1) := by decide +kernel
theorem dX2_init_35 : decode cX2_init 35 = .ok (.invokespecial 21, 3) := by decide +kernel
theorem dX2_init_38 : decode cX2_init 38 = .ok (.aastore, 1) := by decide +kernel
theorem dX2_init_39 : decode cX2_init 39 = .ok (.iinc 1 1, 3) := by decide +kernel
theorem dX2_init_42 : decode cX2_init 42 = .ok (.goto (-22), 3) := by decide +kernel
theorem dX2_init_45 : decode cX2_init 45 = .ok (.return_, 1) := by decide +kernel
theorem dX2_record_0 : decode cX2_record 0 = .ok (.aload_n 0, 1) := by decide +kernel
theorem dX2_record_1 : decode cX2_record 1 = .ok (.getfield 17, 3) := by decide +kernel
theorem dX2_record_4 : decode cX2_record 4 = .ok (.bipush 6, 2) := by decide +kernel
theorem dX2_record_6 : decode cX2_record 6 = .ok (.if_icmp .lt 7, 3) := by decide +kernel
theorem dX2_record_9 : decode cX2_record 9 = .ok (.aload_n 0, 1) := by decide +kernel
theorem dX2_record_10 : decode cX2_record 10 = .ok (.invokevirtual 22, 3) := by decide +kernel
theorem dX2_record_13 : decode cX2_record 13 = .ok (.aload_n 0, 1) := by decide +kernel
theorem dX2_record_14 : decode cX2_record 14 = .ok (.aload_n 0, 1) := by decide +kernel
theorem dX2_record_15 : decode cX2_record 15 = .ok (.getfield 17, 3) := by decide +kernel
theorem dX2_record_18 : decode cX2_record 18 = .ok (.invokevirtual 25, 3) := by decide +kernel
theorem dX2_record_21 : decode cX2_record 21 = .ok (.astore_n 2, 1) := by decide +kernel
theorem dX2_record_22 : decode cX2_record 22 = .ok (.aload_n 2, 1) := by decide +kernel
theorem dX2_record_23 : decode cX2_record 23 = .ok (.ifnull 18, 3) := by decide +kernel
theorem dX2_record_26 : decode cX2_record 26 = .ok (.aload_n 2, 1) := by decide +kernel
theorem dX2_record_27 : decode cX2_record 27 = .ok (.aload_n 1, 1) := by decide +kernel
theorem dX2_record_28 : decode cX2_record 28 = .ok (.invokevirtual 29, 3) := by decide +kernel
theorem dX2_record_31 : decode cX2_record 31 = .ok (.aload_n 0, 1) := by decide +kernel
theorem dX2_record_32 : decode cX2_record 32 = .ok (.dup, 1) := by decide +kernel
theorem dX2_record_33 : decode cX2_record 33 = .ok (.getfield 17, 3) := by decide +kernel
theorem dX2_record_36 : decode cX2_record 36 = .ok (.iconst 1, 1) := by decide +kernel
theorem dX2_record_37 : decode cX2_record 37 = .ok (.iadd, 1) := by decide +kernel
theorem dX2_record_38 : decode cX2_record 38 = .ok (.putfield 17, 3) := by decide +kernel
theorem dX2_record_41 : decode cX2_record 41 = .ok (.return_, 1) := by decide +kernel
theorem dX2_dropOldest_0 : decode cX2_dropOldest 0 = .ok (.aload_n 0, 1) := by decide +kernel
theorem dX2_dropOldest_1 : decode cX2_dropOldest 1 = .ok (.getfield 11, 3) := by decide +kernel
theorem dX2_dropOldest_4 : decode cX2_dropOldest 4 = .ok (.iconst 0, 1) := by decide +kernel
theorem dX2_dropOldest_5 : decode cX2_dropOldest 5 = .ok (.aaload, 1) := by decide +kernel
theorem dX2_dropOldest_6 : decode cX2_dropOldest 6 = .ok (.astore_n 1, 1) := by decide +kernel
theorem dX2_dropOldest_7 : decode cX2_dropOldest 7 = .ok (.iconst 1, 1) := by decide +kernel
theorem dX2_dropOldest_8 : decode cX2_dropOldest 8 = .ok (.istore_n 2, 1) := by decide +kernel
theorem dX2_dropOldest_9 : decode cX2_dropOldest 9 = .ok (.iload_n 2, 1) := by decide +kernel
theorem dX2_dropOldest_10 : decode cX2_dropOldest 10 = .ok (.bipush 6, 2) := by decide +kernel
theorem dX2_dropOldest_12 : decode cX2_dropOldest 12 = .ok (.if_icmp .ge 23, 3) := by decide +kernel
theorem dX2_dropOldest_15 : decode cX2_dropOldest 15 = .ok (.aload_n 0, 1) := by decide +kernel
theorem dX2_dropOldest_16 : decode cX2_dropOldest 16 = .ok (.getfield 11, 3) := by decide +kernel
theorem dX2_dropOldest_19 : decode cX2_dropOldest 19 = .ok (.iload_n 2, 1) := by decide +kernel
theorem dX2_dropOldest_20 : decode cX2_dropOldest 20 = .ok (.iconst 1, 1) := by decide +kernel
theorem dX2_dropOldest_21 : decode cX2_dropOldest 21 = .ok (.isub, 1) := by decide +kernel
theorem dX2_dropOldest_22 : decode cX2_dropOldest 22 = .ok (.aload_n 0, 1) := by decide +kernel
theorem dX2_dropOldest_23 : decode cX2_dropOldest 23 = .ok (.getfield 11, 3) := by decide +kernel
theorem dX2_dropOldest_26 : decode cX2_dropOldest 26 = .ok (.iload_n 2, 1) := by decide +kernel
theorem dX2_dropOldest_27 : decode cX2_dropOldest 27 = .ok (.aaload, 1) := by decide +kernel
theorem dX2_dropOldest_28 : decode cX2_dropOldest 28 = .ok (.aastore, 1) := by decide +kernel
theorem dX2_dropOldest_29 : decode cX2_dropOldest 29 = .ok (.iinc 2 1, 3) := by decide +kernel
theorem dX2_dropOldest_32 : decode cX2_dropOldest 32 = .ok (.goto (-23), 3) := by decide +kernel
theorem dX2_dropOldest_35 : decode cX2_dropOldest 35 = .ok (.aload_n 0, 1) := by decide +kernel
theorem dX2_dropOldest_36 : decode cX2_dropOldest 36 = .ok (.getfield 11, 3) := by decide +kernel
theorem dX2_dropOldest_39 : decode cX2_dropOldest 39 = .ok (.iconst 5, 1) := by decide +kernel
theorem dX2_dropOldest_40 : decode cX2_dropOldest 40 = .ok (.aload_n 1, 1) := by decide +kernel
theorem dX2_dropOldest_41 : decode cX2_dropOldest 41 = .ok (.aastore, 1) := by decide +kernel
theorem dX2_dropOldest_42 : decode cX2_dropOldest 42 = .ok (.aload_n 0, 1) := by decide +kernel
theorem dX2_dropOldest_43 : decode cX2_dropOldest 43 = .ok (.iconst 5, 1) := by decide +kernel
theorem dX2_dropOldest_44 : decode cX2_dropOldest 44 = .ok (.putfield 17, 3) := by decide +kernel
theorem dX2_dropOldest_47 : decode cX2_dropOldest 47 = .ok (.return_, 1) := by decide +kernel
theorem dX2_stateAt_0 : decode cX2_stateAt 0 = .ok (.iload_n 1, 1) := by decide +kernel
theorem dX2_stateAt_1 : decode cX2_stateAt 1 = .ok (.ifCond .lt 18, 3) := by decide +kernel
theorem dX2_stateAt_4 : decode cX2_stateAt 4 = .ok (.iload_n 1, 1) := by decide +kernel
theorem dX2_stateAt_5 : decode cX2_stateAt 5 = .ok (.bipush 6, 2) := by decide +kernel
theorem dX2_stateAt_7 : decode cX2_stateAt 7 = .ok (.if_icmp .ge 12, 3) := by decide +kernel
theorem dX2_stateAt_10 : decode cX2_stateAt 10 = .ok (.aload_n 0, 1) := by decide +kernel
theorem dX2_stateAt_11 : decode cX2_stateAt 11 = .ok (.getfield 11, 3) := by decide +kernel
theorem dX2_stateAt_14 : decode cX2_stateAt 14 = .ok (.iload_n 1, 1) := by decide +kernel
theorem dX2_stateAt_15 : decode cX2_stateAt 15 = .ok (.aaload, 1) := by decide +kernel
theorem dX2_stateAt_16 : decode cX2_stateAt 16 = .ok (.goto 4, 3) := by decide +kernel
theorem dX2_stateAt_19 : decode cX2_stateAt 19 = .ok (.aconst_null, 1) := by decide +kernel
theorem dX2_stateAt_20 : decode cX2_stateAt 20 = .ok (.areturn, 1) := by decide +kernel
theorem dX3_init_0 : decode cX3_init 0 = .ok (.aload_n 0, 1) := by decide +kernel
theorem dX3_init_1 : decode cX3_init 1 = .ok (.invokespecial 3, 3) := by decide +kernel
theorem dX3_init_4 : decode cX3_init 4 = .ok (.aload_n 0, 1) := by decide +kernel
theorem dX3_init_5 : decode cX3_init 5 = .ok (.bipush 64, 2) := by decide +kernel
theorem dX3_init_7 : decode cX3_init 7 = .ok (.newarray .char, 2) := by decide +kernel
theorem dX3_init_9 : decode cX3_init 9 = .ok (.putfield 9, 3) := by decide +kernel
theorem dX3_init_12 : decode cX3_init 12 = .ok (.return_, 1) := by decide +kernel
theorem dX4_init_0 : decode cX4_init 0 = .ok (.aload_n 0, 1) := by decide +kernel
theorem dX4_init_1 : decode cX4_init 1 = .ok (.invokespecial 1, 3) := by decide +kernel
theorem dX4_init_4 : decode cX4_init 4 = .ok (.aload_n 0, 1) := by decide +kernel
theorem dX4_init_5 : decode cX4_init 5 = .ok (.new 7, 3) := by decide +kernel
theorem dX4_init_8 : decode cX4_init 8 = .ok (.dup, 1) := by decide +kernel
theorem dX4_init_9 : decode cX4_init 9 = .ok (.invokespecial 9, 3) := by decide +kernel
theorem dX4_init_12 : decode cX4_init 12 = .ok (.putfield 10, 3) := by decide +kernel
theorem dX4_init_15 : decode cX4_init 15 = .ok (.aload_n 0, 1) := by decide +kernel
theorem dX4_init_16 : decode cX4_init 16 = .ok (.new 7, 3) := by decide +kernel
theorem dX4_init_19 : decode cX4_init 19 = .ok (.dup, 1) := by decide +kernel
theorem dX4_init_20 : decode cX4_init 20 = .ok (.invokespecial 9, 3) := by decide +kernel
theorem dX4_init_23 : decode cX4_init 23 = .ok (.putfield 16, 3) := by decide +kernel
theorem dX4_init_26 : decode cX4_init 26 = .ok (.aload_n 0, 1) := by decide +kernel
theorem dX4_init_27 : decode cX4_init 27 = .ok (.new 19, 3) := by decide +kernel
theorem dX4_init_30 : decode cX4_init 30 = .ok (.dup, 1) := by decide +kernel
theorem dX4_init_31 : decode cX4_init 31 = .ok (.invokespecial 21, 3) := by decide +kernel
theorem dX4_init_34 : decode cX4_init 34 = .ok (.putfield 22, 3) := by decide +kernel
theorem dX4_init_37 : decode cX4_init 37 = .ok (.aload_n 0, 1) := by decide +kernel
theorem dX4_init_38 : decode cX4_init 38 = .ok (.new 26, 3) := by decide +kernel
theorem dX4_init_41 : decode cX4_init 41 = .ok (.dup, 1) := by decide +kernel
theorem dX4_init_42 : decode cX4_init 42 = .ok (.invokespecial 28, 3) := by decide +kernel
theorem dX4_init_45 : decode cX4_init 45 = .ok (.putfield 29, 3) := by decide +kernel
theorem dX4_init_48 : decode cX4_init 48 = .ok (.aload_n 0, 1) := by decide +kernel
theorem dX4_init_49 : decode cX4_init 49 = .ok (.new 33, 3) := by decide +kernel
theorem dX4_init_52 : decode cX4_init 52 = .ok (.dup, 1) := by decide +kernel
theorem dX4_init_53 : decode cX4_init 53 = .ok (.invokespecial 35, 3) := by decide +kernel
theorem dX4_init_56 : decode cX4_init 56 = .ok (.putfield 36, 3) := by decide +kernel
theorem dX4_init_59 : decode cX4_init 59 = .ok (.aload_n 0, 1) := by decide +kernel
theorem dX4_init_60 : decode cX4_init 60 = .ok (.new 7, 3) := by decide +kernel
theorem dX4_init_63 : decode cX4_init 63 = .ok (.dup, 1) := by decide +kernel
theorem dX4_init_64 : decode cX4_init 64 = .ok (.invokespecial 9, 3) := by decide +kernel
theorem dX4_init_67 : decode cX4_init 67 = .ok (.putfield 40, 3) := by decide +kernel
theorem dX4_init_70 : decode cX4_init 70 = .ok (.aload_n 0, 1) := by decide +kernel
theorem dX4_init_71 : decode cX4_init 71 = .ok (.new 7, 3) := by decide +kernel
theorem dX4_init_74 : decode cX4_init 74 = .ok (.dup, 1) := by decide +kernel
theorem dX4_init_75 : decode cX4_init 75 = .ok (.invokespecial 9, 3) := by decide +kernel
theorem dX4_init_78 : decode cX4_init 78 = .ok (.putfield 43, 3) := by decide +kernel
theorem dX4_init_81 : decode cX4_init 81 = .ok (.aload_n 0, 1) := by decide +kernel
theorem dX4_init_82 : decode cX4_init 82 = .ok (.iconst 0, 1) := by decide +kernel
theorem dX4_init_83 : decode cX4_init 83 = .ok (.putfield 46, 3) := by decide +kernel
theorem dX4_init_86 : decode cX4_init 86 = .ok (.return_, 1) := by decide +kernel
theorem dX4_set_0 : decode cX4_set 0 = .ok (.iload_n 1, 1) := by decide +kernel
theorem dX4_set_1 : decode cX4_set 1 = .ok (.ifCond .ne 9, 3) := by decide +kernel
theorem dX4_set_4 : decode cX4_set 4 = .ok (.aload_n 0, 1) := by decide +kernel
theorem dX4_set_5 : decode cX4_set 5 = .ok (.iload_n 2, 1) := by decide +kernel
theorem dX4_set_6 : decode cX4_set 6 = .ok (.invokevirtual 50, 3) := by decide +kernel
theorem dX4_set_9 : decode cX4_set 9 = .ok (.ireturn, 1) := by decide +kernel
theorem dX4_set_10 : decode cX4_set 10 = .ok (.iload_n 1, 1) := by decide +kernel
theorem dX4_set_11 : decode cX4_set 11 = .ok (.iconst 1, 1) := by decide +kernel
theorem dX4_set_12 : decode cX4_set 12 = .ok (.if_icmp .ne 9, 3) := by decide +kernel
theorem dX4_set_15 : decode cX4_set 15 = .ok (.aload_n 0, 1) := by decide +kernel
theorem dX4_set_16 : decode cX4_set 16 = .ok (.iload_n 2, 1) := by decide +kernel
theorem dX4_set_17 : decode cX4_set 17 = .ok (.invokevirtual 54, 3) := by decide +kernel
theorem dX4_set_20 : decode cX4_set 20 = .ok (.ireturn, 1) := by decide +kernel
theorem dX4_set_21 : decode cX4_set 21 = .ok (.bipush (-2), 2) := by decide +kernel
theorem dX4_set_23 : decode cX4_set 23 = .ok (.ireturn, 1) := by decide +kernel
theorem dX4_setCurrent_0 : decode cX4_setCurrent 0 = .ok (.iload_n 1, 1) := by decide +kernel
theorem dX4_setCurrent_1 : decode cX4_setCurrent 1 = .ok (.iconst 1, 1) := by decide +kernel
theorem dX4_setCurrent_2 : decode cX4_setCurrent 2 = .ok (.bipush 60, 2) := by decide +kernel
theorem dX4_setCurrent_4 : decode cX4_setCurrent 4 = .ok (.invokestatic 57, 3) := by decide +kernel
theorem dX4_setCurrent_7 : decode cX4_setCurrent 7 = .ok (.ifCond .ne 6, 3) := by decide +kernel
theorem dX4_setCurrent_10 : decode cX4_setCurrent 10 = .ok (.bipush (-2), 2) := by decide +kernel
theorem dX4_setCurrent_12 : decode cX4_setCurrent 12 = .ok (.ireturn, 1) := by decide +kernel
theorem dX4_setCurrent_13 : decode cX4_setCurrent 13 = .ok (.aload_n 0, 1) := by decide +kernel
theorem dX4_setCurrent_14 : decode cX4_setCurrent 14 = .ok (.getfield 36, 3) := by decide +kernel
theorem dX4_setCurrent_17 : decode cX4_setCurrent 17 = .ok (.aload_n 0, 1) := by decide +kernel
theorem dX4_setCurrent_18 : decode cX4_setCurrent 18 = .ok (.getfield 10, 3) := by decide +kernel
theorem dX4_setCurrent_21 : decode cX4_setCurrent 21 = .ok (.invokevirtual 61, 3) := by decide +kernel
theorem dX4_setCurrent_24 : decode cX4_setCurrent 24 = .ok (.aload_n 0, 1) := by decide +kernel
theorem dX4_setCurrent_25 : decode cX4_setCurrent 25 = .ok (.getfield 10, 3) := by decide +kernel
theorem dX4_setCurrent_28 : decode cX4_setCurrent 28 = .ok (.getfield 65, 3) := by decide +kernel
theorem dX4_setCurrent_31 : decode cX4_setCurrent 31 = .ok (.istore_n 2, 1) := by decide +kernel
theorem dX4_setCurrent_32 : decode cX4_setCurrent 32 = .ok (.aload_n 0, 1) := by decide +kernel
theorem dX4_setCurrent_33 : decode cX4_setCurrent 33 = .ok (.getfield 10, 3) := by decide +kernel
theorem dX4_setCurrent_36 : decode cX4_setCurrent 36 = .ok (.iload_n 1, 1) := by decide +kernel
theorem dX4_setCurrent_37 : decode cX4_setCurrent 37 = .ok (.putfield 65, 3) := by decide +kernel
theorem dX4_setCurrent_40 : decode cX4_setCurrent 40 = .ok (.iload_n 2, 1) := by decide +kernel
theorem dX4_setCurrent_41 : decode cX4_setCurrent 41 = .ok (.ireturn, 1) := by decide +kernel
theorem dX4_setAsking_0 : decode cX4_setAsking 0 = .ok (.iload_n 1, 1) := by decide +kernel
theorem dX4_setAsking_1 : decode cX4_setAsking 1 = .ok (.iconst 0, 1) := by decide +kernel
theorem dX4_setAsking_2 : decode cX4_setAsking 2 = .ok (.iconst 1, 1) := by decide +kernel
theorem dX4_setAsking_3 : decode cX4_setAsking 3 = .ok (.invokestatic 57, 3) := by decide +kernel
theorem dX4_setAsking_6 : decode cX4_setAsking 6 = .ok (.ifCond .ne 6, 3) := by decide +kernel
theorem dX4_setAsking_9 : decode cX4_setAsking 9 = .ok (.bipush (-2), 2) := by decide +kernel
theorem dX4_setAsking_11 : decode cX4_setAsking 11 = .ok (.ireturn, 1) := by decide +kernel
theorem dX4_setAsking_12 : decode cX4_setAsking 12 = .ok (.aload_n 0, 1) := by decide +kernel
theorem dX4_setAsking_13 : decode cX4_setAsking 13 = .ok (.getfield 36, 3) := by decide +kernel
theorem dX4_setAsking_16 : decode cX4_setAsking 16 = .ok (.aload_n 0, 1) := by decide +kernel
theorem dX4_setAsking_17 : decode cX4_setAsking 17 = .ok (.getfield 10, 3) := by decide +kernel
theorem dX4_setAsking_20 : decode cX4_setAsking 20 = .ok (.invokevirtual 61, 3) := by decide +kernel
theorem dX4_setAsking_23 : decode cX4_setAsking 23 = .ok (.aload_n 0, 1) := by decide +kernel
theorem dX4_setAsking_24 : decode cX4_setAsking 24 = .ok (.getfield 10, 3) := by decide +kernel
theorem dX4_setAsking_27 : decode cX4_setAsking 27 = .ok (.getfield 68, 3) := by decide +kernel
theorem dX4_setAsking_30 : decode cX4_setAsking 30 = .ok (.istore_n 2, 1) := by decide +kernel
theorem dX4_setAsking_31 : decode cX4_setAsking 31 = .ok (.aload_n 0, 1) := by decide +kernel
theorem dX4_setAsking_32 : decode cX4_setAsking 32 = .ok (.getfield 10, 3) := by decide +kernel
theorem dX4_setAsking_35 : decode cX4_setAsking 35 = .ok (.iload_n 1, 1) := by decide +kernel
theorem dX4_setAsking_36 : decode cX4_setAsking 36 = .ok (.putfield 68, 3) := by decide +kernel
theorem dX4_setAsking_39 : decode cX4_setAsking 39 = .ok (.iload_n 2, 1) := by decide +kernel
theorem dX4_setAsking_40 : decode cX4_setAsking 40 = .ok (.ireturn, 1) := by decide +kernel
theorem dX4_build_0 : decode cX4_build 0 = .ok (.iload_n 3, 1) := by decide +kernel
theorem dX4_build_1 : decode cX4_build 1 = .ok (.iconst 1, 1) := by decide +kernel
theorem dX4_build_2 : decode cX4_build 2 = .ok (.bipush 9, 2) := by decide +kernel
theorem dX4_build_4 : decode cX4_build 4 = .ok (.invokestatic 57, 3) := by decide +kernel
theorem dX4_build_7 : decode cX4_build 7 = .ok (.ifCond .eq 14, 3) := by decide +kernel
theorem dX4_build_10 : decode cX4_build 10 = .ok (.iload 4, 2) := by decide +kernel
theorem dX4_build_12 : decode cX4_build 12 = .ok (.iconst 1, 1) := by decide +kernel
theorem dX4_build_13 : decode cX4_build 13 = .ok (.bipush 20, 2) := by decide +kernel
theorem dX4_build_15 : decode cX4_build 15 = .ok (.invokestatic 57, 3) := by decide +kernel
theorem dX4_build_18 : decode cX4_build 18 = .ok (.ifCond .ne 6, 3) := by decide +kernel
theorem dX4_build_21 : decode cX4_build 21 = .ok (.bipush (-2), 2) := by decide +kernel
theorem dX4_build_23 : decode cX4_build 23 = .ok (.ireturn, 1) := by decide +kernel
theorem dX4_build_24 : decode cX4_build 24 = .ok (.aload_n 0, 1) := by decide +kernel
theorem dX4_build_25 : decode cX4_build 25 = .ok (.getfield 10, 3) := by decide +kernel
theorem dX4_build_28 : decode cX4_build 28 = .ok (.getfield 71, 3) := by decide +kernel
theorem dX4_build_31 : decode cX4_build 31 = .ok (.bipush 8, 2) := by decide +kernel
theorem dX4_build_33 : decode cX4_build 33 = .ok (.if_icmp .lt 6, 3) := by decide +kernel
theorem dX4_build_36 : decode cX4_build 36 = .ok (.bipush (-4), 2) := by decide +kernel
theorem dX4_build_38 : decode cX4_build 38 = .ok (.ireturn, 1) := by decide +kernel
theorem dX4_build_39 : decode cX4_build 39 = .ok (.aload_n 0, 1) := by decide +kernel
theorem dX4_build_40 : decode cX4_build 40 = .ok (.getfield 36, 3) := by decide +kernel
theorem dX4_build_43 : decode cX4_build 43 = .ok (.aload_n 0, 1) := by decide +kernel
theorem dX4_build_44 : decode cX4_build 44 = .ok (.getfield 10, 3) := by decide +kernel
theorem dX4_build_47 : decode cX4_build 47 = .ok (.invokevirtual 61, 3) := by decide +kernel
theorem dX4_build_50 : decode cX4_build 50 = .ok (.aload_n 0, 1) := by decide +kernel
theorem dX4_build_51 : decode cX4_build 51 = .ok (.getfield 10, 3) := by decide +kernel
theorem dX4_build_54 : decode cX4_build 54 = .ok (.getfield 71, 3) := by decide +kernel
theorem dX4_build_57 : decode cX4_build 57 = .ok (.istore 5, 2) := by decide +kernel
theorem dX4_build_59 : decode cX4_build 59 = .ok (.aload_n 0, 1) := by decide +kernel
theorem dX4_build_60 : decode cX4_build 60 = .ok (.getfield 10, 3) := by decide +kernel
theorem dX4_build_63 : decode cX4_build 63 = .ok (.iload_n 1, 1) := by decide +kernel
theorem dX4_build_64 : decode cX4_build 64 = .ok (.iload_n 2, 1) := by decide +kernel
theorem dX4_build_65 : decode cX4_build 65 = .ok (.iload_n 3, 1) := by decide +kernel
theorem dX4_build_66 : decode cX4_build 66 = .ok (.iload 4, 2) := by decide +kernel
theorem dX4_build_68 : decode cX4_build 68 = .ok (.iconst 0, 1) := by decide +kernel
theorem dX4_build_69 : decode cX4_build 69 = .ok (.invokevirtual 74, 3) := by decide +kernel
theorem dX4_build_72 : decode cX4_build 72 = .ok (.iload 5, 2) := by decide +kernel
theorem dX4_build_74 : decode cX4_build 74 = .ok (.ireturn, 1) := by decide +kernel
theorem dX4_link_0 : decode cX4_link 0 = .ok (.aload_n 0, 1) := by decide +kernel
theorem dX4_link_1 : decode cX4_link 1 = .ok (.getfield 10, 3) := by decide +kernel
theorem dX4_link_4 : decode cX4_link 4 = .ok (.iload_n 1, 1) := by decide +kernel
theorem dX4_link_5 : decode cX4_link 5 = .ok (.invokevirtual 93, 3) := by decide +kernel
theorem dX4_link_8 : decode cX4_link 8 = .ok (.ifCond .eq 14, 3) := by decide +kernel
theorem dX4_link_11 : decode cX4_link 11 = .ok (.aload_n 0, 1) := by decide +kernel
theorem dX4_link_12 : decode cX4_link 12 = .ok (.getfield 10, 3) := by decide +kernel
theorem dX4_link_15 : decode cX4_link 15 = .ok (.iload_n 2, 1) := by decide +kernel
theorem dX4_link_16 : decode cX4_link 16 = .ok (.invokevirtual 93, 3) := by decide +kernel
theorem dX4_link_19 : decode cX4_link 19 = .ok (.ifCond .ne 5, 3) := by decide +kernel
theorem dX4_link_22 : decode cX4_link 22 = .ok (.iconst (-1), 1) := by decide +kernel
theorem dX4_link_23 : decode cX4_link 23 = .ok (.ireturn, 1) := by decide +kernel
theorem dX4_link_24 : decode cX4_link 24 = .ok (.iload_n 1, 1) := by decide +kernel
theorem dX4_link_25 : decode cX4_link 25 = .ok (.iload_n 2, 1) := by decide +kernel
theorem dX4_link_26 : decode cX4_link 26 = .ok (.if_icmp .ne 6, 3) := by decide +kernel
theorem dX4_link_29 : decode cX4_link 29 = .ok (.bipush (-2), 2) := by decide +kernel
theorem dX4_link_31 : decode cX4_link 31 = .ok (.ireturn, 1) := by decide +kernel
theorem dX4_link_32 : decode cX4_link 32 = .ok (.aload_n 0, 1) := by decide +kernel
theorem dX4_link_33 : decode cX4_link 33 = .ok (.getfield 10, 3) := by decide +kernel
theorem dX4_link_36 : decode cX4_link 36 = .ok (.getfield 97, 3) := by decide +kernel
theorem dX4_link_39 : decode cX4_link 39 = .ok (.iload_n 1, 1) := by decide +kernel
theorem dX4_link_40 : decode cX4_link 40 = .ok (.iaload, 1) := by decide +kernel
theorem dX4_link_41 : decode cX4_link 41 = .ok (.iload_n 2, 1) := by decide +kernel
theorem dX4_link_42 : decode cX4_link 42 = .ok (.invokestatic 101, 3) := by decide +kernel
theorem dX4_link_45 : decode cX4_link 45 = .ok (.iload_n 3, 1) := by decide +kernel
theorem dX4_link_46 : decode cX4_link 46 = .ok (.if_icmp .ne 6, 3) := by decide +kernel
theorem dX4_link_49 : decode cX4_link 49 = .ok (.bipush (-5), 2) := by decide +kernel
theorem dX4_link_51 : decode cX4_link 51 = .ok (.ireturn, 1) := by decide +kernel
theorem dX4_link_52 : decode cX4_link 52 = .ok (.aload_n 0, 1) := by decide +kernel
theorem dX4_link_53 : decode cX4_link 53 = .ok (.getfield 36, 3) := by decide +kernel
theorem dX4_link_56 : decode cX4_link 56 = .ok (.aload_n 0, 1) := by decide +kernel
theorem dX4_link_57 : decode cX4_link 57 = .ok (.getfield 10, 3) := by decide +kernel
theorem dX4_link_60 : decode cX4_link 60 = .ok (.invokevirtual 61, 3) := by decide +kernel
theorem dX4_link_63 : decode cX4_link 63 = .ok (.aload_n 0, 1) := by decide +kernel
theorem dX4_link_64 : decode cX4_link 64 = .ok (.getfield 10, 3) := by decide +kernel
theorem dX4_link_67 : decode cX4_link 67 = .ok (.getfield 97, 3) := by decide +kernel
theorem dX4_link_70 : decode cX4_link 70 = .ok (.iload_n 1, 1) := by decide +kernel
theorem dX4_link_71 : decode cX4_link 71 = .ok (.dup2, 1) := by decide +kernel
theorem dX4_link_72 : decode cX4_link 72 = .ok (.iaload, 1) := by decide +kernel
theorem dX4_link_73 : decode cX4_link 73 = .ok (.iconst 1, 1) := by decide +kernel
theorem dX4_link_74 : decode cX4_link 74 = .ok (.iload_n 2, 1) := by decide +kernel
theorem dX4_link_75 : decode cX4_link 75 = .ok (.ishl, 1) := by decide +kernel
theorem dX4_link_76 : decode cX4_link 76 = .ok (.ixor, 1) := by decide +kernel
theorem dX4_link_77 : decode cX4_link 77 = .ok (.iastore, 1) := by decide +kernel
theorem dX4_link_78 : decode cX4_link 78 = .ok (.aload_n 0, 1) := by decide +kernel
theorem dX4_link_79 : decode cX4_link 79 = .ok (.getfield 10, 3) := by decide +kernel
theorem dX4_link_82 : decode cX4_link 82 = .ok (.getfield 97, 3) := by decide +kernel
theorem dX4_link_85 : decode cX4_link 85 = .ok (.iload_n 1, 1) := by decide +kernel
theorem dX4_link_86 : decode cX4_link 86 = .ok (.iaload, 1) := by decide +kernel
theorem dX4_link_87 : decode cX4_link 87 = .ok (.ireturn, 1) := by decide +kernel
theorem dX4_value_0 : decode cX4_value 0 = .ok (.aload_n 0, 1) := by decide +kernel
theorem dX4_value_1 : decode cX4_value 1 = .ok (.getfield 10, 3) := by decide +kernel
theorem dX4_value_4 : decode cX4_value 4 = .ok (.iload_n 1, 1) := by decide +kernel
theorem dX4_value_5 : decode cX4_value 5 = .ok (.invokevirtual 93, 3) := by decide +kernel
theorem dX4_value_8 : decode cX4_value 8 = .ok (.ifCond .ne 5, 3) := by decide +kernel
theorem dX4_value_11 : decode cX4_value 11 = .ok (.iconst (-1), 1) := by decide +kernel
theorem dX4_value_12 : decode cX4_value 12 = .ok (.ireturn, 1) := by decide +kernel
theorem dX4_value_13 : decode cX4_value 13 = .ok (.iload_n 2, 1) := by decide +kernel
theorem dX4_value_14 : decode cX4_value 14 = .ok (.iconst 0, 1) := by decide +kernel
theorem dX4_value_15 : decode cX4_value 15 = .ok (.sipush 255, 3) := by decide +kernel
theorem dX4_value_18 : decode cX4_value 18 = .ok (.invokestatic 57, 3) := by decide +kernel
theorem dX4_value_21 : decode cX4_value 21 = .ok (.ifCond .ne 6, 3) := by decide +kernel
theorem dX4_value_24 : decode cX4_value 24 = .ok (.bipush (-2), 2) := by decide +kernel
theorem dX4_value_26 : decode cX4_value 26 = .ok (.ireturn, 1) := by decide +kernel
theorem dX4_value_27 : decode cX4_value 27 = .ok (.aload_n 0, 1) := by decide +kernel
theorem dX4_value_28 : decode cX4_value 28 = .ok (.getfield 10, 3) := by decide +kernel
theorem dX4_value_31 : decode cX4_value 31 = .ok (.getfield 105, 3) := by decide +kernel
theorem dX4_value_34 : decode cX4_value 34 = .ok (.iload_n 1, 1) := by decide +kernel
theorem dX4_value_35 : decode cX4_value 35 = .ok (.iaload, 1) := by decide +kernel
theorem dX4_value_36 : decode cX4_value 36 = .ok (.ifCond .eq 6, 3) := by decide +kernel
theorem dX4_value_39 : decode cX4_value 39 = .ok (.bipush (-5), 2) := by decide +kernel
theorem dX4_value_41 : decode cX4_value 41 = .ok (.ireturn, 1) := by decide +kernel
theorem dX4_value_42 : decode cX4_value 42 = .ok (.aload_n 0, 1) := by decide +kernel
theorem dX4_value_43 : decode cX4_value 43 = .ok (.getfield 36, 3) := by decide +kernel
theorem dX4_value_46 : decode cX4_value 46 = .ok (.aload_n 0, 1) := by decide +kernel
theorem dX4_value_47 : decode cX4_value 47 = .ok (.getfield 10, 3) := by decide +kernel
theorem dX4_value_50 : decode cX4_value 50 = .ok (.invokevirtual 61, 3) := by decide +kernel
theorem dX4_value_53 : decode cX4_value 53 = .ok (.aload_n 0, 1) := by decide +kernel
theorem dX4_value_54 : decode cX4_value 54 = .ok (.getfield 10, 3) := by decide +kernel
theorem dX4_value_57 : decode cX4_value 57 = .ok (.getfield 108, 3) := by decide +kernel
theorem dX4_value_60 : decode cX4_value 60 = .ok (.iload_n 1, 1) := by decide +kernel
theorem dX4_value_61 : decode cX4_value 61 = .ok (.iaload, 1) := by decide +kernel
theorem dX4_value_62 : decode cX4_value 62 = .ok (.istore_n 3, 1) := by decide +kernel
theorem dX4_value_63 : decode cX4_value 63 = .ok (.aload_n 0, 1) := by decide +kernel
theorem dX4_value_64 : decode cX4_value 64 = .ok (.getfield 10, 3) := by decide +kernel
theorem dX4_value_67 : decode cX4_value 67 = .ok (.getfield 108, 3) := by decide +kernel
theorem dX4_value_70 : decode cX4_value 70 = .ok (.iload_n 1, 1) := by decide +kernel
theorem dX4_value_71 : decode cX4_value 71 = .ok (.iload_n 2, 1) := by decide +kernel
theorem dX4_value_72 : decode cX4_value 72 = .ok (.iastore, 1) := by decide +kernel
theorem dX4_value_73 : decode cX4_value 73 = .ok (.iload_n 3, 1) := by decide +kernel
theorem dX4_value_74 : decode cX4_value 74 = .ok (.ireturn, 1) := by decide +kernel
theorem dX4_sleep_0 : decode cX4_sleep 0 = .ok (.aload_n 0, 1) := by decide +kernel
theorem dX4_sleep_1 : decode cX4_sleep 1 = .ok (.getfield 10, 3) := by decide +kernel
theorem dX4_sleep_4 : decode cX4_sleep 4 = .ok (.iload_n 1, 1) := by decide +kernel
theorem dX4_sleep_5 : decode cX4_sleep 5 = .ok (.invokevirtual 93, 3) := by decide +kernel
theorem dX4_sleep_8 : decode cX4_sleep 8 = .ok (.ifCond .ne 5, 3) := by decide +kernel
theorem dX4_sleep_11 : decode cX4_sleep 11 = .ok (.iconst (-1), 1) := by decide +kernel
theorem dX4_sleep_12 : decode cX4_sleep 12 = .ok (.ireturn, 1) := by decide +kernel
theorem dX4_sleep_13 : decode cX4_sleep 13 = .ok (.aload_n 0, 1) := by decide +kernel
theorem dX4_sleep_14 : decode cX4_sleep 14 = .ok (.getfield 10, 3) := by decide +kernel
theorem dX4_sleep_17 : decode cX4_sleep 17 = .ok (.getfield 105, 3) := by decide +kernel
theorem dX4_sleep_20 : decode cX4_sleep 20 = .ok (.iload_n 1, 1) := by decide +kernel
theorem dX4_sleep_21 : decode cX4_sleep 21 = .ok (.iaload, 1) := by decide +kernel
theorem dX4_sleep_22 : decode cX4_sleep 22 = .ok (.ifCond .eq 6, 3) := by decide +kernel
theorem dX4_sleep_25 : decode cX4_sleep 25 = .ok (.bipush (-5), 2) := by decide +kernel
theorem dX4_sleep_27 : decode cX4_sleep 27 = .ok (.ireturn, 1) := by decide +kernel
theorem dX4_sleep_28 : decode cX4_sleep 28 = .ok (.aload_n 0, 1) := by decide +kernel
theorem dX4_sleep_29 : decode cX4_sleep 29 = .ok (.getfield 36, 3) := by decide +kernel
theorem dX4_sleep_32 : decode cX4_sleep 32 = .ok (.aload_n 0, 1) := by decide +kernel
theorem dX4_sleep_33 : decode cX4_sleep 33 = .ok (.getfield 10, 3) := by decide +kernel
theorem dX4_sleep_36 : decode cX4_sleep 36 = .ok (.invokevirtual 61, 3) := by decide +kernel
theorem dX4_sleep_39 : decode cX4_sleep 39 = .ok (.aload_n 0, 1) := by decide +kernel
theorem dX4_sleep_40 : decode cX4_sleep 40 = .ok (.getfield 10, 3) := by decide +kernel
theorem dX4_sleep_43 : decode cX4_sleep 43 = .ok (.getfield 105, 3) := by decide +kernel
theorem dX4_sleep_46 : decode cX4_sleep 46 = .ok (.iload_n 1, 1) := by decide +kernel
theorem dX4_sleep_47 : decode cX4_sleep 47 = .ok (.iconst 1, 1) := by decide +kernel
theorem dX4_sleep_48 : decode cX4_sleep 48 = .ok (.iastore, 1) := by decide +kernel
theorem dX4_sleep_49 : decode cX4_sleep 49 = .ok (.aload_n 0, 1) := by decide +kernel
theorem dX4_sleep_50 : decode cX4_sleep 50 = .ok (.getfield 10, 3) := by decide +kernel
theorem dX4_sleep_53 : decode cX4_sleep 53 = .ok (.iload_n 1, 1) := by decide +kernel
theorem dX4_sleep_54 : decode cX4_sleep 54 = .ok (.invokevirtual 111, 3) := by decide +kernel
theorem dX4_sleep_57 : decode cX4_sleep 57 = .ok (.aload_n 0, 1) := by decide +kernel
theorem dX4_sleep_58 : decode cX4_sleep 58 = .ok (.getfield 10, 3) := by decide +kernel
theorem dX4_sleep_61 : decode cX4_sleep 61 = .ok (.iconst 0, 1) := by decide +kernel
theorem dX4_sleep_62 : decode cX4_sleep 62 = .ok (.invokevirtual 114, 3) := by decide +kernel
theorem dX4_sleep_65 : decode cX4_sleep 65 = .ok (.iand, 1) := by decide +kernel
theorem dX4_sleep_66 : decode cX4_sleep 66 = .ok (.invokestatic 117, 3) := by decide +kernel
theorem dX4_sleep_69 : decode cX4_sleep 69 = .ok (.ireturn, 1) := by decide +kernel
theorem dX4_wake_0 : decode cX4_wake 0 = .ok (.aload_n 0, 1) := by decide +kernel
theorem dX4_wake_1 : decode cX4_wake 1 = .ok (.getfield 10, 3) := by decide +kernel
theorem dX4_wake_4 : decode cX4_wake 4 = .ok (.iload_n 1, 1) := by decide +kernel
theorem dX4_wake_5 : decode cX4_wake 5 = .ok (.invokevirtual 93, 3) := by decide +kernel
theorem dX4_wake_8 : decode cX4_wake 8 = .ok (.ifCond .ne 5, 3) := by decide +kernel
theorem dX4_wake_11 : decode cX4_wake 11 = .ok (.iconst (-1), 1) := by decide +kernel
theorem dX4_wake_12 : decode cX4_wake 12 = .ok (.ireturn, 1) := by decide +kernel
theorem dX4_wake_13 : decode cX4_wake 13 = .ok (.aload_n 0, 1) := by decide +kernel
theorem dX4_wake_14 : decode cX4_wake 14 = .ok (.getfield 10, 3) := by decide +kernel
theorem dX4_wake_17 : decode cX4_wake 17 = .ok (.getfield 105, 3) := by decide +kernel
theorem dX4_wake_20 : decode cX4_wake 20 = .ok (.iload_n 1, 1) := by decide +kernel
theorem dX4_wake_21 : decode cX4_wake 21 = .ok (.iaload, 1) := by decide +kernel
theorem dX4_wake_22 : decode cX4_wake 22 = .ok (.iconst 2, 1) := by decide +kernel
theorem dX4_wake_23 : decode cX4_wake 23 = .ok (.if_icmp .eq 6, 3) := by decide +kernel
theorem dX4_wake_26 : decode cX4_wake 26 = .ok (.bipush (-5), 2) := by decide +kernel
theorem dX4_wake_28 : decode cX4_wake 28 = .ok (.ireturn, 1) := by decide +kernel
theorem dX4_wake_29 : decode cX4_wake 29 = .ok (.aload_n 0, 1) := by decide +kernel
theorem dX4_wake_30 : decode cX4_wake 30 = .ok (.getfield 36, 3) := by decide +kernel
theorem dX4_wake_33 : decode cX4_wake 33 = .ok (.aload_n 0, 1) := by decide +kernel
theorem dX4_wake_34 : decode cX4_wake 34 = .ok (.getfield 10, 3) := by decide +kernel
theorem dX4_wake_37 : decode cX4_wake 37 = .ok (.invokevirtual 61, 3) := by decide +kernel
theorem dX4_wake_40 : decode cX4_wake 40 = .ok (.aload_n 0, 1) := by decide +kernel
theorem dX4_wake_41 : decode cX4_wake 41 = .ok (.getfield 10, 3) := by decide +kernel
theorem dX4_wake_44 : decode cX4_wake 44 = .ok (.iload_n 1, 1) := by decide +kernel
theorem dX4_wake_45 : decode cX4_wake 45 = .ok (.invokevirtual 122, 3) := by decide +kernel
theorem dX4_wake_48 : decode cX4_wake 48 = .ok (.aload_n 0, 1) := by decide +kernel
theorem dX4_wake_49 : decode cX4_wake 49 = .ok (.getfield 10, 3) := by decide +kernel
theorem dX4_wake_52 : decode cX4_wake 52 = .ok (.getfield 126, 3) := by decide +kernel
theorem dX4_wake_55 : decode cX4_wake 55 = .ok (.ireturn, 1) := by decide +kernel
theorem dX4_pass_0 : decode cX4_pass 0 = .ok (.iload_n 1, 1) := by decide +kernel
theorem dX4_pass_1 : decode cX4_pass 1 = .ok (.iconst 1, 1) := by decide +kernel
theorem dX4_pass_2 : decode cX4_pass 2 = .ok (.sipush 200, 3) := by decide +kernel
theorem dX4_pass_5 : decode cX4_pass 5 = .ok (.invokestatic 57, 3) := by decide +kernel
theorem dX4_pass_8 : decode cX4_pass 8 = .ok (.ifCond .ne 6, 3) := by decide +kernel
theorem dX4_pass_11 : decode cX4_pass 11 = .ok (.bipush (-2), 2) := by decide +kernel
theorem dX4_pass_13 : decode cX4_pass 13 = .ok (.ireturn, 1) := by decide +kernel
theorem dX4_pass_14 : decode cX4_pass 14 = .ok (.aload_n 0, 1) := by decide +kernel
theorem dX4_pass_15 : decode cX4_pass 15 = .ok (.getfield 36, 3) := by decide +kernel
theorem dX4_pass_18 : decode cX4_pass 18 = .ok (.aload_n 0, 1) := by decide +kernel
theorem dX4_pass_19 : decode cX4_pass 19 = .ok (.getfield 10, 3) := by decide +kernel
theorem dX4_pass_22 : decode cX4_pass 22 = .ok (.invokevirtual 61, 3) := by decide +kernel
theorem dX4_pass_25 : decode cX4_pass 25 = .ok (.aload_n 0, 1) := by decide +kernel
theorem dX4_pass_26 : decode cX4_pass 26 = .ok (.getfield 10, 3) := by decide +kernel
theorem dX4_pass_29 : decode cX4_pass 29 = .ok (.invokevirtual 129, 3) := by decide +kernel
theorem dX4_pass_32 : decode cX4_pass 32 = .ok (.istore_n 2, 1) := by decide +kernel
theorem dX4_pass_33 : decode cX4_pass 33 = .ok (.aload_n 0, 1) := by decide +kernel
theorem dX4_pass_34 : decode cX4_pass 34 = .ok (.getfield 10, 3) := by decide +kernel
theorem dX4_pass_37 : decode cX4_pass 37 = .ok (.iload_n 1, 1) := by decide +kernel
theorem dX4_pass_38 : decode cX4_pass 38 = .ok (.invokevirtual 133, 3) := by decide +kernel
theorem dX4_pass_41 : decode cX4_pass 41 = .ok (.aload_n 0, 1) := by decide +kernel
theorem dX4_pass_42 : decode cX4_pass 42 = .ok (.getfield 10, 3) := by decide +kernel
theorem dX4_pass_45 : decode cX4_pass 45 = .ok (.invokevirtual 129, 3) := by decide +kernel
theorem dX4_pass_48 : decode cX4_pass 48 = .ok (.iload_n 2, 1) := by decide +kernel
theorem dX4_pass_49 : decode cX4_pass 49 = .ok (.isub, 1) := by decide +kernel
theorem dX4_pass_50 : decode cX4_pass 50 = .ok (.ireturn, 1) := by decide +kernel
theorem dX4_of_0 : decode cX4_of 0 = .ok (.aload_n 0, 1) := by decide +kernel
theorem dX4_of_1 : decode cX4_of 1 = .ok (.getfield 10, 3) := by decide +kernel
theorem dX4_of_4 : decode cX4_of 4 = .ok (.iload_n 1, 1) := by decide +kernel
theorem dX4_of_5 : decode cX4_of 5 = .ok (.invokevirtual 93, 3) := by decide +kernel
theorem dX4_of_8 : decode cX4_of 8 = .ok (.ifCond .ne 5, 3) := by decide +kernel
theorem dX4_of_11 : decode cX4_of 11 = .ok (.iconst (-1), 1) := by decide +kernel
theorem dX4_of_12 : decode cX4_of 12 = .ok (.ireturn, 1) := by decide +kernel
theorem dX4_of_13 : decode cX4_of 13 = .ok (.iload_n 2, 1) := by decide +kernel
theorem dX4_of_14 : decode cX4_of 14 = .ok (.tableswitch 213 0 12 #[66, 76, 86, 96, 116, 136, 146, 156, 166, 175, 184, 194, 203], 66) := by decide +kernel
theorem dX4_of_80 : decode cX4_of 80 = .ok (.aload_n 0, 1) := by decide +kernel
theorem dX4_of_81 : decode cX4_of 81 = .ok (.getfield 10, 3) := by decide +kernel
theorem dX4_of_84 : decode cX4_of 84 = .ok (.getfield 105, 3) := by decide +kernel
theorem dX4_of_87 : decode cX4_of 87 = .ok (.iload_n 1, 1) := by decide +kernel
theorem dX4_of_88 : decode cX4_of 88 = .ok (.iaload, 1) := by decide +kernel
theorem dX4_of_89 : decode cX4_of 89 = .ok (.ireturn, 1) := by decide +kernel
theorem dX4_of_90 : decode cX4_of 90 = .ok (.aload_n 0, 1) := by decide +kernel
theorem dX4_of_91 : decode cX4_of 91 = .ok (.getfield 10, 3) := by decide +kernel
theorem dX4_of_94 : decode cX4_of 94 = .ok (.getfield 108, 3) := by decide +kernel
theorem dX4_of_97 : decode cX4_of 97 = .ok (.iload_n 1, 1) := by decide +kernel
theorem dX4_of_98 : decode cX4_of 98 = .ok (.iaload, 1) := by decide +kernel
theorem dX4_of_99 : decode cX4_of 99 = .ok (.ireturn, 1) := by decide +kernel
theorem dX4_of_100 : decode cX4_of 100 = .ok (.aload_n 0, 1) := by decide +kernel
theorem dX4_of_101 : decode cX4_of 101 = .ok (.getfield 10, 3) := by decide +kernel
theorem dX4_of_104 : decode cX4_of 104 = .ok (.getfield 136, 3) := by decide +kernel
theorem dX4_of_107 : decode cX4_of 107 = .ok (.iload_n 1, 1) := by decide +kernel
theorem dX4_of_108 : decode cX4_of 108 = .ok (.iaload, 1) := by decide +kernel
theorem dX4_of_109 : decode cX4_of 109 = .ok (.ireturn, 1) := by decide +kernel
theorem dX4_of_110 : decode cX4_of 110 = .ok (.aload_n 0, 1) := by decide +kernel
theorem dX4_of_111 : decode cX4_of 111 = .ok (.getfield 10, 3) := by decide +kernel
theorem dX4_of_114 : decode cX4_of 114 = .ok (.getfield 139, 3) := by decide +kernel
theorem dX4_of_117 : decode cX4_of 117 = .ok (.iload_n 1, 1) := by decide +kernel
theorem dX4_of_118 : decode cX4_of 118 = .ok (.invokestatic 101, 3) := by decide +kernel
theorem dX4_of_121 : decode cX4_of 121 = .ok (.ifCond .eq 7, 3) := by decide +kernel
theorem dX4_of_124 : decode cX4_of 124 = .ok (.iconst 1, 1) := by decide +kernel
theorem dX4_of_125 : decode cX4_of 125 = .ok (.goto 4, 3) := by decide +kernel
theorem dX4_of_128 : decode cX4_of 128 = .ok (.iconst 0, 1) := by decide +kernel
theorem dX4_of_129 : decode cX4_of 129 = .ok (.ireturn, 1) := by decide +kernel
theorem dX4_of_130 : decode cX4_of 130 = .ok (.aload_n 0, 1) := by decide +kernel
theorem dX4_of_131 : decode cX4_of 131 = .ok (.getfield 10, 3) := by decide +kernel
theorem dX4_of_134 : decode cX4_of 134 = .ok (.getfield 142, 3) := by decide +kernel
theorem dX4_of_137 : decode cX4_of 137 = .ok (.iload_n 1, 1) := by decide +kernel
theorem dX4_of_138 : decode cX4_of 138 = .ok (.invokestatic 101, 3) := by decide +kernel
theorem dX4_of_141 : decode cX4_of 141 = .ok (.ifCond .eq 7, 3) := by decide +kernel
theorem dX4_of_144 : decode cX4_of 144 = .ok (.iconst 1, 1) := by decide +kernel
theorem dX4_of_145 : decode cX4_of 145 = .ok (.goto 4, 3) := by decide +kernel
theorem dX4_of_148 : decode cX4_of 148 = .ok (.iconst 0, 1) := by decide +kernel
theorem dX4_of_149 : decode cX4_of 149 = .ok (.ireturn, 1) := by decide +kernel
theorem dX4_of_150 : decode cX4_of 150 = .ok (.aload_n 0, 1) := by decide +kernel
theorem dX4_of_151 : decode cX4_of 151 = .ok (.getfield 10, 3) := by decide +kernel
theorem dX4_of_154 : decode cX4_of 154 = .ok (.getfield 145, 3) := by decide +kernel
theorem dX4_of_157 : decode cX4_of 157 = .ok (.iload_n 1, 1) := by decide +kernel
theorem dX4_of_158 : decode cX4_of 158 = .ok (.iaload, 1) := by decide +kernel
theorem dX4_of_159 : decode cX4_of 159 = .ok (.ireturn, 1) := by decide +kernel
theorem dX4_of_160 : decode cX4_of 160 = .ok (.aload_n 0, 1) := by decide +kernel
theorem dX4_of_161 : decode cX4_of 161 = .ok (.getfield 10, 3) := by decide +kernel
theorem dX4_of_164 : decode cX4_of 164 = .ok (.getfield 148, 3) := by decide +kernel
theorem dX4_of_167 : decode cX4_of 167 = .ok (.iload_n 1, 1) := by decide +kernel
theorem dX4_of_168 : decode cX4_of 168 = .ok (.iaload, 1) := by decide +kernel
theorem dX4_of_169 : decode cX4_of 169 = .ok (.ireturn, 1) := by decide +kernel
theorem dX4_of_170 : decode cX4_of 170 = .ok (.aload_n 0, 1) := by decide +kernel
theorem dX4_of_171 : decode cX4_of 171 = .ok (.getfield 10, 3) := by decide +kernel
theorem dX4_of_174 : decode cX4_of 174 = .ok (.getfield 97, 3) := by decide +kernel
theorem dX4_of_177 : decode cX4_of 177 = .ok (.iload_n 1, 1) := by decide +kernel
theorem dX4_of_178 : decode cX4_of 178 = .ok (.iaload, 1) := by decide +kernel
theorem dX4_of_179 : decode cX4_of 179 = .ok (.ireturn, 1) := by decide +kernel
theorem dX4_of_180 : decode cX4_of 180 = .ok (.aload_n 0, 1) := by decide +kernel
theorem dX4_of_181 : decode cX4_of 181 = .ok (.getfield 10, 3) := by decide +kernel
theorem dX4_of_184 : decode cX4_of 184 = .ok (.iload_n 1, 1) := by decide +kernel
theorem dX4_of_185 : decode cX4_of 185 = .ok (.invokevirtual 111, 3) := by decide +kernel
theorem dX4_of_188 : decode cX4_of 188 = .ok (.ireturn, 1) := by decide +kernel
theorem dX4_of_189 : decode cX4_of 189 = .ok (.aload_n 0, 1) := by decide +kernel
theorem dX4_of_190 : decode cX4_of 190 = .ok (.getfield 10, 3) := by decide +kernel
theorem dX4_of_193 : decode cX4_of 193 = .ok (.iload_n 1, 1) := by decide +kernel
theorem dX4_of_194 : decode cX4_of 194 = .ok (.invokevirtual 151, 3) := by decide +kernel
theorem dX4_of_197 : decode cX4_of 197 = .ok (.ireturn, 1) := by decide +kernel
theorem dX4_of_198 : decode cX4_of 198 = .ok (.aload_n 0, 1) := by decide +kernel
theorem dX4_of_199 : decode cX4_of 199 = .ok (.getfield 10, 3) := by decide +kernel
theorem dX4_of_202 : decode cX4_of 202 = .ok (.getfield 154, 3) := by decide +kernel
theorem dX4_of_205 : decode cX4_of 205 = .ok (.iload_n 1, 1) := by decide +kernel
theorem dX4_of_206 : decode cX4_of 206 = .ok (.iaload, 1) := by decide +kernel
theorem dX4_of_207 : decode cX4_of 207 = .ok (.ireturn, 1) := by decide +kernel
theorem dX4_of_208 : decode cX4_of 208 = .ok (.aload_n 0, 1) := by decide +kernel
theorem dX4_of_209 : decode cX4_of 209 = .ok (.getfield 10, 3) := by decide +kernel
theorem dX4_of_212 : decode cX4_of 212 = .ok (.iload_n 1, 1) := by decide +kernel
theorem dX4_of_213 : decode cX4_of 213 = .ok (.invokevirtual 157, 3) := by decide +kernel
theorem dX4_of_216 : decode cX4_of 216 = .ok (.ireturn, 1) := by decide +kernel
theorem dX4_of_217 : decode cX4_of 217 = .ok (.aload_n 0, 1) := by decide +kernel
theorem dX4_of_218 : decode cX4_of 218 = .ok (.getfield 10, 3) := by decide +kernel
theorem dX4_of_221 : decode cX4_of 221 = .ok (.getfield 160, 3) := by decide +kernel
theorem dX4_of_224 : decode cX4_of 224 = .ok (.iload_n 1, 1) := by decide +kernel
theorem dX4_of_225 : decode cX4_of 225 = .ok (.iaload, 1) := by decide +kernel
theorem dX4_of_226 : decode cX4_of 226 = .ok (.ireturn, 1) := by decide +kernel
theorem dX4_of_227 : decode cX4_of 227 = .ok (.bipush (-2), 2) := by decide +kernel
theorem dX4_of_229 : decode cX4_of 229 = .ok (.ireturn, 1) := by decide +kernel
theorem dX4_count_0 : decode cX4_count 0 = .ok (.iload_n 1, 1) := by decide +kernel
theorem dX4_count_1 : decode cX4_count 1 = .ok (.tableswitch 187 0 13 #[71, 79, 88, 97, 106, 115, 123, 131, 139, 147, 155, 163, 171, 179], 71) := by decide +kernel
theorem dX4_count_72 : decode cX4_count 72 = .ok (.aload_n 0, 1) := by decide +kernel
theorem dX4_count_73 : decode cX4_count 73 = .ok (.getfield 10, 3) := by decide +kernel
theorem dX4_count_76 : decode cX4_count 76 = .ok (.getfield 71, 3) := by decide +kernel
theorem dX4_count_79 : decode cX4_count 79 = .ok (.ireturn, 1) := by decide +kernel
theorem dX4_count_80 : decode cX4_count 80 = .ok (.aload_n 0, 1) := by decide +kernel
theorem dX4_count_81 : decode cX4_count 81 = .ok (.getfield 10, 3) := by decide +kernel
theorem dX4_count_84 : decode cX4_count 84 = .ok (.iconst 0, 1) := by decide +kernel
theorem dX4_count_85 : decode cX4_count 85 = .ok (.invokevirtual 114, 3) := by decide +kernel
theorem dX4_count_88 : decode cX4_count 88 = .ok (.ireturn, 1) := by decide +kernel
theorem dX4_count_89 : decode cX4_count 89 = .ok (.aload_n 0, 1) := by decide +kernel
theorem dX4_count_90 : decode cX4_count 90 = .ok (.getfield 10, 3) := by decide +kernel
theorem dX4_count_93 : decode cX4_count 93 = .ok (.iconst 2, 1) := by decide +kernel
theorem dX4_count_94 : decode cX4_count 94 = .ok (.invokevirtual 114, 3) := by decide +kernel
theorem dX4_count_97 : decode cX4_count 97 = .ok (.ireturn, 1) := by decide +kernel
theorem dX4_count_98 : decode cX4_count 98 = .ok (.aload_n 0, 1) := by decide +kernel
theorem dX4_count_99 : decode cX4_count 99 = .ok (.getfield 10, 3) := by decide +kernel
theorem dX4_count_102 : decode cX4_count 102 = .ok (.iconst 3, 1) := by decide +kernel
theorem dX4_count_103 : decode cX4_count 103 = .ok (.invokevirtual 114, 3) := by decide +kernel
theorem dX4_count_106 : decode cX4_count 106 = .ok (.ireturn, 1) := by decide +kernel
theorem dX4_count_107 : decode cX4_count 107 = .ok (.aload_n 0, 1) := by decide +kernel
theorem dX4_count_108 : decode cX4_count 108 = .ok (.getfield 10, 3) := by decide +kernel
theorem dX4_count_111 : decode cX4_count 111 = .ok (.iconst 4, 1) := by decide +kernel
theorem dX4_count_112 : decode cX4_count 112 = .ok (.invokevirtual 114, 3) := by decide +kernel
theorem dX4_count_115 : decode cX4_count 115 = .ok (.ireturn, 1) := by decide +kernel
theorem dX4_count_116 : decode cX4_count 116 = .ok (.aload_n 0, 1) := by decide +kernel
theorem dX4_count_117 : decode cX4_count 117 = .ok (.getfield 10, 3) := by decide +kernel
theorem dX4_count_120 : decode cX4_count 120 = .ok (.invokevirtual 163, 3) := by decide +kernel
theorem dX4_count_123 : decode cX4_count 123 = .ok (.ireturn, 1) := by decide +kernel
theorem dX4_count_124 : decode cX4_count 124 = .ok (.aload_n 0, 1) := by decide +kernel
theorem dX4_count_125 : decode cX4_count 125 = .ok (.getfield 10, 3) := by decide +kernel
theorem dX4_count_128 : decode cX4_count 128 = .ok (.getfield 166, 3) := by decide +kernel
theorem dX4_count_131 : decode cX4_count 131 = .ok (.ireturn, 1) := by decide +kernel
theorem dX4_count_132 : decode cX4_count 132 = .ok (.aload_n 0, 1) := by decide +kernel
theorem dX4_count_133 : decode cX4_count 133 = .ok (.getfield 10, 3) := by decide +kernel
theorem dX4_count_136 : decode cX4_count 136 = .ok (.invokevirtual 129, 3) := by decide +kernel
theorem dX4_count_139 : decode cX4_count 139 = .ok (.ireturn, 1) := by decide +kernel
theorem dX4_count_140 : decode cX4_count 140 = .ok (.aload_n 0, 1) := by decide +kernel
theorem dX4_count_141 : decode cX4_count 141 = .ok (.getfield 10, 3) := by decide +kernel
theorem dX4_count_144 : decode cX4_count 144 = .ok (.getfield 169, 3) := by decide +kernel
theorem dX4_count_147 : decode cX4_count 147 = .ok (.ireturn, 1) := by decide +kernel
theorem dX4_count_148 : decode cX4_count 148 = .ok (.aload_n 0, 1) := by decide +kernel
theorem dX4_count_149 : decode cX4_count 149 = .ok (.getfield 10, 3) := by decide +kernel
theorem dX4_count_152 : decode cX4_count 152 = .ok (.getfield 172, 3) := by decide +kernel
theorem dX4_count_155 : decode cX4_count 155 = .ok (.ireturn, 1) := by decide +kernel
theorem dX4_count_156 : decode cX4_count 156 = .ok (.aload_n 0, 1) := by decide +kernel
theorem dX4_count_157 : decode cX4_count 157 = .ok (.getfield 10, 3) := by decide +kernel
theorem dX4_count_160 : decode cX4_count 160 = .ok (.getfield 65, 3) := by decide +kernel
theorem dX4_count_163 : decode cX4_count 163 = .ok (.ireturn, 1) := by decide +kernel
theorem dX4_count_164 : decode cX4_count 164 = .ok (.aload_n 0, 1) := by decide +kernel
theorem dX4_count_165 : decode cX4_count 165 = .ok (.getfield 10, 3) := by decide +kernel
theorem dX4_count_168 : decode cX4_count 168 = .ok (.getfield 68, 3) := by decide +kernel
theorem dX4_count_171 : decode cX4_count 171 = .ok (.ireturn, 1) := by decide +kernel
theorem dX4_count_172 : decode cX4_count 172 = .ok (.aload_n 0, 1) := by decide +kernel
theorem dX4_count_173 : decode cX4_count 173 = .ok (.getfield 22, 3) := by decide +kernel
theorem dX4_count_176 : decode cX4_count 176 = .ok (.getfield 90, 3) := by decide +kernel
theorem dX4_count_179 : decode cX4_count 179 = .ok (.ireturn, 1) := by decide +kernel
theorem dX4_count_180 : decode cX4_count 180 = .ok (.aload_n 0, 1) := by decide +kernel
theorem dX4_count_181 : decode cX4_count 181 = .ok (.getfield 36, 3) := by decide +kernel
theorem dX4_count_184 : decode cX4_count 184 = .ok (.getfield 175, 3) := by decide +kernel
theorem dX4_count_187 : decode cX4_count 187 = .ok (.ireturn, 1) := by decide +kernel
theorem dX4_count_188 : decode cX4_count 188 = .ok (.bipush (-2), 2) := by decide +kernel
theorem dX4_count_190 : decode cX4_count 190 = .ok (.ireturn, 1) := by decide +kernel
theorem dX4_waiting_0 : decode cX4_waiting 0 = .ok (.aload_n 0, 1) := by decide +kernel
theorem dX4_waiting_1 : decode cX4_waiting 1 = .ok (.getfield 10, 3) := by decide +kernel
theorem dX4_waiting_4 : decode cX4_waiting 4 = .ok (.iload_n 1, 1) := by decide +kernel
theorem dX4_waiting_5 : decode cX4_waiting 5 = .ok (.invokevirtual 178, 3) := by decide +kernel
theorem dX4_waiting_8 : decode cX4_waiting 8 = .ok (.ireturn, 1) := by decide +kernel
theorem dX4_ifPassed_0 : decode cX4_ifPassed 0 = .ok (.iload_n 1, 1) := by decide +kernel
theorem dX4_ifPassed_1 : decode cX4_ifPassed 1 = .ok (.iconst 1, 1) := by decide +kernel
theorem dX4_ifPassed_2 : decode cX4_ifPassed 2 = .ok (.sipush 200, 3) := by decide +kernel
theorem dX4_ifPassed_5 : decode cX4_ifPassed 5 = .ok (.invokestatic 57, 3) := by decide +kernel
theorem dX4_ifPassed_8 : decode cX4_ifPassed 8 = .ok (.ifCond .eq 12, 3) := by decide +kernel
theorem dX4_ifPassed_11 : decode cX4_ifPassed 11 = .ok (.iload_n 2, 1) := by decide +kernel
theorem dX4_ifPassed_12 : decode cX4_ifPassed 12 = .ok (.iconst 0, 1) := by decide +kernel
theorem dX4_ifPassed_13 : decode cX4_ifPassed 13 = .ok (.iconst 3, 1) := by decide +kernel
theorem dX4_ifPassed_14 : decode cX4_ifPassed 14 = .ok (.invokestatic 57, 3) := by decide +kernel
theorem dX4_ifPassed_17 : decode cX4_ifPassed 17 = .ok (.ifCond .ne 6, 3) := by decide +kernel
theorem dX4_ifPassed_20 : decode cX4_ifPassed 20 = .ok (.bipush (-2), 2) := by decide +kernel
theorem dX4_ifPassed_22 : decode cX4_ifPassed 22 = .ok (.ireturn, 1) := by decide +kernel
theorem dX4_ifPassed_23 : decode cX4_ifPassed 23 = .ok (.aload_n 0, 1) := by decide +kernel
theorem dX4_ifPassed_24 : decode cX4_ifPassed 24 = .ok (.getfield 16, 3) := by decide +kernel
theorem dX4_ifPassed_27 : decode cX4_ifPassed 27 = .ok (.aload_n 0, 1) := by decide +kernel
theorem dX4_ifPassed_28 : decode cX4_ifPassed 28 = .ok (.getfield 10, 3) := by decide +kernel
theorem dX4_ifPassed_31 : decode cX4_ifPassed 31 = .ok (.invokevirtual 87, 3) := by decide +kernel
theorem dX4_ifPassed_34 : decode cX4_ifPassed 34 = .ok (.aload_n 0, 1) := by decide +kernel
theorem dX4_ifPassed_35 : decode cX4_ifPassed 35 = .ok (.getfield 16, 3) := by decide +kernel
theorem dX4_ifPassed_38 : decode cX4_ifPassed 38 = .ok (.iconst 0, 1) := by decide +kernel
theorem dX4_ifPassed_39 : decode cX4_ifPassed 39 = .ok (.putfield 166, 3) := by decide +kernel
theorem dX4_ifPassed_42 : decode cX4_ifPassed 42 = .ok (.aload_n 0, 1) := by decide +kernel
theorem dX4_ifPassed_43 : decode cX4_ifPassed 43 = .ok (.getfield 16, 3) := by decide +kernel
theorem dX4_ifPassed_46 : decode cX4_ifPassed 46 = .ok (.iload_n 1, 1) := by decide +kernel
theorem dX4_ifPassed_47 : decode cX4_ifPassed 47 = .ok (.invokevirtual 133, 3) := by decide +kernel
theorem dX4_ifPassed_50 : decode cX4_ifPassed 50 = .ok (.iload_n 2, 1) := by decide +kernel
theorem dX4_ifPassed_51 : decode cX4_ifPassed 51 = .ok (.tableswitch 58 0 2 #[25, 41, 50], 25) := by decide +kernel
theorem dX4_ifPassed_76 : decode cX4_ifPassed 76 = .ok (.aload_n 0, 1) := by decide +kernel
theorem dX4_ifPassed_77 : decode cX4_ifPassed 77 = .ok (.getfield 16, 3) := by decide +kernel
theorem dX4_ifPassed_80 : decode cX4_ifPassed 80 = .ok (.invokevirtual 129, 3) := by decide +kernel
theorem dX4_ifPassed_83 : decode cX4_ifPassed 83 = .ok (.aload_n 0, 1) := by decide +kernel
theorem dX4_ifPassed_84 : decode cX4_ifPassed 84 = .ok (.getfield 10, 3) := by decide +kernel
theorem dX4_ifPassed_87 : decode cX4_ifPassed 87 = .ok (.invokevirtual 129, 3) := by decide +kernel
theorem dX4_ifPassed_90 : decode cX4_ifPassed 90 = .ok (.isub, 1) := by decide +kernel
theorem dX4_ifPassed_91 : decode cX4_ifPassed 91 = .ok (.ireturn, 1) := by decide +kernel
theorem dX4_ifPassed_92 : decode cX4_ifPassed 92 = .ok (.aload_n 0, 1) := by decide +kernel
theorem dX4_ifPassed_93 : decode cX4_ifPassed 93 = .ok (.getfield 16, 3) := by decide +kernel
theorem dX4_ifPassed_96 : decode cX4_ifPassed 96 = .ok (.iconst 0, 1) := by decide +kernel
theorem dX4_ifPassed_97 : decode cX4_ifPassed 97 = .ok (.invokevirtual 114, 3) := by decide +kernel
theorem dX4_ifPassed_100 : decode cX4_ifPassed 100 = .ok (.ireturn, 1) := by decide +kernel
theorem dX4_ifPassed_101 : decode cX4_ifPassed 101 = .ok (.aload_n 0, 1) := by decide +kernel
theorem dX4_ifPassed_102 : decode cX4_ifPassed 102 = .ok (.getfield 16, 3) := by decide +kernel
theorem dX4_ifPassed_105 : decode cX4_ifPassed 105 = .ok (.getfield 166, 3) := by decide +kernel
theorem dX4_ifPassed_108 : decode cX4_ifPassed 108 = .ok (.ireturn, 1) := by decide +kernel
theorem dX4_ifPassed_109 : decode cX4_ifPassed 109 = .ok (.aload_n 0, 1) := by decide +kernel
theorem dX4_ifPassed_110 : decode cX4_ifPassed 110 = .ok (.getfield 16, 3) := by decide +kernel
theorem dX4_ifPassed_113 : decode cX4_ifPassed 113 = .ok (.invokevirtual 181, 3) := by decide +kernel
theorem dX4_ifPassed_116 : decode cX4_ifPassed 116 = .ok (.ireturn, 1) := by decide +kernel
theorem dX4_allAwake_0 : decode cX4_allAwake 0 = .ok (.aload_n 0, 1) := by decide +kernel
theorem dX4_allAwake_1 : decode cX4_allAwake 1 = .ok (.aload_n 0, 1) := by decide +kernel
theorem dX4_allAwake_2 : decode cX4_allAwake 2 = .ok (.getfield 10, 3) := by decide +kernel
theorem dX4_allAwake_5 : decode cX4_allAwake 5 = .ok (.getfield 65, 3) := by decide +kernel
theorem dX4_allAwake_8 : decode cX4_allAwake 8 = .ok (.sipush 200, 3) := by decide +kernel
theorem dX4_allAwake_11 : decode cX4_allAwake 11 = .ok (.invokevirtual 184, 3) := by decide +kernel
theorem dX4_allAwake_14 : decode cX4_allAwake 14 = .ok (.ireturn, 1) := by decide +kernel
theorem dX4_leastCurrent_0 : decode cX4_leastCurrent 0 = .ok (.iload_n 1, 1) := by decide +kernel
theorem dX4_leastCurrent_1 : decode cX4_leastCurrent 1 = .ok (.iconst 0, 1) := by decide +kernel
theorem dX4_leastCurrent_2 : decode cX4_leastCurrent 2 = .ok (.sipush 200, 3) := by decide +kernel
theorem dX4_leastCurrent_5 : decode cX4_leastCurrent 5 = .ok (.invokestatic 57, 3) := by decide +kernel
theorem dX4_leastCurrent_8 : decode cX4_leastCurrent 8 = .ok (.ifCond .ne 6, 3) := by decide +kernel
theorem dX4_leastCurrent_11 : decode cX4_leastCurrent 11 = .ok (.bipush (-2), 2) := by decide +kernel
theorem dX4_leastCurrent_13 : decode cX4_leastCurrent 13 = .ok (.ireturn, 1) := by decide +kernel
theorem dX4_leastCurrent_14 : decode cX4_leastCurrent 14 = .ok (.iconst 1, 1) := by decide +kernel
theorem dX4_leastCurrent_15 : decode cX4_leastCurrent 15 = .ok (.istore_n 2, 1) := by decide +kernel
theorem dX4_leastCurrent_16 : decode cX4_leastCurrent 16 = .ok (.iload_n 2, 1) := by decide +kernel
theorem dX4_leastCurrent_17 : decode cX4_leastCurrent 17 = .ok (.bipush 60, 2) := by decide +kernel
theorem dX4_leastCurrent_19 : decode cX4_leastCurrent 19 = .ok (.if_icmp .gt 22, 3) := by decide +kernel
theorem dX4_leastCurrent_22 : decode cX4_leastCurrent 22 = .ok (.aload_n 0, 1) := by decide +kernel
theorem dX4_leastCurrent_23 : decode cX4_leastCurrent 23 = .ok (.iload_n 2, 1) := by decide +kernel
theorem dX4_leastCurrent_24 : decode cX4_leastCurrent 24 = .ok (.iload_n 1, 1) := by decide +kernel
theorem dX4_leastCurrent_25 : decode cX4_leastCurrent 25 = .ok (.invokevirtual 184, 3) := by decide +kernel
theorem dX4_leastCurrent_28 : decode cX4_leastCurrent 28 = .ok (.bipush (-6), 2) := by decide +kernel
theorem dX4_leastCurrent_30 : decode cX4_leastCurrent 30 = .ok (.if_icmp .eq 5, 3) := by decide +kernel
theorem dX4_leastCurrent_33 : decode cX4_leastCurrent 33 = .ok (.iload_n 2, 1) := by decide +kernel
theorem dX4_leastCurrent_34 : decode cX4_leastCurrent 34 = .ok (.ireturn, 1) := by decide +kernel
theorem dX4_leastCurrent_35 : decode cX4_leastCurrent 35 = .ok (.iinc 2 1, 3) := by decide +kernel
theorem dX4_leastCurrent_38 : decode cX4_leastCurrent 38 = .ok (.goto (-22), 3) := by decide +kernel
theorem dX4_leastCurrent_41 : decode cX4_leastCurrent 41 = .ok (.bipush (-6), 2) := by decide +kernel
theorem dX4_leastCurrent_43 : decode cX4_leastCurrent 43 = .ok (.ireturn, 1) := by decide +kernel
theorem dX4_ticksUntilAllAwake_0 : decode cX4_ticksUntilAllAwake 0 = .ok (.aload_n 0, 1) := by decide +kernel
theorem dX4_ticksUntilAllAwake_1 : decode cX4_ticksUntilAllAwake 1 = .ok (.getfield 16, 3) := by decide +kernel
theorem dX4_ticksUntilAllAwake_4 : decode cX4_ticksUntilAllAwake 4 = .ok (.aload_n 0, 1) := by decide +kernel
theorem dX4_ticksUntilAllAwake_5 : decode cX4_ticksUntilAllAwake 5 = .ok (.getfield 10, 3) := by decide +kernel
theorem dX4_ticksUntilAllAwake_8 : decode cX4_ticksUntilAllAwake 8 = .ok (.invokevirtual 87, 3) := by decide +kernel
theorem dX4_ticksUntilAllAwake_11 : decode cX4_ticksUntilAllAwake 11 = .ok (.aload_n 0, 1) := by decide +kernel
theorem dX4_ticksUntilAllAwake_12 : decode cX4_ticksUntilAllAwake 12 = .ok (.getfield 16, 3) := by decide +kernel
theorem dX4_ticksUntilAllAwake_15 : decode cX4_ticksUntilAllAwake 15 = .ok (.iload_n 1, 1) := by decide +kernel
theorem dX4_ticksUntilAllAwake_16 : decode cX4_ticksUntilAllAwake 16 = .ok (.putfield 65, 3) := by decide +kernel
theorem dX4_ticksUntilAllAwake_19 : decode cX4_ticksUntilAllAwake 19 = .ok (.aload_n 0, 1) := by decide +kernel
theorem dX4_ticksUntilAllAwake_20 : decode cX4_ticksUntilAllAwake 20 = .ok (.getfield 16, 3) := by decide +kernel
theorem dX4_ticksUntilAllAwake_23 : decode cX4_ticksUntilAllAwake 23 = .ok (.invokevirtual 188, 3) := by decide +kernel
theorem dX4_ticksUntilAllAwake_26 : decode cX4_ticksUntilAllAwake 26 = .ok (.iconst 0, 1) := by decide +kernel
theorem dX4_ticksUntilAllAwake_27 : decode cX4_ticksUntilAllAwake 27 = .ok (.istore_n 3, 1) := by decide +kernel
theorem dX4_ticksUntilAllAwake_28 : decode cX4_ticksUntilAllAwake 28 = .ok (.iload_n 3, 1) := by decide +kernel
theorem dX4_ticksUntilAllAwake_29 : decode cX4_ticksUntilAllAwake 29 = .ok (.iload_n 2, 1) := by decide +kernel
theorem dX4_ticksUntilAllAwake_30 : decode cX4_ticksUntilAllAwake 30 = .ok (.if_icmp .gt 41, 3) := by decide +kernel
theorem dX4_ticksUntilAllAwake_33 : decode cX4_ticksUntilAllAwake 33 = .ok (.aload_n 0, 1) := by decide +kernel
theorem dX4_ticksUntilAllAwake_34 : decode cX4_ticksUntilAllAwake 34 = .ok (.getfield 16, 3) := by decide +kernel
theorem dX4_ticksUntilAllAwake_37 : decode cX4_ticksUntilAllAwake 37 = .ok (.invokevirtual 191, 3) := by decide +kernel
theorem dX4_ticksUntilAllAwake_40 : decode cX4_ticksUntilAllAwake 40 = .ok (.ifCond .eq 5, 3) := by decide +kernel
theorem dX4_ticksUntilAllAwake_43 : decode cX4_ticksUntilAllAwake 43 = .ok (.iload_n 3, 1) := by decide +kernel
theorem dX4_ticksUntilAllAwake_44 : decode cX4_ticksUntilAllAwake 44 = .ok (.ireturn, 1) := by decide +kernel
theorem dX4_ticksUntilAllAwake_45 : decode cX4_ticksUntilAllAwake 45 = .ok (.aload_n 0, 1) := by decide +kernel
theorem dX4_ticksUntilAllAwake_46 : decode cX4_ticksUntilAllAwake 46 = .ok (.getfield 16, 3) := by decide +kernel
theorem dX4_ticksUntilAllAwake_49 : decode cX4_ticksUntilAllAwake 49 = .ok (.invokevirtual 194, 3) := by decide +kernel
theorem dX4_ticksUntilAllAwake_52 : decode cX4_ticksUntilAllAwake 52 = .ok (.ifCond .eq 6, 3) := by decide +kernel
theorem dX4_ticksUntilAllAwake_55 : decode cX4_ticksUntilAllAwake 55 = .ok (.bipush (-6), 2) := by decide +kernel
theorem dX4_ticksUntilAllAwake_57 : decode cX4_ticksUntilAllAwake 57 = .ok (.ireturn, 1) := by decide +kernel
theorem dX4_ticksUntilAllAwake_58 : decode cX4_ticksUntilAllAwake 58 = .ok (.aload_n 0, 1) := by decide +kernel
theorem dX4_ticksUntilAllAwake_59 : decode cX4_ticksUntilAllAwake 59 = .ok (.getfield 16, 3) := by decide +kernel
theorem dX4_ticksUntilAllAwake_62 : decode cX4_ticksUntilAllAwake 62 = .ok (.invokevirtual 197, 3) := by decide +kernel
theorem dX4_ticksUntilAllAwake_65 : decode cX4_ticksUntilAllAwake 65 = .ok (.iinc 3 1, 3) := by decide +kernel
theorem dX4_ticksUntilAllAwake_68 : decode cX4_ticksUntilAllAwake 68 = .ok (.goto (-40), 3) := by decide +kernel
theorem dX4_ticksUntilAllAwake_71 : decode cX4_ticksUntilAllAwake 71 = .ok (.bipush (-6), 2) := by decide +kernel
theorem dX4_ticksUntilAllAwake_73 : decode cX4_ticksUntilAllAwake 73 = .ok (.ireturn, 1) := by decide +kernel
theorem dX4_quiet_0 : decode cX4_quiet 0 = .ok (.iload_n 1, 1) := by decide +kernel
theorem dX4_quiet_1 : decode cX4_quiet 1 = .ok (.iconst 1, 1) := by decide +kernel
theorem dX4_quiet_2 : decode cX4_quiet 2 = .ok (.bipush 50, 2) := by decide +kernel
theorem dX4_quiet_4 : decode cX4_quiet 4 = .ok (.invokestatic 57, 3) := by decide +kernel
theorem dX4_quiet_7 : decode cX4_quiet 7 = .ok (.ifCond .ne 6, 3) := by decide +kernel
theorem dX4_quiet_10 : decode cX4_quiet 10 = .ok (.bipush (-2), 2) := by decide +kernel
theorem dX4_quiet_12 : decode cX4_quiet 12 = .ok (.ireturn, 1) := by decide +kernel
theorem dX4_quiet_13 : decode cX4_quiet 13 = .ok (.iconst 0, 1) := by decide +kernel
theorem dX4_quiet_14 : decode cX4_quiet 14 = .ok (.istore_n 2, 1) := by decide +kernel
theorem dX4_quiet_15 : decode cX4_quiet 15 = .ok (.iconst 0, 1) := by decide +kernel
theorem dX4_quiet_16 : decode cX4_quiet 16 = .ok (.istore_n 3, 1) := by decide +kernel
theorem dX4_quiet_17 : decode cX4_quiet 17 = .ok (.iload_n 3, 1) := by decide +kernel
theorem dX4_quiet_18 : decode cX4_quiet 18 = .ok (.bipush 8, 2) := by decide +kernel
theorem dX4_quiet_20 : decode cX4_quiet 20 = .ok (.if_icmp .ge 36, 3) := by decide +kernel
theorem dX4_quiet_23 : decode cX4_quiet 23 = .ok (.aload_n 0, 1) := by decide +kernel
theorem dX4_quiet_24 : decode cX4_quiet 24 = .ok (.getfield 10, 3) := by decide +kernel
theorem dX4_quiet_27 : decode cX4_quiet 27 = .ok (.getfield 105, 3) := by decide +kernel
theorem dX4_quiet_30 : decode cX4_quiet 30 = .ok (.iload_n 3, 1) := by decide +kernel
theorem dX4_quiet_31 : decode cX4_quiet 31 = .ok (.iaload, 1) := by decide +kernel
theorem dX4_quiet_32 : decode cX4_quiet 32 = .ok (.ifCond .ne 18, 3) := by decide +kernel
theorem dX4_quiet_35 : decode cX4_quiet 35 = .ok (.aload_n 0, 1) := by decide +kernel
theorem dX4_quiet_36 : decode cX4_quiet 36 = .ok (.iload_n 3, 1) := by decide +kernel
theorem dX4_quiet_37 : decode cX4_quiet 37 = .ok (.iload_n 1, 1) := by decide +kernel
theorem dX4_quiet_38 : decode cX4_quiet 38 = .ok (.invokevirtual 200, 3) := by decide +kernel
theorem dX4_quiet_41 : decode cX4_quiet 41 = .ok (.ifCond .eq 9, 3) := by decide +kernel
theorem dX4_quiet_44 : decode cX4_quiet 44 = .ok (.iload_n 2, 1) := by decide +kernel
theorem dX4_quiet_45 : decode cX4_quiet 45 = .ok (.iconst 1, 1) := by decide +kernel
theorem dX4_quiet_46 : decode cX4_quiet 46 = .ok (.iload_n 3, 1) := by decide +kernel
theorem dX4_quiet_47 : decode cX4_quiet 47 = .ok (.ishl, 1) := by decide +kernel
theorem dX4_quiet_48 : decode cX4_quiet 48 = .ok (.ior, 1) := by decide +kernel
theorem dX4_quiet_49 : decode cX4_quiet 49 = .ok (.istore_n 2, 1) := by decide +kernel
theorem dX4_quiet_50 : decode cX4_quiet 50 = .ok (.iinc 3 1, 3) := by decide +kernel
theorem dX4_quiet_53 : decode cX4_quiet 53 = .ok (.goto (-36), 3) := by decide +kernel
theorem dX4_quiet_56 : decode cX4_quiet 56 = .ok (.iload_n 2, 1) := by decide +kernel
theorem dX4_quiet_57 : decode cX4_quiet 57 = .ok (.ireturn, 1) := by decide +kernel
theorem dX4_sleepsQuietly_0 : decode cX4_sleepsQuietly 0 = .ok (.iload_n 1, 1) := by decide +kernel
theorem dX4_sleepsQuietly_1 : decode cX4_sleepsQuietly 1 = .ok (.iconst 0, 1) := by decide +kernel
theorem dX4_sleepsQuietly_2 : decode cX4_sleepsQuietly 2 = .ok (.bipush 7, 2) := by decide +kernel
theorem dX4_sleepsQuietly_4 : decode cX4_sleepsQuietly 4 = .ok (.invokestatic 57, 3) := by decide +kernel
theorem dX4_sleepsQuietly_7 : decode cX4_sleepsQuietly 7 = .ok (.ifCond .ne 5, 3) := by decide +kernel
theorem dX4_sleepsQuietly_10 : decode cX4_sleepsQuietly 10 = .ok (.iconst 0, 1) := by decide +kernel
theorem dX4_sleepsQuietly_11 : decode cX4_sleepsQuietly 11 = .ok (.ireturn, 1) := by decide +kernel
theorem dX4_sleepsQuietly_12 : decode cX4_sleepsQuietly 12 = .ok (.aload_n 0, 1) := by decide +kernel
theorem dX4_sleepsQuietly_13 : decode cX4_sleepsQuietly 13 = .ok (.getfield 16, 3) := by decide +kernel
theorem dX4_sleepsQuietly_16 : decode cX4_sleepsQuietly 16 = .ok (.aload_n 0, 1) := by decide +kernel
theorem dX4_sleepsQuietly_17 : decode cX4_sleepsQuietly 17 = .ok (.getfield 10, 3) := by decide +kernel
theorem dX4_sleepsQuietly_20 : decode cX4_sleepsQuietly 20 = .ok (.invokevirtual 87, 3) := by decide +kernel
theorem dX4_sleepsQuietly_23 : decode cX4_sleepsQuietly 23 = .ok (.aload_n 0, 1) := by decide +kernel
theorem dX4_sleepsQuietly_24 : decode cX4_sleepsQuietly 24 = .ok (.getfield 16, 3) := by decide +kernel
theorem dX4_sleepsQuietly_27 : decode cX4_sleepsQuietly 27 = .ok (.getfield 105, 3) := by decide +kernel
theorem dX4_sleepsQuietly_30 : decode cX4_sleepsQuietly 30 = .ok (.iload_n 1, 1) := by decide +kernel
theorem dX4_sleepsQuietly_31 : decode cX4_sleepsQuietly 31 = .ok (.iconst 1, 1) := by decide +kernel
theorem dX4_sleepsQuietly_32 : decode cX4_sleepsQuietly 32 = .ok (.iastore, 1) := by decide +kernel
theorem dX4_sleepsQuietly_33 : decode cX4_sleepsQuietly 33 = .ok (.aload_n 0, 1) := by decide +kernel
theorem dX4_sleepsQuietly_34 : decode cX4_sleepsQuietly 34 = .ok (.getfield 16, 3) := by decide +kernel
theorem dX4_sleepsQuietly_37 : decode cX4_sleepsQuietly 37 = .ok (.iload_n 2, 1) := by decide +kernel
theorem dX4_sleepsQuietly_38 : decode cX4_sleepsQuietly 38 = .ok (.invokevirtual 133, 3) := by decide +kernel
theorem dX4_sleepsQuietly_41 : decode cX4_sleepsQuietly 41 = .ok (.aload_n 0, 1) := by decide +kernel
theorem dX4_sleepsQuietly_42 : decode cX4_sleepsQuietly 42 = .ok (.getfield 16, 3) := by decide +kernel
theorem dX4_sleepsQuietly_45 : decode cX4_sleepsQuietly 45 = .ok (.invokevirtual 129, 3) := by decide +kernel
theorem dX4_sleepsQuietly_48 : decode cX4_sleepsQuietly 48 = .ok (.aload_n 0, 1) := by decide +kernel
theorem dX4_sleepsQuietly_49 : decode cX4_sleepsQuietly 49 = .ok (.getfield 10, 3) := by decide +kernel
theorem dX4_sleepsQuietly_52 : decode cX4_sleepsQuietly 52 = .ok (.invokevirtual 129, 3) := by decide +kernel
theorem dX4_sleepsQuietly_55 : decode cX4_sleepsQuietly 55 = .ok (.if_icmp .ne 7, 3) := by decide +kernel
theorem dX4_sleepsQuietly_58 : decode cX4_sleepsQuietly 58 = .ok (.iconst 1, 1) := by decide +kernel
theorem dX4_sleepsQuietly_59 : decode cX4_sleepsQuietly 59 = .ok (.goto 4, 3) := by decide +kernel
theorem dX4_sleepsQuietly_62 : decode cX4_sleepsQuietly 62 = .ok (.iconst 0, 1) := by decide +kernel
theorem dX4_sleepsQuietly_63 : decode cX4_sleepsQuietly 63 = .ok (.ireturn, 1) := by decide +kernel
theorem dX4_isWithin_0 : decode cX4_isWithin 0 = .ok (.iload_n 0, 1) := by decide +kernel
theorem dX4_isWithin_1 : decode cX4_isWithin 1 = .ok (.iload_n 1, 1) := by decide +kernel
theorem dX4_isWithin_2 : decode cX4_isWithin 2 = .ok (.if_icmp .lt 12, 3) := by decide +kernel
theorem dX4_isWithin_5 : decode cX4_isWithin 5 = .ok (.iload_n 0, 1) := by decide +kernel
theorem dX4_isWithin_6 : decode cX4_isWithin 6 = .ok (.iload_n 2, 1) := by decide +kernel
theorem dX4_isWithin_7 : decode cX4_isWithin 7 = .ok (.if_icmp .gt 7, 3) := by decide +kernel
theorem dX4_isWithin_10 : decode cX4_isWithin 10 = .ok (.iconst 1, 1) := by decide +kernel
theorem dX4_isWithin_11 : decode cX4_isWithin 11 = .ok (.goto 4, 3) := by decide +kernel
theorem dX4_isWithin_14 : decode cX4_isWithin 14 = .ok (.iconst 0, 1) := by decide +kernel
theorem dX4_isWithin_15 : decode cX4_isWithin 15 = .ok (.ireturn, 1) := by decide +kernel
theorem dX4_isIn_0 : decode cX4_isIn 0 = .ok (.iload_n 0, 1) := by decide +kernel
theorem dX4_isIn_1 : decode cX4_isIn 1 = .ok (.iload_n 1, 1) := by decide +kernel
theorem dX4_isIn_2 : decode cX4_isIn 2 = .ok (.ishr, 1) := by decide +kernel
theorem dX4_isIn_3 : decode cX4_isIn 3 = .ok (.iconst 1, 1) := by decide +kernel
theorem dX4_isIn_4 : decode cX4_isIn 4 = .ok (.iand, 1) := by decide +kernel
theorem dX4_isIn_5 : decode cX4_isIn 5 = .ok (.ifCond .eq 7, 3) := by decide +kernel
theorem dX4_isIn_8 : decode cX4_isIn 8 = .ok (.iconst 1, 1) := by decide +kernel
theorem dX4_isIn_9 : decode cX4_isIn 9 = .ok (.goto 4, 3) := by decide +kernel
theorem dX4_isIn_12 : decode cX4_isIn 12 = .ok (.iconst 0, 1) := by decide +kernel
theorem dX4_isIn_13 : decode cX4_isIn 13 = .ok (.ireturn, 1) := by decide +kernel
