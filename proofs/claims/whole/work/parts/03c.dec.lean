theorem dX5_init_0 : decode cX5_init 0 = .ok (.aload_n 0, 1) := by decide +kernel
theorem dX5_init_1 : decode cX5_init 1 = .ok (.invokespecial 1, 3) := by decide +kernel
theorem dX5_init_4 : decode cX5_init 4 = .ok (.aload_n 0, 1) := by decide +kernel
theorem dX5_init_5 : decode cX5_init 5 = .ok (.bipush 96, 2) := by decide +kernel
theorem dX5_init_7 : decode cX5_init 7 = .ok (.newarray .int, 2) := by decide +kernel
theorem dX5_init_9 : decode cX5_init 9 = .ok (.putfield 7, 3) := by decide +kernel
theorem dX5_init_12 : decode cX5_init 12 = .ok (.aload_n 0, 1) := by decide +kernel
theorem dX5_init_13 : decode cX5_init 13 = .ok (.bipush 96, 2) := by decide +kernel
theorem dX5_init_15 : decode cX5_init 15 = .ok (.newarray .int, 2) := by decide +kernel
theorem dX5_init_17 : decode cX5_init 17 = .ok (.putfield 13, 3) := by decide +kernel
theorem dX5_init_20 : decode cX5_init 20 = .ok (.aload_n 0, 1) := by decide +kernel
theorem dX5_init_21 : decode cX5_init 21 = .ok (.sipush 576, 3) := by decide +kernel
theorem dX5_init_24 : decode cX5_init 24 = .ok (.newarray .int, 2) := by decide +kernel
theorem dX5_init_26 : decode cX5_init 26 = .ok (.putfield 16, 3) := by decide +kernel
theorem dX5_init_29 : decode cX5_init 29 = .ok (.aload_n 0, 1) := by decide +kernel
theorem dX5_init_30 : decode cX5_init 30 = .ok (.sipush 192, 3) := by decide +kernel
theorem dX5_init_33 : decode cX5_init 33 = .ok (.newarray .int, 2) := by decide +kernel
theorem dX5_init_35 : decode cX5_init 35 = .ok (.putfield 19, 3) := by decide +kernel
theorem dX5_init_38 : decode cX5_init 38 = .ok (.aload_n 0, 1) := by decide +kernel
theorem dX5_init_39 : decode cX5_init 39 = .ok (.iconst 2, 1) := by decide +kernel
theorem dX5_init_40 : decode cX5_init 40 = .ok (.newarray .int, 2) := by decide +kernel
theorem dX5_init_42 : decode cX5_init 42 = .ok (.putfield 22, 3) := by decide +kernel
theorem dX5_init_45 : decode cX5_init 45 = .ok (.aload_n 0, 1) := by decide +kernel
theorem dX5_init_46 : decode cX5_init 46 = .ok (.bipush 64, 2) := by decide +kernel
theorem dX5_init_48 : decode cX5_init 48 = .ok (.newarray .int, 2) := by decide +kernel
theorem dX5_init_50 : decode cX5_init 50 = .ok (.putfield 25, 3) := by decide +kernel
theorem dX5_init_53 : decode cX5_init 53 = .ok (.aload_n 0, 1) := by decide +kernel
theorem dX5_init_54 : decode cX5_init 54 = .ok (.bipush 8, 2) := by decide +kernel
theorem dX5_init_56 : decode cX5_init 56 = .ok (.newarray .int, 2) := by decide +kernel
theorem dX5_init_58 : decode cX5_init 58 = .ok (.putfield 28, 3) := by decide +kernel
theorem dX5_init_61 : decode cX5_init 61 = .ok (.aload_n 0, 1) := by decide +kernel
theorem dX5_init_62 : decode cX5_init 62 = .ok (.bipush 8, 2) := by decide +kernel
theorem dX5_init_64 : decode cX5_init 64 = .ok (.newarray .int, 2) := by decide +kernel
theorem dX5_init_66 : decode cX5_init 66 = .ok (.putfield 31, 3) := by decide +kernel
theorem dX5_init_69 : decode cX5_init 69 = .ok (.aload_n 0, 1) := by decide +kernel
theorem dX5_init_70 : decode cX5_init 70 = .ok (.getfield 7, 3) := by decide +kernel
theorem dX5_init_73 : decode cX5_init 73 = .ok (.iconst 0, 1) := by decide +kernel
theorem dX5_init_74 : decode cX5_init 74 = .ok (.bipush 20, 2) := by decide +kernel
theorem dX5_init_76 : decode cX5_init 76 = .ok (.iastore, 1) := by decide +kernel
theorem dX5_init_77 : decode cX5_init 77 = .ok (.return_, 1) := by decide +kernel
theorem dX5_moves_0 : decode cX5_moves 0 = .ok (.iconst 0, 1) := by decide +kernel
theorem dX5_moves_1 : decode cX5_moves 1 = .ok (.istore 4, 2) := by decide +kernel
theorem dX5_moves_3 : decode cX5_moves 3 = .ok (.iload 4, 2) := by decide +kernel
theorem dX5_moves_5 : decode cX5_moves 5 = .ok (.bipush 96, 2) := by decide +kernel
theorem dX5_moves_7 : decode cX5_moves 7 = .ok (.if_icmp .ge 21, 3) := by decide +kernel
theorem dX5_moves_10 : decode cX5_moves 10 = .ok (.aload_n 2, 1) := by decide +kernel
theorem dX5_moves_11 : decode cX5_moves 11 = .ok (.iload_n 3, 1) := by decide +kernel
theorem dX5_moves_12 : decode cX5_moves 12 = .ok (.iload 4, 2) := by decide +kernel
theorem dX5_moves_14 : decode cX5_moves 14 = .ok (.iadd, 1) := by decide +kernel
theorem dX5_moves_15 : decode cX5_moves 15 = .ok (.aload_n 0, 1) := by decide +kernel
theorem dX5_moves_16 : decode cX5_moves 16 = .ok (.iload_n 1, 1) := by decide +kernel
theorem dX5_moves_17 : decode cX5_moves 17 = .ok (.iload 4, 2) := by decide +kernel
theorem dX5_moves_19 : decode cX5_moves 19 = .ok (.iadd, 1) := by decide +kernel
theorem dX5_moves_20 : decode cX5_moves 20 = .ok (.iaload, 1) := by decide +kernel
theorem dX5_moves_21 : decode cX5_moves 21 = .ok (.iastore, 1) := by decide +kernel
theorem dX5_moves_22 : decode cX5_moves 22 = .ok (.iinc 4 1, 3) := by decide +kernel
theorem dX5_moves_25 : decode cX5_moves 25 = .ok (.goto (-22), 3) := by decide +kernel
theorem dX5_moves_28 : decode cX5_moves 28 = .ok (.return_, 1) := by decide +kernel
theorem dX5_within_0 : decode cX5_within 0 = .ok (.iload_n 0, 1) := by decide +kernel
theorem dX5_within_1 : decode cX5_within 1 = .ok (.iload_n 1, 1) := by decide +kernel
theorem dX5_within_2 : decode cX5_within 2 = .ok (.if_icmp .lt 12, 3) := by decide +kernel
theorem dX5_within_5 : decode cX5_within 5 = .ok (.iload_n 0, 1) := by decide +kernel
theorem dX5_within_6 : decode cX5_within 6 = .ok (.iload_n 2, 1) := by decide +kernel
theorem dX5_within_7 : decode cX5_within 7 = .ok (.if_icmp .gt 7, 3) := by decide +kernel
theorem dX5_within_10 : decode cX5_within 10 = .ok (.iconst 1, 1) := by decide +kernel
theorem dX5_within_11 : decode cX5_within 11 = .ok (.goto 4, 3) := by decide +kernel
theorem dX5_within_14 : decode cX5_within 14 = .ok (.iconst 0, 1) := by decide +kernel
theorem dX5_within_15 : decode cX5_within 15 = .ok (.ireturn, 1) := by decide +kernel
theorem dX5_record_0 : decode cX5_record 0 = .ok (.aload_n 0, 1) := by decide +kernel
theorem dX5_record_1 : decode cX5_record 1 = .ok (.getfield 34, 3) := by decide +kernel
theorem dX5_record_4 : decode cX5_record 4 = .ok (.bipush 6, 2) := by decide +kernel
theorem dX5_record_6 : decode cX5_record 6 = .ok (.if_icmp .ne 43, 3) := by decide +kernel
theorem dX5_record_9 : decode cX5_record 9 = .ok (.iconst 0, 1) := by decide +kernel
theorem dX5_record_10 : decode cX5_record 10 = .ok (.istore_n 1, 1) := by decide +kernel
theorem dX5_record_11 : decode cX5_record 11 = .ok (.iload_n 1, 1) := by decide +kernel
theorem dX5_record_12 : decode cX5_record 12 = .ok (.sipush 480, 3) := by decide +kernel
theorem dX5_record_15 : decode cX5_record 15 = .ok (.if_icmp .ge 24, 3) := by decide +kernel
theorem dX5_record_18 : decode cX5_record 18 = .ok (.aload_n 0, 1) := by decide +kernel
theorem dX5_record_19 : decode cX5_record 19 = .ok (.getfield 16, 3) := by decide +kernel
theorem dX5_record_22 : decode cX5_record 22 = .ok (.iload_n 1, 1) := by decide +kernel
theorem dX5_record_23 : decode cX5_record 23 = .ok (.aload_n 0, 1) := by decide +kernel
theorem dX5_record_24 : decode cX5_record 24 = .ok (.getfield 16, 3) := by decide +kernel
theorem dX5_record_27 : decode cX5_record 27 = .ok (.iload_n 1, 1) := by decide +kernel
theorem dX5_record_28 : decode cX5_record 28 = .ok (.bipush 96, 2) := by decide +kernel
theorem dX5_record_30 : decode cX5_record 30 = .ok (.iadd, 1) := by decide +kernel
theorem dX5_record_31 : decode cX5_record 31 = .ok (.iaload, 1) := by decide +kernel
theorem dX5_record_32 : decode cX5_record 32 = .ok (.iastore, 1) := by decide +kernel
theorem dX5_record_33 : decode cX5_record 33 = .ok (.iinc 1 1, 3) := by decide +kernel
theorem dX5_record_36 : decode cX5_record 36 = .ok (.goto (-25), 3) := by decide +kernel
theorem dX5_record_39 : decode cX5_record 39 = .ok (.aload_n 0, 1) := by decide +kernel
theorem dX5_record_40 : decode cX5_record 40 = .ok (.dup, 1) := by decide +kernel
theorem dX5_record_41 : decode cX5_record 41 = .ok (.getfield 34, 3) := by decide +kernel
theorem dX5_record_44 : decode cX5_record 44 = .ok (.iconst 1, 1) := by decide +kernel
theorem dX5_record_45 : decode cX5_record 45 = .ok (.isub, 1) := by decide +kernel
theorem dX5_record_46 : decode cX5_record 46 = .ok (.putfield 34, 3) := by decide +kernel
theorem dX5_record_49 : decode cX5_record 49 = .ok (.aload_n 0, 1) := by decide +kernel
theorem dX5_record_50 : decode cX5_record 50 = .ok (.getfield 7, 3) := by decide +kernel
theorem dX5_record_53 : decode cX5_record 53 = .ok (.iconst 0, 1) := by decide +kernel
theorem dX5_record_54 : decode cX5_record 54 = .ok (.aload_n 0, 1) := by decide +kernel
theorem dX5_record_55 : decode cX5_record 55 = .ok (.getfield 16, 3) := by decide +kernel
theorem dX5_record_58 : decode cX5_record 58 = .ok (.aload_n 0, 1) := by decide +kernel
theorem dX5_record_59 : decode cX5_record 59 = .ok (.getfield 34, 3) := by decide +kernel
theorem dX5_record_62 : decode cX5_record 62 = .ok (.bipush 96, 2) := by decide +kernel
theorem dX5_record_64 : decode cX5_record 64 = .ok (.imul, 1) := by decide +kernel
theorem dX5_record_65 : decode cX5_record 65 = .ok (.invokestatic 38, 3) := by decide +kernel
theorem dX5_record_68 : decode cX5_record 68 = .ok (.aload_n 0, 1) := by decide +kernel
theorem dX5_record_69 : decode cX5_record 69 = .ok (.dup, 1) := by decide +kernel
theorem dX5_record_70 : decode cX5_record 70 = .ok (.getfield 34, 3) := by decide +kernel
theorem dX5_record_73 : decode cX5_record 73 = .ok (.iconst 1, 1) := by decide +kernel
theorem dX5_record_74 : decode cX5_record 74 = .ok (.iadd, 1) := by decide +kernel
theorem dX5_record_75 : decode cX5_record 75 = .ok (.putfield 34, 3) := by decide +kernel
theorem dX5_record_78 : decode cX5_record 78 = .ok (.return_, 1) := by decide +kernel
theorem dX5_isIsland_0 : decode cX5_isIsland 0 = .ok (.iload_n 1, 1) := by decide +kernel
theorem dX5_isIsland_1 : decode cX5_isIsland 1 = .ok (.iconst 0, 1) := by decide +kernel
theorem dX5_isIsland_2 : decode cX5_isIsland 2 = .ok (.aload_n 0, 1) := by decide +kernel
theorem dX5_isIsland_3 : decode cX5_isIsland 3 = .ok (.getfield 7, 3) := by decide +kernel
theorem dX5_isIsland_6 : decode cX5_isIsland 6 = .ok (.iconst 2, 1) := by decide +kernel
theorem dX5_isIsland_7 : decode cX5_isIsland 7 = .ok (.iaload, 1) := by decide +kernel
theorem dX5_isIsland_8 : decode cX5_isIsland 8 = .ok (.iconst 1, 1) := by decide +kernel
theorem dX5_isIsland_9 : decode cX5_isIsland 9 = .ok (.isub, 1) := by decide +kernel
theorem dX5_isIsland_10 : decode cX5_isIsland 10 = .ok (.invokestatic 42, 3) := by decide +kernel
theorem dX5_isIsland_13 : decode cX5_isIsland 13 = .ok (.ireturn, 1) := by decide +kernel
theorem dX5_part_0 : decode cX5_part 0 = .ok (.aload_n 0, 1) := by decide +kernel
theorem dX5_part_1 : decode cX5_part 1 = .ok (.getfield 7, 3) := by decide +kernel
theorem dX5_part_4 : decode cX5_part 4 = .ok (.bipush 16, 2) := by decide +kernel
theorem dX5_part_6 : decode cX5_part 6 = .ok (.bipush 10, 2) := by decide +kernel
theorem dX5_part_8 : decode cX5_part 8 = .ok (.iload_n 1, 1) := by decide +kernel
theorem dX5_part_9 : decode cX5_part 9 = .ok (.imul, 1) := by decide +kernel
theorem dX5_part_10 : decode cX5_part 10 = .ok (.iadd, 1) := by decide +kernel
theorem dX5_part_11 : decode cX5_part 11 = .ok (.iload_n 2, 1) := by decide +kernel
theorem dX5_part_12 : decode cX5_part 12 = .ok (.iadd, 1) := by decide +kernel
theorem dX5_part_13 : decode cX5_part 13 = .ok (.iaload, 1) := by decide +kernel
theorem dX5_part_14 : decode cX5_part 14 = .ok (.ireturn, 1) := by decide +kernel
theorem dX5_setPart_0 : decode cX5_setPart 0 = .ok (.aload_n 0, 1) := by decide +kernel
theorem dX5_setPart_1 : decode cX5_setPart 1 = .ok (.getfield 7, 3) := by decide +kernel
theorem dX5_setPart_4 : decode cX5_setPart 4 = .ok (.bipush 16, 2) := by decide +kernel
theorem dX5_setPart_6 : decode cX5_setPart 6 = .ok (.bipush 10, 2) := by decide +kernel
theorem dX5_setPart_8 : decode cX5_setPart 8 = .ok (.iload_n 1, 1) := by decide +kernel
theorem dX5_setPart_9 : decode cX5_setPart 9 = .ok (.imul, 1) := by decide +kernel
theorem dX5_setPart_10 : decode cX5_setPart 10 = .ok (.iadd, 1) := by decide +kernel
theorem dX5_setPart_11 : decode cX5_setPart 11 = .ok (.iload_n 2, 1) := by decide +kernel
theorem dX5_setPart_12 : decode cX5_setPart 12 = .ok (.iadd, 1) := by decide +kernel
theorem dX5_setPart_13 : decode cX5_setPart 13 = .ok (.iload_n 3, 1) := by decide +kernel
theorem dX5_setPart_14 : decode cX5_setPart 14 = .ok (.iastore, 1) := by decide +kernel
theorem dX5_setPart_15 : decode cX5_setPart 15 = .ok (.return_, 1) := by decide +kernel
theorem dX5_is_0 : decode cX5_is 0 = .ok (.aload_n 0, 1) := by decide +kernel
theorem dX5_is_1 : decode cX5_is 1 = .ok (.iload_n 1, 1) := by decide +kernel
theorem dX5_is_2 : decode cX5_is 2 = .ok (.bipush 7, 2) := by decide +kernel
theorem dX5_is_4 : decode cX5_is 4 = .ok (.invokevirtual 46, 3) := by decide +kernel
theorem dX5_is_7 : decode cX5_is 7 = .ok (.iload_n 2, 1) := by decide +kernel
theorem dX5_is_8 : decode cX5_is 8 = .ok (.if_icmp .ne 7, 3) := by decide +kernel
theorem dX5_is_11 : decode cX5_is 11 = .ok (.iconst 1, 1) := by decide +kernel
theorem dX5_is_12 : decode cX5_is 12 = .ok (.goto 4, 3) := by decide +kernel
theorem dX5_is_15 : decode cX5_is 15 = .ok (.iconst 0, 1) := by decide +kernel
theorem dX5_is_16 : decode cX5_is 16 = .ok (.ireturn, 1) := by decide +kernel
theorem dX5_reads_0 : decode cX5_reads 0 = .ok (.aload_n 0, 1) := by decide +kernel
theorem dX5_reads_1 : decode cX5_reads 1 = .ok (.iload_n 1, 1) := by decide +kernel
theorem dX5_reads_2 : decode cX5_reads 2 = .ok (.bipush 6, 2) := by decide +kernel
theorem dX5_reads_4 : decode cX5_reads 4 = .ok (.invokevirtual 46, 3) := by decide +kernel
theorem dX5_reads_7 : decode cX5_reads 7 = .ok (.iload_n 2, 1) := by decide +kernel
theorem dX5_reads_8 : decode cX5_reads 8 = .ok (.ishr, 1) := by decide +kernel
theorem dX5_reads_9 : decode cX5_reads 9 = .ok (.iconst 1, 1) := by decide +kernel
theorem dX5_reads_10 : decode cX5_reads 10 = .ok (.iand, 1) := by decide +kernel
theorem dX5_reads_11 : decode cX5_reads 11 = .ok (.iconst 1, 1) := by decide +kernel
theorem dX5_reads_12 : decode cX5_reads 12 = .ok (.if_icmp .ne 7, 3) := by decide +kernel
theorem dX5_reads_15 : decode cX5_reads 15 = .ok (.iconst 1, 1) := by decide +kernel
theorem dX5_reads_16 : decode cX5_reads 16 = .ok (.goto 4, 3) := by decide +kernel
theorem dX5_reads_19 : decode cX5_reads 19 = .ok (.iconst 0, 1) := by decide +kernel
theorem dX5_reads_20 : decode cX5_reads 20 = .ok (.ireturn, 1) := by decide +kernel
theorem dX5_isSure_0 : decode cX5_isSure 0 = .ok (.aload_n 0, 1) := by decide +kernel
theorem dX5_isSure_1 : decode cX5_isSure 1 = .ok (.iload_n 1, 1) := by decide +kernel
theorem dX5_isSure_2 : decode cX5_isSure 2 = .ok (.iconst 0, 1) := by decide +kernel
theorem dX5_isSure_3 : decode cX5_isSure 3 = .ok (.invokevirtual 50, 3) := by decide +kernel
theorem dX5_isSure_6 : decode cX5_isSure 6 = .ok (.ifCond .ne 12, 3) := by decide +kernel
theorem dX5_isSure_9 : decode cX5_isSure 9 = .ok (.aload_n 0, 1) := by decide +kernel
theorem dX5_isSure_10 : decode cX5_isSure 10 = .ok (.iload_n 1, 1) := by decide +kernel
theorem dX5_isSure_11 : decode cX5_isSure 11 = .ok (.iconst 1, 1) := by decide +kernel
theorem dX5_isSure_12 : decode cX5_isSure 12 = .ok (.invokevirtual 50, 3) := by decide +kernel
theorem dX5_isSure_15 : decode cX5_isSure 15 = .ok (.ifCond .eq 7, 3) := by decide +kernel
theorem dX5_isSure_18 : decode cX5_isSure 18 = .ok (.iconst 1, 1) := by decide +kernel
theorem dX5_isSure_19 : decode cX5_isSure 19 = .ok (.goto 4, 3) := by decide +kernel
theorem dX5_isSure_22 : decode cX5_isSure 22 = .ok (.iconst 0, 1) := by decide +kernel
theorem dX5_isSure_23 : decode cX5_isSure 23 = .ok (.ireturn, 1) := by decide +kernel
theorem dX5_tellsNow_0 : decode cX5_tellsNow 0 = .ok (.aload_n 0, 1) := by decide +kernel
theorem dX5_tellsNow_1 : decode cX5_tellsNow 1 = .ok (.iload_n 1, 1) := by decide +kernel
theorem dX5_tellsNow_2 : decode cX5_tellsNow 2 = .ok (.invokevirtual 54, 3) := by decide +kernel
theorem dX5_tellsNow_5 : decode cX5_tellsNow 5 = .ok (.ifCond .eq 12, 3) := by decide +kernel
theorem dX5_tellsNow_8 : decode cX5_tellsNow 8 = .ok (.aload_n 0, 1) := by decide +kernel
theorem dX5_tellsNow_9 : decode cX5_tellsNow 9 = .ok (.iload_n 1, 1) := by decide +kernel
theorem dX5_tellsNow_10 : decode cX5_tellsNow 10 = .ok (.iconst 4, 1) := by decide +kernel
theorem dX5_tellsNow_11 : decode cX5_tellsNow 11 = .ok (.invokevirtual 46, 3) := by decide +kernel
theorem dX5_tellsNow_14 : decode cX5_tellsNow 14 = .ok (.goto 20, 3) := by decide +kernel
theorem dX5_tellsNow_17 : decode cX5_tellsNow 17 = .ok (.aload_n 0, 1) := by decide +kernel
theorem dX5_tellsNow_18 : decode cX5_tellsNow 18 = .ok (.iload_n 1, 1) := by decide +kernel
theorem dX5_tellsNow_19 : decode cX5_tellsNow 19 = .ok (.iconst 0, 1) := by decide +kernel
theorem dX5_tellsNow_20 : decode cX5_tellsNow 20 = .ok (.invokevirtual 46, 3) := by decide +kernel
theorem dX5_tellsNow_23 : decode cX5_tellsNow 23 = .ok (.iconst 1, 1) := by decide +kernel
theorem dX5_tellsNow_24 : decode cX5_tellsNow 24 = .ok (.if_icmp .ne 7, 3) := by decide +kernel
theorem dX5_tellsNow_27 : decode cX5_tellsNow 27 = .ok (.iconst 0, 1) := by decide +kernel
theorem dX5_tellsNow_28 : decode cX5_tellsNow 28 = .ok (.goto 6, 3) := by decide +kernel
theorem dX5_tellsNow_31 : decode cX5_tellsNow 31 = .ok (.sipush 255, 3) := by decide +kernel
theorem dX5_tellsNow_34 : decode cX5_tellsNow 34 = .ok (.ireturn, 1) := by decide +kernel
theorem dX5_setOf_0 : decode cX5_setOf 0 = .ok (.iconst 0, 1) := by decide +kernel
theorem dX5_setOf_1 : decode cX5_setOf 1 = .ok (.istore_n 2, 1) := by decide +kernel
theorem dX5_setOf_2 : decode cX5_setOf 2 = .ok (.iconst 0, 1) := by decide +kernel
theorem dX5_setOf_3 : decode cX5_setOf 3 = .ok (.istore_n 3, 1) := by decide +kernel
theorem dX5_setOf_4 : decode cX5_setOf 4 = .ok (.iload_n 3, 1) := by decide +kernel
theorem dX5_setOf_5 : decode cX5_setOf 5 = .ok (.aload_n 0, 1) := by decide +kernel
theorem dX5_setOf_6 : decode cX5_setOf 6 = .ok (.getfield 7, 3) := by decide +kernel
theorem dX5_setOf_9 : decode cX5_setOf 9 = .ok (.iconst 2, 1) := by decide +kernel
theorem dX5_setOf_10 : decode cX5_setOf 10 = .ok (.iaload, 1) := by decide +kernel
theorem dX5_setOf_11 : decode cX5_setOf 11 = .ok (.if_icmp .ge 28, 3) := by decide +kernel
theorem dX5_setOf_14 : decode cX5_setOf 14 = .ok (.iload_n 2, 1) := by decide +kernel
theorem dX5_setOf_15 : decode cX5_setOf 15 = .ok (.aload_n 0, 1) := by decide +kernel
theorem dX5_setOf_16 : decode cX5_setOf 16 = .ok (.iload_n 3, 1) := by decide +kernel
theorem dX5_setOf_17 : decode cX5_setOf 17 = .ok (.iload_n 1, 1) := by decide +kernel
theorem dX5_setOf_18 : decode cX5_setOf 18 = .ok (.invokevirtual 50, 3) := by decide +kernel
theorem dX5_setOf_21 : decode cX5_setOf 21 = .ok (.ifCond .eq 9, 3) := by decide +kernel
theorem dX5_setOf_24 : decode cX5_setOf 24 = .ok (.iconst 1, 1) := by decide +kernel
theorem dX5_setOf_25 : decode cX5_setOf 25 = .ok (.iload_n 3, 1) := by decide +kernel
theorem dX5_setOf_26 : decode cX5_setOf 26 = .ok (.ishl, 1) := by decide +kernel
theorem dX5_setOf_27 : decode cX5_setOf 27 = .ok (.goto 4, 3) := by decide +kernel
theorem dX5_setOf_30 : decode cX5_setOf 30 = .ok (.iconst 0, 1) := by decide +kernel
theorem dX5_setOf_31 : decode cX5_setOf 31 = .ok (.ior, 1) := by decide +kernel
theorem dX5_setOf_32 : decode cX5_setOf 32 = .ok (.istore_n 2, 1) := by decide +kernel
theorem dX5_setOf_33 : decode cX5_setOf 33 = .ok (.iinc 3 1, 3) := by decide +kernel
theorem dX5_setOf_36 : decode cX5_setOf 36 = .ok (.goto (-32), 3) := by decide +kernel
theorem dX5_setOf_39 : decode cX5_setOf 39 = .ok (.iload_n 2, 1) := by decide +kernel
theorem dX5_setOf_40 : decode cX5_setOf 40 = .ok (.ireturn, 1) := by decide +kernel
theorem dX5_readersOf_0 : decode cX5_readersOf 0 = .ok (.iconst 0, 1) := by decide +kernel
theorem dX5_readersOf_1 : decode cX5_readersOf 1 = .ok (.istore_n 2, 1) := by decide +kernel
theorem dX5_readersOf_2 : decode cX5_readersOf 2 = .ok (.iconst 0, 1) := by decide +kernel
theorem dX5_readersOf_3 : decode cX5_readersOf 3 = .ok (.istore_n 3, 1) := by decide +kernel
theorem dX5_readersOf_4 : decode cX5_readersOf 4 = .ok (.iload_n 3, 1) := by decide +kernel
theorem dX5_readersOf_5 : decode cX5_readersOf 5 = .ok (.aload_n 0, 1) := by decide +kernel
theorem dX5_readersOf_6 : decode cX5_readersOf 6 = .ok (.getfield 7, 3) := by decide +kernel
theorem dX5_readersOf_9 : decode cX5_readersOf 9 = .ok (.iconst 2, 1) := by decide +kernel
theorem dX5_readersOf_10 : decode cX5_readersOf 10 = .ok (.iaload, 1) := by decide +kernel
theorem dX5_readersOf_11 : decode cX5_readersOf 11 = .ok (.if_icmp .ge 28, 3) := by decide +kernel
theorem dX5_readersOf_14 : decode cX5_readersOf 14 = .ok (.iload_n 2, 1) := by decide +kernel
theorem dX5_readersOf_15 : decode cX5_readersOf 15 = .ok (.aload_n 0, 1) := by decide +kernel
theorem dX5_readersOf_16 : decode cX5_readersOf 16 = .ok (.iload_n 3, 1) := by decide +kernel
theorem dX5_readersOf_17 : decode cX5_readersOf 17 = .ok (.iload_n 1, 1) := by decide +kernel
theorem dX5_readersOf_18 : decode cX5_readersOf 18 = .ok (.invokevirtual 58, 3) := by decide +kernel
theorem dX5_readersOf_21 : decode cX5_readersOf 21 = .ok (.ifCond .eq 9, 3) := by decide +kernel
theorem dX5_readersOf_24 : decode cX5_readersOf 24 = .ok (.iconst 1, 1) := by decide +kernel
theorem dX5_readersOf_25 : decode cX5_readersOf 25 = .ok (.iload_n 3, 1) := by decide +kernel
theorem dX5_readersOf_26 : decode cX5_readersOf 26 = .ok (.ishl, 1) := by decide +kernel
theorem dX5_readersOf_27 : decode cX5_readersOf 27 = .ok (.goto 4, 3) := by decide +kernel
theorem dX5_readersOf_30 : decode cX5_readersOf 30 = .ok (.iconst 0, 1) := by decide +kernel
theorem dX5_readersOf_31 : decode cX5_readersOf 31 = .ok (.ior, 1) := by decide +kernel
theorem dX5_readersOf_32 : decode cX5_readersOf 32 = .ok (.istore_n 2, 1) := by decide +kernel
theorem dX5_readersOf_33 : decode cX5_readersOf 33 = .ok (.iinc 3 1, 3) := by decide +kernel
theorem dX5_readersOf_36 : decode cX5_readersOf 36 = .ok (.goto (-32), 3) := by decide +kernel
theorem dX5_readersOf_39 : decode cX5_readersOf 39 = .ok (.iload_n 2, 1) := by decide +kernel
theorem dX5_readersOf_40 : decode cX5_readersOf 40 = .ok (.ireturn, 1) := by decide +kernel
theorem dX5_awakeReaders_0 : decode cX5_awakeReaders 0 = .ok (.aload_n 0, 1) := by decide +kernel
theorem dX5_awakeReaders_1 : decode cX5_awakeReaders 1 = .ok (.iload_n 1, 1) := by decide +kernel
theorem dX5_awakeReaders_2 : decode cX5_awakeReaders 2 = .ok (.invokevirtual 61, 3) := by decide +kernel
theorem dX5_awakeReaders_5 : decode cX5_awakeReaders 5 = .ok (.aload_n 0, 1) := by decide +kernel
theorem dX5_awakeReaders_6 : decode cX5_awakeReaders 6 = .ok (.iconst 0, 1) := by decide +kernel
theorem dX5_awakeReaders_7 : decode cX5_awakeReaders 7 = .ok (.invokevirtual 65, 3) := by decide +kernel
theorem dX5_awakeReaders_10 : decode cX5_awakeReaders 10 = .ok (.iand, 1) := by decide +kernel
theorem dX5_awakeReaders_11 : decode cX5_awakeReaders 11 = .ok (.ireturn, 1) := by decide +kernel
theorem dX5_bits_0 : decode cX5_bits 0 = .ok (.iconst 0, 1) := by decide +kernel
theorem dX5_bits_1 : decode cX5_bits 1 = .ok (.istore_n 1, 1) := by decide +kernel
theorem dX5_bits_2 : decode cX5_bits 2 = .ok (.iconst 0, 1) := by decide +kernel
theorem dX5_bits_3 : decode cX5_bits 3 = .ok (.istore_n 2, 1) := by decide +kernel
theorem dX5_bits_4 : decode cX5_bits 4 = .ok (.iload_n 2, 1) := by decide +kernel
theorem dX5_bits_5 : decode cX5_bits 5 = .ok (.bipush 8, 2) := by decide +kernel
theorem dX5_bits_7 : decode cX5_bits 7 = .ok (.if_icmp .ge 17, 3) := by decide +kernel
theorem dX5_bits_10 : decode cX5_bits 10 = .ok (.iload_n 1, 1) := by decide +kernel
theorem dX5_bits_11 : decode cX5_bits 11 = .ok (.iload_n 0, 1) := by decide +kernel
theorem dX5_bits_12 : decode cX5_bits 12 = .ok (.iload_n 2, 1) := by decide +kernel
theorem dX5_bits_13 : decode cX5_bits 13 = .ok (.ishr, 1) := by decide +kernel
theorem dX5_bits_14 : decode cX5_bits 14 = .ok (.iconst 1, 1) := by decide +kernel
theorem dX5_bits_15 : decode cX5_bits 15 = .ok (.iand, 1) := by decide +kernel
theorem dX5_bits_16 : decode cX5_bits 16 = .ok (.iadd, 1) := by decide +kernel
theorem dX5_bits_17 : decode cX5_bits 17 = .ok (.istore_n 1, 1) := by decide +kernel
theorem dX5_bits_18 : decode cX5_bits 18 = .ok (.iinc 2 1, 3) := by decide +kernel
theorem dX5_bits_21 : decode cX5_bits 21 = .ok (.goto (-17), 3) := by decide +kernel
theorem dX5_bits_24 : decode cX5_bits 24 = .ok (.iload_n 1, 1) := by decide +kernel
theorem dX5_bits_25 : decode cX5_bits 25 = .ok (.ireturn, 1) := by decide +kernel
theorem dX5_risingLoad_0 : decode cX5_risingLoad 0 = .ok (.iconst 0, 1) := by decide +kernel
theorem dX5_risingLoad_1 : decode cX5_risingLoad 1 = .ok (.istore_n 1, 1) := by decide +kernel
theorem dX5_risingLoad_2 : decode cX5_risingLoad 2 = .ok (.iconst 0, 1) := by decide +kernel
theorem dX5_risingLoad_3 : decode cX5_risingLoad 3 = .ok (.istore_n 2, 1) := by decide +kernel
theorem dX5_risingLoad_4 : decode cX5_risingLoad 4 = .ok (.iload_n 2, 1) := by decide +kernel
theorem dX5_risingLoad_5 : decode cX5_risingLoad 5 = .ok (.aload_n 0, 1) := by decide +kernel
theorem dX5_risingLoad_6 : decode cX5_risingLoad 6 = .ok (.getfield 7, 3) := by decide +kernel
theorem dX5_risingLoad_9 : decode cX5_risingLoad 9 = .ok (.iconst 2, 1) := by decide +kernel
theorem dX5_risingLoad_10 : decode cX5_risingLoad 10 = .ok (.iaload, 1) := by decide +kernel
theorem dX5_risingLoad_11 : decode cX5_risingLoad 11 = .ok (.if_icmp .ge 31, 3) := by decide +kernel
theorem dX5_risingLoad_14 : decode cX5_risingLoad 14 = .ok (.iload_n 1, 1) := by decide +kernel
theorem dX5_risingLoad_15 : decode cX5_risingLoad 15 = .ok (.aload_n 0, 1) := by decide +kernel
theorem dX5_risingLoad_16 : decode cX5_risingLoad 16 = .ok (.iload_n 2, 1) := by decide +kernel
theorem dX5_risingLoad_17 : decode cX5_risingLoad 17 = .ok (.iconst 4, 1) := by decide +kernel
theorem dX5_risingLoad_18 : decode cX5_risingLoad 18 = .ok (.invokevirtual 50, 3) := by decide +kernel
theorem dX5_risingLoad_21 : decode cX5_risingLoad 21 = .ok (.ifCond .eq 12, 3) := by decide +kernel
theorem dX5_risingLoad_24 : decode cX5_risingLoad 24 = .ok (.aload_n 0, 1) := by decide +kernel
theorem dX5_risingLoad_25 : decode cX5_risingLoad 25 = .ok (.iload_n 2, 1) := by decide +kernel
theorem dX5_risingLoad_26 : decode cX5_risingLoad 26 = .ok (.iconst 3, 1) := by decide +kernel
theorem dX5_risingLoad_27 : decode cX5_risingLoad 27 = .ok (.invokevirtual 46, 3) := by decide +kernel
theorem dX5_risingLoad_30 : decode cX5_risingLoad 30 = .ok (.goto 4, 3) := by decide +kernel
theorem dX5_risingLoad_33 : decode cX5_risingLoad 33 = .ok (.iconst 0, 1) := by decide +kernel
theorem dX5_risingLoad_34 : decode cX5_risingLoad 34 = .ok (.iadd, 1) := by decide +kernel
theorem dX5_risingLoad_35 : decode cX5_risingLoad 35 = .ok (.istore_n 1, 1) := by decide +kernel
theorem dX5_risingLoad_36 : decode cX5_risingLoad 36 = .ok (.iinc 2 1, 3) := by decide +kernel
theorem dX5_risingLoad_39 : decode cX5_risingLoad 39 = .ok (.goto (-35), 3) := by decide +kernel
theorem dX5_risingLoad_42 : decode cX5_risingLoad 42 = .ok (.iload_n 1, 1) := by decide +kernel
theorem dX5_risingLoad_43 : decode cX5_risingLoad 43 = .ok (.ireturn, 1) := by decide +kernel
theorem dX5_placeOf_0 : decode cX5_placeOf 0 = .ok (.bipush (-6), 2) := by decide +kernel
theorem dX5_placeOf_2 : decode cX5_placeOf 2 = .ok (.istore_n 2, 1) := by decide +kernel
theorem dX5_placeOf_3 : decode cX5_placeOf 3 = .ok (.iconst 0, 1) := by decide +kernel
theorem dX5_placeOf_4 : decode cX5_placeOf 4 = .ok (.istore_n 3, 1) := by decide +kernel
theorem dX5_placeOf_5 : decode cX5_placeOf 5 = .ok (.iload_n 3, 1) := by decide +kernel
theorem dX5_placeOf_6 : decode cX5_placeOf 6 = .ok (.aload_n 0, 1) := by decide +kernel
theorem dX5_placeOf_7 : decode cX5_placeOf 7 = .ok (.getfield 7, 3) := by decide +kernel
theorem dX5_placeOf_10 : decode cX5_placeOf 10 = .ok (.bipush 7, 2) := by decide +kernel
theorem dX5_placeOf_12 : decode cX5_placeOf 12 = .ok (.iaload, 1) := by decide +kernel
theorem dX5_placeOf_13 : decode cX5_placeOf 13 = .ok (.if_icmp .ge 28, 3) := by decide +kernel
theorem dX5_placeOf_16 : decode cX5_placeOf 16 = .ok (.aload_n 0, 1) := by decide +kernel
theorem dX5_placeOf_17 : decode cX5_placeOf 17 = .ok (.getfield 7, 3) := by decide +kernel
theorem dX5_placeOf_20 : decode cX5_placeOf 20 = .ok (.bipush 8, 2) := by decide +kernel
theorem dX5_placeOf_22 : decode cX5_placeOf 22 = .ok (.iload_n 3, 1) := by decide +kernel
theorem dX5_placeOf_23 : decode cX5_placeOf 23 = .ok (.iadd, 1) := by decide +kernel
theorem dX5_placeOf_24 : decode cX5_placeOf 24 = .ok (.iaload, 1) := by decide +kernel
theorem dX5_placeOf_25 : decode cX5_placeOf 25 = .ok (.iload_n 1, 1) := by decide +kernel
theorem dX5_placeOf_26 : decode cX5_placeOf 26 = .ok (.if_icmp .ne 7, 3) := by decide +kernel
theorem dX5_placeOf_29 : decode cX5_placeOf 29 = .ok (.iload_n 3, 1) := by decide +kernel
theorem dX5_placeOf_30 : decode cX5_placeOf 30 = .ok (.goto 4, 3) := by decide +kernel
theorem dX5_placeOf_33 : decode cX5_placeOf 33 = .ok (.iload_n 2, 1) := by decide +kernel
theorem dX5_placeOf_34 : decode cX5_placeOf 34 = .ok (.istore_n 2, 1) := by decide +kernel
theorem dX5_placeOf_35 : decode cX5_placeOf 35 = .ok (.iinc 3 1, 3) := by decide +kernel
theorem dX5_placeOf_38 : decode cX5_placeOf 38 = .ok (.goto (-33), 3) := by decide +kernel
theorem dX5_placeOf_41 : decode cX5_placeOf 41 = .ok (.iload_n 2, 1) := by decide +kernel
theorem dX5_placeOf_42 : decode cX5_placeOf 42 = .ok (.ireturn, 1) := by decide +kernel
theorem dX5_waitsNow_0 : decode cX5_waitsNow 0 = .ok (.aload_n 0, 1) := by decide +kernel
theorem dX5_waitsNow_1 : decode cX5_waitsNow 1 = .ok (.iload_n 1, 1) := by decide +kernel
theorem dX5_waitsNow_2 : decode cX5_waitsNow 2 = .ok (.bipush 7, 2) := by decide +kernel
theorem dX5_waitsNow_4 : decode cX5_waitsNow 4 = .ok (.iconst 3, 1) := by decide +kernel
theorem dX5_waitsNow_5 : decode cX5_waitsNow 5 = .ok (.invokevirtual 68, 3) := by decide +kernel
theorem dX5_waitsNow_8 : decode cX5_waitsNow 8 = .ok (.aload_n 0, 1) := by decide +kernel
theorem dX5_waitsNow_9 : decode cX5_waitsNow 9 = .ok (.getfield 7, 3) := by decide +kernel
theorem dX5_waitsNow_12 : decode cX5_waitsNow 12 = .ok (.bipush 8, 2) := by decide +kernel
theorem dX5_waitsNow_14 : decode cX5_waitsNow 14 = .ok (.aload_n 0, 1) := by decide +kernel
theorem dX5_waitsNow_15 : decode cX5_waitsNow 15 = .ok (.getfield 7, 3) := by decide +kernel
theorem dX5_waitsNow_18 : decode cX5_waitsNow 18 = .ok (.bipush 7, 2) := by decide +kernel
theorem dX5_waitsNow_20 : decode cX5_waitsNow 20 = .ok (.iaload, 1) := by decide +kernel
theorem dX5_waitsNow_21 : decode cX5_waitsNow 21 = .ok (.iadd, 1) := by decide +kernel
theorem dX5_waitsNow_22 : decode cX5_waitsNow 22 = .ok (.iload_n 1, 1) := by decide +kernel
theorem dX5_waitsNow_23 : decode cX5_waitsNow 23 = .ok (.iastore, 1) := by decide +kernel
theorem dX5_waitsNow_24 : decode cX5_waitsNow 24 = .ok (.aload_n 0, 1) := by decide +kernel
theorem dX5_waitsNow_25 : decode cX5_waitsNow 25 = .ok (.getfield 7, 3) := by decide +kernel
theorem dX5_waitsNow_28 : decode cX5_waitsNow 28 = .ok (.bipush 7, 2) := by decide +kernel
theorem dX5_waitsNow_30 : decode cX5_waitsNow 30 = .ok (.dup2, 1) := by decide +kernel
theorem dX5_waitsNow_31 : decode cX5_waitsNow 31 = .ok (.iaload, 1) := by decide +kernel
theorem dX5_waitsNow_32 : decode cX5_waitsNow 32 = .ok (.iconst 1, 1) := by decide +kernel
theorem dX5_waitsNow_33 : decode cX5_waitsNow 33 = .ok (.iadd, 1) := by decide +kernel
theorem dX5_waitsNow_34 : decode cX5_waitsNow 34 = .ok (.iastore, 1) := by decide +kernel
theorem dX5_waitsNow_35 : decode cX5_waitsNow 35 = .ok (.return_, 1) := by decide +kernel
theorem dX5_newValues_0 : decode cX5_newValues 0 = .ok (.iconst 0, 1) := by decide +kernel
theorem dX5_newValues_1 : decode cX5_newValues 1 = .ok (.istore_n 1, 1) := by decide +kernel
theorem dX5_newValues_2 : decode cX5_newValues 2 = .ok (.iload_n 1, 1) := by decide +kernel
theorem dX5_newValues_3 : decode cX5_newValues 3 = .ok (.aload_n 0, 1) := by decide +kernel
theorem dX5_newValues_4 : decode cX5_newValues 4 = .ok (.getfield 7, 3) := by decide +kernel
theorem dX5_newValues_7 : decode cX5_newValues 7 = .ok (.iconst 2, 1) := by decide +kernel
theorem dX5_newValues_8 : decode cX5_newValues 8 = .ok (.iaload, 1) := by decide +kernel
theorem dX5_newValues_9 : decode cX5_newValues 9 = .ok (.if_icmp .ge 48, 3) := by decide +kernel
theorem dX5_newValues_12 : decode cX5_newValues 12 = .ok (.aload_n 0, 1) := by decide +kernel
theorem dX5_newValues_13 : decode cX5_newValues 13 = .ok (.getfield 28, 3) := by decide +kernel
theorem dX5_newValues_16 : decode cX5_newValues 16 = .ok (.iload_n 1, 1) := by decide +kernel
theorem dX5_newValues_17 : decode cX5_newValues 17 = .ok (.aload_n 0, 1) := by decide +kernel
theorem dX5_newValues_18 : decode cX5_newValues 18 = .ok (.iload_n 1, 1) := by decide +kernel
theorem dX5_newValues_19 : decode cX5_newValues 19 = .ok (.invokevirtual 72, 3) := by decide +kernel
theorem dX5_newValues_22 : decode cX5_newValues 22 = .ok (.iastore, 1) := by decide +kernel
theorem dX5_newValues_23 : decode cX5_newValues 23 = .ok (.aload_n 0, 1) := by decide +kernel
theorem dX5_newValues_24 : decode cX5_newValues 24 = .ok (.getfield 31, 3) := by decide +kernel
theorem dX5_newValues_27 : decode cX5_newValues 27 = .ok (.iload_n 1, 1) := by decide +kernel
theorem dX5_newValues_28 : decode cX5_newValues 28 = .ok (.aload_n 0, 1) := by decide +kernel
theorem dX5_newValues_29 : decode cX5_newValues 29 = .ok (.iload_n 1, 1) := by decide +kernel
theorem dX5_newValues_30 : decode cX5_newValues 30 = .ok (.invokevirtual 54, 3) := by decide +kernel
theorem dX5_newValues_33 : decode cX5_newValues 33 = .ok (.ifCond .ne 16, 3) := by decide +kernel
theorem dX5_newValues_36 : decode cX5_newValues 36 = .ok (.aload_n 0, 1) := by decide +kernel
theorem dX5_newValues_37 : decode cX5_newValues 37 = .ok (.iload_n 1, 1) := by decide +kernel
theorem dX5_newValues_38 : decode cX5_newValues 38 = .ok (.iconst 0, 1) := by decide +kernel
theorem dX5_newValues_39 : decode cX5_newValues 39 = .ok (.invokevirtual 46, 3) := by decide +kernel
theorem dX5_newValues_42 : decode cX5_newValues 42 = .ok (.ifCond .ne 7, 3) := by decide +kernel
theorem dX5_newValues_45 : decode cX5_newValues 45 = .ok (.iconst 1, 1) := by decide +kernel
theorem dX5_newValues_46 : decode cX5_newValues 46 = .ok (.goto 4, 3) := by decide +kernel
theorem dX5_newValues_49 : decode cX5_newValues 49 = .ok (.iconst 0, 1) := by decide +kernel
theorem dX5_newValues_50 : decode cX5_newValues 50 = .ok (.iastore, 1) := by decide +kernel
theorem dX5_newValues_51 : decode cX5_newValues 51 = .ok (.iinc 1 1, 3) := by decide +kernel
theorem dX5_newValues_54 : decode cX5_newValues 54 = .ok (.goto (-52), 3) := by decide +kernel
theorem dX5_newValues_57 : decode cX5_newValues 57 = .ok (.iconst 0, 1) := by decide +kernel
theorem dX5_newValues_58 : decode cX5_newValues 58 = .ok (.istore_n 1, 1) := by decide +kernel
theorem dX5_newValues_59 : decode cX5_newValues 59 = .ok (.iload_n 1, 1) := by decide +kernel
theorem dX5_newValues_60 : decode cX5_newValues 60 = .ok (.aload_n 0, 1) := by decide +kernel
theorem dX5_newValues_61 : decode cX5_newValues 61 = .ok (.getfield 7, 3) := by decide +kernel
theorem dX5_newValues_64 : decode cX5_newValues 64 = .ok (.iconst 2, 1) := by decide +kernel
theorem dX5_newValues_65 : decode cX5_newValues 65 = .ok (.iaload, 1) := by decide +kernel
theorem dX5_newValues_66 : decode cX5_newValues 66 = .ok (.if_icmp .ge 108, 3) := by decide +kernel
theorem dX5_newValues_69 : decode cX5_newValues 69 = .ok (.aload_n 0, 1) := by decide +kernel
theorem dX5_newValues_70 : decode cX5_newValues 70 = .ok (.iload_n 1, 1) := by decide +kernel
theorem dX5_newValues_71 : decode cX5_newValues 71 = .ok (.iconst 4, 1) := by decide +kernel
theorem dX5_newValues_72 : decode cX5_newValues 72 = .ok (.invokevirtual 46, 3) := by decide +kernel
theorem dX5_newValues_75 : decode cX5_newValues 75 = .ok (.istore_n 2, 1) := by decide +kernel
theorem dX5_newValues_76 : decode cX5_newValues 76 = .ok (.iconst 0, 1) := by decide +kernel
theorem dX5_newValues_77 : decode cX5_newValues 77 = .ok (.istore_n 3, 1) := by decide +kernel
theorem dX5_newValues_78 : decode cX5_newValues 78 = .ok (.iload_n 3, 1) := by decide +kernel
theorem dX5_newValues_79 : decode cX5_newValues 79 = .ok (.aload_n 0, 1) := by decide +kernel
theorem dX5_newValues_80 : decode cX5_newValues 80 = .ok (.getfield 7, 3) := by decide +kernel
theorem dX5_newValues_83 : decode cX5_newValues 83 = .ok (.iconst 2, 1) := by decide +kernel
theorem dX5_newValues_84 : decode cX5_newValues 84 = .ok (.iaload, 1) := by decide +kernel
theorem dX5_newValues_85 : decode cX5_newValues 85 = .ok (.if_icmp .ge 72, 3) := by decide +kernel
theorem dX5_newValues_88 : decode cX5_newValues 88 = .ok (.aload_n 0, 1) := by decide +kernel
theorem dX5_newValues_89 : decode cX5_newValues 89 = .ok (.iload_n 1, 1) := by decide +kernel
theorem dX5_newValues_90 : decode cX5_newValues 90 = .ok (.iconst 0, 1) := by decide +kernel
theorem dX5_newValues_91 : decode cX5_newValues 91 = .ok (.invokevirtual 50, 3) := by decide +kernel
theorem dX5_newValues_94 : decode cX5_newValues 94 = .ok (.ifCond .eq 63, 3) := by decide +kernel
theorem dX5_newValues_97 : decode cX5_newValues 97 = .ok (.aload_n 0, 1) := by decide +kernel
theorem dX5_newValues_98 : decode cX5_newValues 98 = .ok (.iload_n 1, 1) := by decide +kernel
theorem dX5_newValues_99 : decode cX5_newValues 99 = .ok (.iload_n 3, 1) := by decide +kernel
theorem dX5_newValues_100 : decode cX5_newValues 100 = .ok (.invokevirtual 58, 3) := by decide +kernel
theorem dX5_newValues_103 : decode cX5_newValues 103 = .ok (.ifCond .eq 48, 3) := by decide +kernel
theorem dX5_newValues_106 : decode cX5_newValues 106 = .ok (.iload_n 2, 1) := by decide +kernel
theorem dX5_newValues_107 : decode cX5_newValues 107 = .ok (.aload_n 0, 1) := by decide +kernel
theorem dX5_newValues_108 : decode cX5_newValues 108 = .ok (.getfield 28, 3) := by decide +kernel
theorem dX5_newValues_111 : decode cX5_newValues 111 = .ok (.iload_n 3, 1) := by decide +kernel
theorem dX5_newValues_112 : decode cX5_newValues 112 = .ok (.iaload, 1) := by decide +kernel
theorem dX5_newValues_113 : decode cX5_newValues 113 = .ok (.iadd, 1) := by decide +kernel
theorem dX5_newValues_114 : decode cX5_newValues 114 = .ok (.istore_n 2, 1) := by decide +kernel
theorem dX5_newValues_115 : decode cX5_newValues 115 = .ok (.aload_n 0, 1) := by decide +kernel
theorem dX5_newValues_116 : decode cX5_newValues 116 = .ok (.getfield 7, 3) := by decide +kernel
theorem dX5_newValues_119 : decode cX5_newValues 119 = .ok (.iconst 4, 1) := by decide +kernel
theorem dX5_newValues_120 : decode cX5_newValues 120 = .ok (.dup2, 1) := by decide +kernel
theorem dX5_newValues_121 : decode cX5_newValues 121 = .ok (.iaload, 1) := by decide +kernel
theorem dX5_newValues_122 : decode cX5_newValues 122 = .ok (.aload_n 0, 1) := by decide +kernel
theorem dX5_newValues_123 : decode cX5_newValues 123 = .ok (.getfield 31, 3) := by decide +kernel
theorem dX5_newValues_126 : decode cX5_newValues 126 = .ok (.iload_n 3, 1) := by decide +kernel
theorem dX5_newValues_127 : decode cX5_newValues 127 = .ok (.iaload, 1) := by decide +kernel
theorem dX5_newValues_128 : decode cX5_newValues 128 = .ok (.iadd, 1) := by decide +kernel
theorem dX5_newValues_129 : decode cX5_newValues 129 = .ok (.iastore, 1) := by decide +kernel
theorem dX5_newValues_130 : decode cX5_newValues 130 = .ok (.aload_n 0, 1) := by decide +kernel
theorem dX5_newValues_131 : decode cX5_newValues 131 = .ok (.iload_n 1, 1) := by decide +kernel
theorem dX5_newValues_132 : decode cX5_newValues 132 = .ok (.bipush 9, 2) := by decide +kernel
theorem dX5_newValues_134 : decode cX5_newValues 134 = .ok (.aload_n 0, 1) := by decide +kernel
theorem dX5_newValues_135 : decode cX5_newValues 135 = .ok (.iload_n 1, 1) := by decide +kernel
theorem dX5_newValues_136 : decode cX5_newValues 136 = .ok (.bipush 9, 2) := by decide +kernel
theorem dX5_newValues_138 : decode cX5_newValues 138 = .ok (.invokevirtual 46, 3) := by decide +kernel
theorem dX5_newValues_141 : decode cX5_newValues 141 = .ok (.aload_n 0, 1) := by decide +kernel
theorem dX5_newValues_142 : decode cX5_newValues 142 = .ok (.getfield 31, 3) := by decide +kernel
theorem dX5_newValues_145 : decode cX5_newValues 145 = .ok (.iload_n 3, 1) := by decide +kernel
theorem dX5_newValues_146 : decode cX5_newValues 146 = .ok (.iaload, 1) := by decide +kernel
theorem dX5_newValues_147 : decode cX5_newValues 147 = .ok (.iadd, 1) := by decide +kernel
theorem dX5_newValues_148 : decode cX5_newValues 148 = .ok (.invokevirtual 68, 3) := by decide +kernel
theorem dX5_newValues_151 : decode cX5_newValues 151 = .ok (.iinc 3 1, 3) := by decide +kernel
theorem dX5_newValues_154 : decode cX5_newValues 154 = .ok (.goto (-76), 3) := by decide +kernel
theorem dX5_newValues_157 : decode cX5_newValues 157 = .ok (.aload_n 0, 1) := by decide +kernel
theorem dX5_newValues_158 : decode cX5_newValues 158 = .ok (.iload_n 1, 1) := by decide +kernel
theorem dX5_newValues_159 : decode cX5_newValues 159 = .ok (.iconst 4, 1) := by decide +kernel
theorem dX5_newValues_160 : decode cX5_newValues 160 = .ok (.iload_n 2, 1) := by decide +kernel
theorem dX5_newValues_161 : decode cX5_newValues 161 = .ok (.sipush 256, 3) := by decide +kernel
theorem dX5_newValues_164 : decode cX5_newValues 164 = .ok (.irem, 1) := by decide +kernel
theorem dX5_newValues_165 : decode cX5_newValues 165 = .ok (.invokevirtual 68, 3) := by decide +kernel
theorem dX5_newValues_168 : decode cX5_newValues 168 = .ok (.iinc 1 1, 3) := by decide +kernel
theorem dX5_newValues_171 : decode cX5_newValues 171 = .ok (.goto (-112), 3) := by decide +kernel
theorem dX5_newValues_174 : decode cX5_newValues 174 = .ok (.return_, 1) := by decide +kernel
theorem dX5_fallAsleep_0 : decode cX5_fallAsleep 0 = .ok (.iconst 0, 1) := by decide +kernel
theorem dX5_fallAsleep_1 : decode cX5_fallAsleep 1 = .ok (.istore_n 1, 1) := by decide +kernel
theorem dX5_fallAsleep_2 : decode cX5_fallAsleep 2 = .ok (.iload_n 1, 1) := by decide +kernel
theorem dX5_fallAsleep_3 : decode cX5_fallAsleep 3 = .ok (.aload_n 0, 1) := by decide +kernel
theorem dX5_fallAsleep_4 : decode cX5_fallAsleep 4 = .ok (.getfield 7, 3) := by decide +kernel
theorem dX5_fallAsleep_7 : decode cX5_fallAsleep 7 = .ok (.iconst 2, 1) := by decide +kernel
theorem dX5_fallAsleep_8 : decode cX5_fallAsleep 8 = .ok (.iaload, 1) := by decide +kernel
theorem dX5_fallAsleep_9 : decode cX5_fallAsleep 9 = .ok (.if_icmp .ge 101, 3) := by decide +kernel
theorem dX5_fallAsleep_12 : decode cX5_fallAsleep 12 = .ok (.aload_n 0, 1) := by decide +kernel
theorem dX5_fallAsleep_13 : decode cX5_fallAsleep 13 = .ok (.iload_n 1, 1) := by decide +kernel
theorem dX5_fallAsleep_14 : decode cX5_fallAsleep 14 = .ok (.iconst 1, 1) := by decide +kernel
theorem dX5_fallAsleep_15 : decode cX5_fallAsleep 15 = .ok (.invokevirtual 50, 3) := by decide +kernel
theorem dX5_fallAsleep_18 : decode cX5_fallAsleep 18 = .ok (.ifCond .eq 86, 3) := by decide +kernel
theorem dX5_fallAsleep_21 : decode cX5_fallAsleep 21 = .ok (.aload_n 0, 1) := by decide +kernel
theorem dX5_fallAsleep_22 : decode cX5_fallAsleep 22 = .ok (.iload_n 1, 1) := by decide +kernel
theorem dX5_fallAsleep_23 : decode cX5_fallAsleep 23 = .ok (.iconst 1, 1) := by decide +kernel
theorem dX5_fallAsleep_24 : decode cX5_fallAsleep 24 = .ok (.invokevirtual 46, 3) := by decide +kernel
theorem dX5_fallAsleep_27 : decode cX5_fallAsleep 27 = .ok (.iconst 1, 1) := by decide +kernel
theorem dX5_fallAsleep_28 : decode cX5_fallAsleep 28 = .ok (.if_icmp .ne 7, 3) := by decide +kernel
theorem dX5_fallAsleep_31 : decode cX5_fallAsleep 31 = .ok (.iconst 1, 1) := by decide +kernel
theorem dX5_fallAsleep_32 : decode cX5_fallAsleep 32 = .ok (.goto 4, 3) := by decide +kernel
theorem dX5_fallAsleep_35 : decode cX5_fallAsleep 35 = .ok (.iconst 0, 1) := by decide +kernel
theorem dX5_fallAsleep_36 : decode cX5_fallAsleep 36 = .ok (.istore_n 2, 1) := by decide +kernel
theorem dX5_fallAsleep_37 : decode cX5_fallAsleep 37 = .ok (.aload_n 0, 1) := by decide +kernel
theorem dX5_fallAsleep_38 : decode cX5_fallAsleep 38 = .ok (.iload_n 1, 1) := by decide +kernel
theorem dX5_fallAsleep_39 : decode cX5_fallAsleep 39 = .ok (.bipush 7, 2) := by decide +kernel
theorem dX5_fallAsleep_41 : decode cX5_fallAsleep 41 = .ok (.iconst 2, 1) := by decide +kernel
theorem dX5_fallAsleep_42 : decode cX5_fallAsleep 42 = .ok (.invokevirtual 68, 3) := by decide +kernel
theorem dX5_fallAsleep_45 : decode cX5_fallAsleep 45 = .ok (.aload_n 0, 1) := by decide +kernel
theorem dX5_fallAsleep_46 : decode cX5_fallAsleep 46 = .ok (.iload_n 1, 1) := by decide +kernel
theorem dX5_fallAsleep_47 : decode cX5_fallAsleep 47 = .ok (.iconst 5, 1) := by decide +kernel
theorem dX5_fallAsleep_48 : decode cX5_fallAsleep 48 = .ok (.iload_n 2, 1) := by decide +kernel
theorem dX5_fallAsleep_49 : decode cX5_fallAsleep 49 = .ok (.ifCond .eq 12, 3) := by decide +kernel
theorem dX5_fallAsleep_52 : decode cX5_fallAsleep 52 = .ok (.aload_n 0, 1) := by decide +kernel
theorem dX5_fallAsleep_53 : decode cX5_fallAsleep 53 = .ok (.iload_n 1, 1) := by decide +kernel
theorem dX5_fallAsleep_54 : decode cX5_fallAsleep 54 = .ok (.iconst 4, 1) := by decide +kernel
theorem dX5_fallAsleep_55 : decode cX5_fallAsleep 55 = .ok (.invokevirtual 46, 3) := by decide +kernel
theorem dX5_fallAsleep_58 : decode cX5_fallAsleep 58 = .ok (.goto 9, 3) := by decide +kernel
theorem dX5_fallAsleep_61 : decode cX5_fallAsleep 61 = .ok (.aload_n 0, 1) := by decide +kernel
theorem dX5_fallAsleep_62 : decode cX5_fallAsleep 62 = .ok (.iload_n 1, 1) := by decide +kernel
theorem dX5_fallAsleep_63 : decode cX5_fallAsleep 63 = .ok (.iconst 5, 1) := by decide +kernel
theorem dX5_fallAsleep_64 : decode cX5_fallAsleep 64 = .ok (.invokevirtual 46, 3) := by decide +kernel
theorem dX5_fallAsleep_67 : decode cX5_fallAsleep 67 = .ok (.invokevirtual 68, 3) := by decide +kernel
theorem dX5_fallAsleep_70 : decode cX5_fallAsleep 70 = .ok (.aload_n 0, 1) := by decide +kernel
theorem dX5_fallAsleep_71 : decode cX5_fallAsleep 71 = .ok (.getfield 7, 3) := by decide +kernel
theorem dX5_fallAsleep_74 : decode cX5_fallAsleep 74 = .ok (.iconst 5, 1) := by decide +kernel
theorem dX5_fallAsleep_75 : decode cX5_fallAsleep 75 = .ok (.dup2, 1) := by decide +kernel
theorem dX5_fallAsleep_76 : decode cX5_fallAsleep 76 = .ok (.iaload, 1) := by decide +kernel
theorem dX5_fallAsleep_77 : decode cX5_fallAsleep 77 = .ok (.iload_n 2, 1) := by decide +kernel
theorem dX5_fallAsleep_78 : decode cX5_fallAsleep 78 = .ok (.ifCond .ne 16, 3) := by decide +kernel
theorem dX5_fallAsleep_81 : decode cX5_fallAsleep 81 = .ok (.aload_n 0, 1) := by decide +kernel
theorem dX5_fallAsleep_82 : decode cX5_fallAsleep 82 = .ok (.iload_n 1, 1) := by decide +kernel
theorem dX5_fallAsleep_83 : decode cX5_fallAsleep 83 = .ok (.iconst 4, 1) := by decide +kernel
theorem dX5_fallAsleep_84 : decode cX5_fallAsleep 84 = .ok (.invokevirtual 46, 3) := by decide +kernel
theorem dX5_fallAsleep_87 : decode cX5_fallAsleep 87 = .ok (.ifCond .le 7, 3) := by decide +kernel
theorem dX5_fallAsleep_90 : decode cX5_fallAsleep 90 = .ok (.iconst 1, 1) := by decide +kernel
theorem dX5_fallAsleep_91 : decode cX5_fallAsleep 91 = .ok (.goto 4, 3) := by decide +kernel
theorem dX5_fallAsleep_94 : decode cX5_fallAsleep 94 = .ok (.iconst 0, 1) := by decide +kernel
theorem dX5_fallAsleep_95 : decode cX5_fallAsleep 95 = .ok (.iadd, 1) := by decide +kernel
theorem dX5_fallAsleep_96 : decode cX5_fallAsleep 96 = .ok (.iastore, 1) := by decide +kernel
theorem dX5_fallAsleep_97 : decode cX5_fallAsleep 97 = .ok (.aload_n 0, 1) := by decide +kernel
theorem dX5_fallAsleep_98 : decode cX5_fallAsleep 98 = .ok (.iload_n 1, 1) := by decide +kernel
theorem dX5_fallAsleep_99 : decode cX5_fallAsleep 99 = .ok (.iconst 4, 1) := by decide +kernel
theorem dX5_fallAsleep_100 : decode cX5_fallAsleep 100 = .ok (.iconst 0, 1) := by decide +kernel
theorem dX5_fallAsleep_101 : decode cX5_fallAsleep 101 = .ok (.invokevirtual 68, 3) := by decide +kernel
theorem dX5_fallAsleep_104 : decode cX5_fallAsleep 104 = .ok (.iinc 1 1, 3) := by decide +kernel
theorem dX5_fallAsleep_107 : decode cX5_fallAsleep 107 = .ok (.goto (-105), 3) := by decide +kernel
theorem dX5_fallAsleep_110 : decode cX5_fallAsleep 110 = .ok (.return_, 1) := by decide +kernel
theorem dX5_riseOn_0 : decode cX5_riseOn 0 = .ok (.iconst 0, 1) := by decide +kernel
theorem dX5_riseOn_1 : decode cX5_riseOn 1 = .ok (.istore_n 1, 1) := by decide +kernel
theorem dX5_riseOn_2 : decode cX5_riseOn 2 = .ok (.iload_n 1, 1) := by decide +kernel
theorem dX5_riseOn_3 : decode cX5_riseOn 3 = .ok (.aload_n 0, 1) := by decide +kernel
theorem dX5_riseOn_4 : decode cX5_riseOn 4 = .ok (.getfield 7, 3) := by decide +kernel
theorem dX5_riseOn_7 : decode cX5_riseOn 7 = .ok (.iconst 2, 1) := by decide +kernel
theorem dX5_riseOn_8 : decode cX5_riseOn 8 = .ok (.iaload, 1) := by decide +kernel
theorem dX5_riseOn_9 : decode cX5_riseOn 9 = .ok (.if_icmp .ge 83, 3) := by decide +kernel
theorem dX5_riseOn_12 : decode cX5_riseOn 12 = .ok (.aload_n 0, 1) := by decide +kernel
theorem dX5_riseOn_13 : decode cX5_riseOn 13 = .ok (.iload_n 1, 1) := by decide +kernel
theorem dX5_riseOn_14 : decode cX5_riseOn 14 = .ok (.iconst 4, 1) := by decide +kernel
theorem dX5_riseOn_15 : decode cX5_riseOn 15 = .ok (.invokevirtual 50, 3) := by decide +kernel
theorem dX5_riseOn_18 : decode cX5_riseOn 18 = .ok (.ifCond .eq 68, 3) := by decide +kernel
theorem dX5_riseOn_21 : decode cX5_riseOn 21 = .ok (.aload_n 0, 1) := by decide +kernel
theorem dX5_riseOn_22 : decode cX5_riseOn 22 = .ok (.iload_n 1, 1) := by decide +kernel
theorem dX5_riseOn_23 : decode cX5_riseOn 23 = .ok (.bipush 8, 2) := by decide +kernel
theorem dX5_riseOn_25 : decode cX5_riseOn 25 = .ok (.aload_n 0, 1) := by decide +kernel
theorem dX5_riseOn_26 : decode cX5_riseOn 26 = .ok (.iload_n 1, 1) := by decide +kernel
theorem dX5_riseOn_27 : decode cX5_riseOn 27 = .ok (.bipush 8, 2) := by decide +kernel
theorem dX5_riseOn_29 : decode cX5_riseOn 29 = .ok (.invokevirtual 46, 3) := by decide +kernel
theorem dX5_riseOn_32 : decode cX5_riseOn 32 = .ok (.iconst 1, 1) := by decide +kernel
theorem dX5_riseOn_33 : decode cX5_riseOn 33 = .ok (.isub, 1) := by decide +kernel
theorem dX5_riseOn_34 : decode cX5_riseOn 34 = .ok (.invokevirtual 68, 3) := by decide +kernel
theorem dX5_riseOn_37 : decode cX5_riseOn 37 = .ok (.aload_n 0, 1) := by decide +kernel
theorem dX5_riseOn_38 : decode cX5_riseOn 38 = .ok (.iload_n 1, 1) := by decide +kernel
theorem dX5_riseOn_39 : decode cX5_riseOn 39 = .ok (.bipush 8, 2) := by decide +kernel
theorem dX5_riseOn_41 : decode cX5_riseOn 41 = .ok (.invokevirtual 46, 3) := by decide +kernel
theorem dX5_riseOn_44 : decode cX5_riseOn 44 = .ok (.ifCond .ne 42, 3) := by decide +kernel
theorem dX5_riseOn_47 : decode cX5_riseOn 47 = .ok (.aload_n 0, 1) := by decide +kernel
theorem dX5_riseOn_48 : decode cX5_riseOn 48 = .ok (.iload_n 1, 1) := by decide +kernel
theorem dX5_riseOn_49 : decode cX5_riseOn 49 = .ok (.bipush 7, 2) := by decide +kernel
theorem dX5_riseOn_51 : decode cX5_riseOn 51 = .ok (.iconst 0, 1) := by decide +kernel
theorem dX5_riseOn_52 : decode cX5_riseOn 52 = .ok (.invokevirtual 68, 3) := by decide +kernel
theorem dX5_riseOn_55 : decode cX5_riseOn 55 = .ok (.aload_n 0, 1) := by decide +kernel
theorem dX5_riseOn_56 : decode cX5_riseOn 56 = .ok (.iload_n 1, 1) := by decide +kernel
theorem dX5_riseOn_57 : decode cX5_riseOn 57 = .ok (.iconst 4, 1) := by decide +kernel
theorem dX5_riseOn_58 : decode cX5_riseOn 58 = .ok (.aload_n 0, 1) := by decide +kernel
theorem dX5_riseOn_59 : decode cX5_riseOn 59 = .ok (.iload_n 1, 1) := by decide +kernel
theorem dX5_riseOn_60 : decode cX5_riseOn 60 = .ok (.iconst 1, 1) := by decide +kernel
theorem dX5_riseOn_61 : decode cX5_riseOn 61 = .ok (.invokevirtual 46, 3) := by decide +kernel
theorem dX5_riseOn_64 : decode cX5_riseOn 64 = .ok (.iconst 1, 1) := by decide +kernel
theorem dX5_riseOn_65 : decode cX5_riseOn 65 = .ok (.if_icmp .ne 12, 3) := by decide +kernel
theorem dX5_riseOn_68 : decode cX5_riseOn 68 = .ok (.aload_n 0, 1) := by decide +kernel
theorem dX5_riseOn_69 : decode cX5_riseOn 69 = .ok (.iload_n 1, 1) := by decide +kernel
theorem dX5_riseOn_70 : decode cX5_riseOn 70 = .ok (.iconst 5, 1) := by decide +kernel
theorem dX5_riseOn_71 : decode cX5_riseOn 71 = .ok (.invokevirtual 46, 3) := by decide +kernel
theorem dX5_riseOn_74 : decode cX5_riseOn 74 = .ok (.goto 9, 3) := by decide +kernel
theorem dX5_riseOn_77 : decode cX5_riseOn 77 = .ok (.aload_n 0, 1) := by decide +kernel
theorem dX5_riseOn_78 : decode cX5_riseOn 78 = .ok (.iload_n 1, 1) := by decide +kernel
theorem dX5_riseOn_79 : decode cX5_riseOn 79 = .ok (.iconst 4, 1) := by decide +kernel
theorem dX5_riseOn_80 : decode cX5_riseOn 80 = .ok (.invokevirtual 46, 3) := by decide +kernel
theorem dX5_riseOn_83 : decode cX5_riseOn 83 = .ok (.invokevirtual 68, 3) := by decide +kernel
theorem dX5_riseOn_86 : decode cX5_riseOn 86 = .ok (.iinc 1 1, 3) := by decide +kernel
theorem dX5_riseOn_89 : decode cX5_riseOn 89 = .ok (.goto (-87), 3) := by decide +kernel
theorem dX5_riseOn_92 : decode cX5_riseOn 92 = .ok (.return_, 1) := by decide +kernel
theorem dX5_ask_0 : decode cX5_ask 0 = .ok (.iconst 0, 1) := by decide +kernel
theorem dX5_ask_1 : decode cX5_ask 1 = .ok (.istore_n 1, 1) := by decide +kernel
theorem dX5_ask_2 : decode cX5_ask 2 = .ok (.iload_n 1, 1) := by decide +kernel
theorem dX5_ask_3 : decode cX5_ask 3 = .ok (.aload_n 0, 1) := by decide +kernel
theorem dX5_ask_4 : decode cX5_ask 4 = .ok (.getfield 7, 3) := by decide +kernel
theorem dX5_ask_7 : decode cX5_ask 7 = .ok (.iconst 2, 1) := by decide +kernel
theorem dX5_ask_8 : decode cX5_ask 8 = .ok (.iaload, 1) := by decide +kernel
theorem dX5_ask_9 : decode cX5_ask 9 = .ok (.if_icmp .ge 41, 3) := by decide +kernel
theorem dX5_ask_12 : decode cX5_ask 12 = .ok (.aload_n 0, 1) := by decide +kernel
theorem dX5_ask_13 : decode cX5_ask 13 = .ok (.getfield 7, 3) := by decide +kernel
theorem dX5_ask_16 : decode cX5_ask 16 = .ok (.iconst 1, 1) := by decide +kernel
theorem dX5_ask_17 : decode cX5_ask 17 = .ok (.iaload, 1) := by decide +kernel
theorem dX5_ask_18 : decode cX5_ask 18 = .ok (.iconst 1, 1) := by decide +kernel
theorem dX5_ask_19 : decode cX5_ask 19 = .ok (.if_icmp .ne 31, 3) := by decide +kernel
theorem dX5_ask_22 : decode cX5_ask 22 = .ok (.aload_n 0, 1) := by decide +kernel
theorem dX5_ask_23 : decode cX5_ask 23 = .ok (.iload_n 1, 1) := by decide +kernel
theorem dX5_ask_24 : decode cX5_ask 24 = .ok (.iconst 2, 1) := by decide +kernel
theorem dX5_ask_25 : decode cX5_ask 25 = .ok (.invokevirtual 50, 3) := by decide +kernel
theorem dX5_ask_28 : decode cX5_ask 28 = .ok (.ifCond .eq 16, 3) := by decide +kernel
theorem dX5_ask_31 : decode cX5_ask 31 = .ok (.aload_n 0, 1) := by decide +kernel
theorem dX5_ask_32 : decode cX5_ask 32 = .ok (.iload_n 1, 1) := by decide +kernel
theorem dX5_ask_33 : decode cX5_ask 33 = .ok (.invokevirtual 75, 3) := by decide +kernel
theorem dX5_ask_36 : decode cX5_ask 36 = .ok (.ifCond .eq 8, 3) := by decide +kernel
theorem dX5_ask_39 : decode cX5_ask 39 = .ok (.aload_n 0, 1) := by decide +kernel
theorem dX5_ask_40 : decode cX5_ask 40 = .ok (.iload_n 1, 1) := by decide +kernel
theorem dX5_ask_41 : decode cX5_ask 41 = .ok (.invokevirtual 78, 3) := by decide +kernel
theorem dX5_ask_44 : decode cX5_ask 44 = .ok (.iinc 1 1, 3) := by decide +kernel
theorem dX5_ask_47 : decode cX5_ask 47 = .ok (.goto (-45), 3) := by decide +kernel
theorem dX5_ask_50 : decode cX5_ask 50 = .ok (.return_, 1) := by decide +kernel
theorem dX5_letRise_0 : decode cX5_letRise 0 = .ok (.iconst 0, 1) := by decide +kernel
theorem dX5_letRise_1 : decode cX5_letRise 1 = .ok (.istore_n 1, 1) := by decide +kernel
theorem dX5_letRise_2 : decode cX5_letRise 2 = .ok (.iconst 0, 1) := by decide +kernel
theorem dX5_letRise_3 : decode cX5_letRise 3 = .ok (.istore_n 2, 1) := by decide +kernel
theorem dX5_letRise_4 : decode cX5_letRise 4 = .ok (.iload_n 2, 1) := by decide +kernel
theorem dX5_letRise_5 : decode cX5_letRise 5 = .ok (.aload_n 0, 1) := by decide +kernel
theorem dX5_letRise_6 : decode cX5_letRise 6 = .ok (.getfield 7, 3) := by decide +kernel
theorem dX5_letRise_9 : decode cX5_letRise 9 = .ok (.bipush 7, 2) := by decide +kernel
theorem dX5_letRise_11 : decode cX5_letRise 11 = .ok (.iaload, 1) := by decide +kernel
theorem dX5_letRise_12 : decode cX5_letRise 12 = .ok (.if_icmp .ge 85, 3) := by decide +kernel
theorem dX5_letRise_15 : decode cX5_letRise 15 = .ok (.aload_n 0, 1) := by decide +kernel
theorem dX5_letRise_16 : decode cX5_letRise 16 = .ok (.getfield 7, 3) := by decide +kernel
theorem dX5_letRise_19 : decode cX5_letRise 19 = .ok (.bipush 8, 2) := by decide +kernel
theorem dX5_letRise_21 : decode cX5_letRise 21 = .ok (.iload_n 2, 1) := by decide +kernel
theorem dX5_letRise_22 : decode cX5_letRise 22 = .ok (.iadd, 1) := by decide +kernel
theorem dX5_letRise_23 : decode cX5_letRise 23 = .ok (.iaload, 1) := by decide +kernel
theorem dX5_letRise_24 : decode cX5_letRise 24 = .ok (.istore_n 3, 1) := by decide +kernel
theorem dX5_letRise_25 : decode cX5_letRise 25 = .ok (.aload_n 0, 1) := by decide +kernel
theorem dX5_letRise_26 : decode cX5_letRise 26 = .ok (.invokevirtual 82, 3) := by decide +kernel
theorem dX5_letRise_29 : decode cX5_letRise 29 = .ok (.istore 4, 2) := by decide +kernel
theorem dX5_letRise_31 : decode cX5_letRise 31 = .ok (.iload 4, 2) := by decide +kernel
theorem dX5_letRise_33 : decode cX5_letRise 33 = .ok (.ifCond .eq 21, 3) := by decide +kernel
theorem dX5_letRise_36 : decode cX5_letRise 36 = .ok (.iload 4, 2) := by decide +kernel
theorem dX5_letRise_38 : decode cX5_letRise 38 = .ok (.aload_n 0, 1) := by decide +kernel
theorem dX5_letRise_39 : decode cX5_letRise 39 = .ok (.iload_n 3, 1) := by decide +kernel
theorem dX5_letRise_40 : decode cX5_letRise 40 = .ok (.iconst 3, 1) := by decide +kernel
theorem dX5_letRise_41 : decode cX5_letRise 41 = .ok (.invokevirtual 46, 3) := by decide +kernel
theorem dX5_letRise_44 : decode cX5_letRise 44 = .ok (.iadd, 1) := by decide +kernel
theorem dX5_letRise_45 : decode cX5_letRise 45 = .ok (.aload_n 0, 1) := by decide +kernel
theorem dX5_letRise_46 : decode cX5_letRise 46 = .ok (.getfield 7, 3) := by decide +kernel
theorem dX5_letRise_49 : decode cX5_letRise 49 = .ok (.iconst 0, 1) := by decide +kernel
theorem dX5_letRise_50 : decode cX5_letRise 50 = .ok (.iaload, 1) := by decide +kernel
theorem dX5_letRise_51 : decode cX5_letRise 51 = .ok (.if_icmp .gt 27, 3) := by decide +kernel
theorem dX5_letRise_54 : decode cX5_letRise 54 = .ok (.aload_n 0, 1) := by decide +kernel
theorem dX5_letRise_55 : decode cX5_letRise 55 = .ok (.iload_n 3, 1) := by decide +kernel
theorem dX5_letRise_56 : decode cX5_letRise 56 = .ok (.bipush 7, 2) := by decide +kernel
theorem dX5_letRise_58 : decode cX5_letRise 58 = .ok (.iconst 4, 1) := by decide +kernel
theorem dX5_letRise_59 : decode cX5_letRise 59 = .ok (.invokevirtual 68, 3) := by decide +kernel
theorem dX5_letRise_62 : decode cX5_letRise 62 = .ok (.aload_n 0, 1) := by decide +kernel
theorem dX5_letRise_63 : decode cX5_letRise 63 = .ok (.iload_n 3, 1) := by decide +kernel
theorem dX5_letRise_64 : decode cX5_letRise 64 = .ok (.bipush 8, 2) := by decide +kernel
theorem dX5_letRise_66 : decode cX5_letRise 66 = .ok (.aload_n 0, 1) := by decide +kernel
theorem dX5_letRise_67 : decode cX5_letRise 67 = .ok (.iload_n 3, 1) := by decide +kernel
theorem dX5_letRise_68 : decode cX5_letRise 68 = .ok (.iconst 2, 1) := by decide +kernel
theorem dX5_letRise_69 : decode cX5_letRise 69 = .ok (.invokevirtual 46, 3) := by decide +kernel
theorem dX5_letRise_72 : decode cX5_letRise 72 = .ok (.invokevirtual 68, 3) := by decide +kernel
theorem dX5_letRise_75 : decode cX5_letRise 75 = .ok (.goto 16, 3) := by decide +kernel
theorem dX5_letRise_78 : decode cX5_letRise 78 = .ok (.aload_n 0, 1) := by decide +kernel
theorem dX5_letRise_79 : decode cX5_letRise 79 = .ok (.getfield 7, 3) := by decide +kernel
theorem dX5_letRise_82 : decode cX5_letRise 82 = .ok (.bipush 8, 2) := by decide +kernel
theorem dX5_letRise_84 : decode cX5_letRise 84 = .ok (.iload_n 1, 1) := by decide +kernel
theorem dX5_letRise_85 : decode cX5_letRise 85 = .ok (.iadd, 1) := by decide +kernel
theorem dX5_letRise_86 : decode cX5_letRise 86 = .ok (.iload_n 3, 1) := by decide +kernel
theorem dX5_letRise_87 : decode cX5_letRise 87 = .ok (.iastore, 1) := by decide +kernel
theorem dX5_letRise_88 : decode cX5_letRise 88 = .ok (.iinc 1 1, 3) := by decide +kernel
theorem dX5_letRise_91 : decode cX5_letRise 91 = .ok (.iinc 2 1, 3) := by decide +kernel
theorem dX5_letRise_94 : decode cX5_letRise 94 = .ok (.goto (-90), 3) := by decide +kernel
theorem dX5_letRise_97 : decode cX5_letRise 97 = .ok (.aload_n 0, 1) := by decide +kernel
theorem dX5_letRise_98 : decode cX5_letRise 98 = .ok (.getfield 7, 3) := by decide +kernel
theorem dX5_letRise_101 : decode cX5_letRise 101 = .ok (.bipush 7, 2) := by decide +kernel
theorem dX5_letRise_103 : decode cX5_letRise 103 = .ok (.iload_n 1, 1) := by decide +kernel
theorem dX5_letRise_104 : decode cX5_letRise 104 = .ok (.iastore, 1) := by decide +kernel
theorem dX5_letRise_105 : decode cX5_letRise 105 = .ok (.return_, 1) := by decide +kernel
theorem dX5_tick_0 : decode cX5_tick 0 = .ok (.aload_n 0, 1) := by decide +kernel
theorem dX5_tick_1 : decode cX5_tick 1 = .ok (.invokevirtual 86, 3) := by decide +kernel
theorem dX5_tick_4 : decode cX5_tick 4 = .ok (.aload_n 0, 1) := by decide +kernel
theorem dX5_tick_5 : decode cX5_tick 5 = .ok (.invokevirtual 89, 3) := by decide +kernel
theorem dX5_tick_8 : decode cX5_tick 8 = .ok (.aload_n 0, 1) := by decide +kernel
theorem dX5_tick_9 : decode cX5_tick 9 = .ok (.invokevirtual 92, 3) := by decide +kernel
theorem dX5_tick_12 : decode cX5_tick 12 = .ok (.aload_n 0, 1) := by decide +kernel
theorem dX5_tick_13 : decode cX5_tick 13 = .ok (.invokevirtual 95, 3) := by decide +kernel
theorem dX5_tick_16 : decode cX5_tick 16 = .ok (.aload_n 0, 1) := by decide +kernel
theorem dX5_tick_17 : decode cX5_tick 17 = .ok (.invokevirtual 98, 3) := by decide +kernel
theorem dX5_tick_20 : decode cX5_tick 20 = .ok (.aload_n 0, 1) := by decide +kernel
theorem dX5_tick_21 : decode cX5_tick 21 = .ok (.getfield 7, 3) := by decide +kernel
theorem dX5_tick_24 : decode cX5_tick 24 = .ok (.iconst 3, 1) := by decide +kernel
theorem dX5_tick_25 : decode cX5_tick 25 = .ok (.dup2, 1) := by decide +kernel
theorem dX5_tick_26 : decode cX5_tick 26 = .ok (.iaload, 1) := by decide +kernel
theorem dX5_tick_27 : decode cX5_tick 27 = .ok (.iconst 1, 1) := by decide +kernel
theorem dX5_tick_28 : decode cX5_tick 28 = .ok (.iadd, 1) := by decide +kernel
theorem dX5_tick_29 : decode cX5_tick 29 = .ok (.iastore, 1) := by decide +kernel
theorem dX5_tick_30 : decode cX5_tick 30 = .ok (.aload_n 0, 1) := by decide +kernel
theorem dX5_tick_31 : decode cX5_tick 31 = .ok (.getfield 7, 3) := by decide +kernel
theorem dX5_tick_34 : decode cX5_tick 34 = .ok (.bipush 6, 2) := by decide +kernel
theorem dX5_tick_36 : decode cX5_tick 36 = .ok (.aload_n 0, 1) := by decide +kernel
theorem dX5_tick_37 : decode cX5_tick 37 = .ok (.invokevirtual 82, 3) := by decide +kernel
theorem dX5_tick_40 : decode cX5_tick 40 = .ok (.aload_n 0, 1) := by decide +kernel
theorem dX5_tick_41 : decode cX5_tick 41 = .ok (.getfield 7, 3) := by decide +kernel
theorem dX5_tick_44 : decode cX5_tick 44 = .ok (.bipush 6, 2) := by decide +kernel
theorem dX5_tick_46 : decode cX5_tick 46 = .ok (.iaload, 1) := by decide +kernel
theorem dX5_tick_47 : decode cX5_tick 47 = .ok (.if_icmp .le 10, 3) := by decide +kernel
theorem dX5_tick_50 : decode cX5_tick 50 = .ok (.aload_n 0, 1) := by decide +kernel
theorem dX5_tick_51 : decode cX5_tick 51 = .ok (.invokevirtual 82, 3) := by decide +kernel
theorem dX5_tick_54 : decode cX5_tick 54 = .ok (.goto 10, 3) := by decide +kernel
theorem dX5_tick_57 : decode cX5_tick 57 = .ok (.aload_n 0, 1) := by decide +kernel
theorem dX5_tick_58 : decode cX5_tick 58 = .ok (.getfield 7, 3) := by decide +kernel
theorem dX5_tick_61 : decode cX5_tick 61 = .ok (.bipush 6, 2) := by decide +kernel
theorem dX5_tick_63 : decode cX5_tick 63 = .ok (.iaload, 1) := by decide +kernel
theorem dX5_tick_64 : decode cX5_tick 64 = .ok (.iastore, 1) := by decide +kernel
theorem dX5_tick_65 : decode cX5_tick 65 = .ok (.return_, 1) := by decide +kernel
theorem dX5_passes_0 : decode cX5_passes 0 = .ok (.aload_n 0, 1) := by decide +kernel
theorem dX5_passes_1 : decode cX5_passes 1 = .ok (.getfield 7, 3) := by decide +kernel
theorem dX5_passes_4 : decode cX5_passes 4 = .ok (.iconst 4, 1) := by decide +kernel
theorem dX5_passes_5 : decode cX5_passes 5 = .ok (.iaload, 1) := by decide +kernel
theorem dX5_passes_6 : decode cX5_passes 6 = .ok (.istore_n 2, 1) := by decide +kernel
theorem dX5_passes_7 : decode cX5_passes 7 = .ok (.iconst 0, 1) := by decide +kernel
theorem dX5_passes_8 : decode cX5_passes 8 = .ok (.istore_n 3, 1) := by decide +kernel
theorem dX5_passes_9 : decode cX5_passes 9 = .ok (.iload_n 3, 1) := by decide +kernel
theorem dX5_passes_10 : decode cX5_passes 10 = .ok (.iload_n 1, 1) := by decide +kernel
theorem dX5_passes_11 : decode cX5_passes 11 = .ok (.if_icmp .ge 13, 3) := by decide +kernel
theorem dX5_passes_14 : decode cX5_passes 14 = .ok (.aload_n 0, 1) := by decide +kernel
theorem dX5_passes_15 : decode cX5_passes 15 = .ok (.invokevirtual 101, 3) := by decide +kernel
theorem dX5_passes_18 : decode cX5_passes 18 = .ok (.iinc 3 1, 3) := by decide +kernel
theorem dX5_passes_21 : decode cX5_passes 21 = .ok (.goto (-12), 3) := by decide +kernel
theorem dX5_passes_24 : decode cX5_passes 24 = .ok (.aload_n 0, 1) := by decide +kernel
theorem dX5_passes_25 : decode cX5_passes 25 = .ok (.getfield 7, 3) := by decide +kernel
theorem dX5_passes_28 : decode cX5_passes 28 = .ok (.iconst 4, 1) := by decide +kernel
theorem dX5_passes_29 : decode cX5_passes 29 = .ok (.iaload, 1) := by decide +kernel
theorem dX5_passes_30 : decode cX5_passes 30 = .ok (.iload_n 2, 1) := by decide +kernel
theorem dX5_passes_31 : decode cX5_passes 31 = .ok (.isub, 1) := by decide +kernel
theorem dX5_passes_32 : decode cX5_passes 32 = .ok (.ireturn, 1) := by decide +kernel
theorem dX5_isValue_0 : decode cX5_isValue 0 = .ok (.iload_n 0, 1) := by decide +kernel
theorem dX5_isValue_1 : decode cX5_isValue 1 = .ok (.ifCond .ne 13, 3) := by decide +kernel
theorem dX5_isValue_4 : decode cX5_isValue 4 = .ok (.iload_n 1, 1) := by decide +kernel
theorem dX5_isValue_5 : decode cX5_isValue 5 = .ok (.iconst 1, 1) := by decide +kernel
theorem dX5_isValue_6 : decode cX5_isValue 6 = .ok (.bipush 60, 2) := by decide +kernel
theorem dX5_isValue_8 : decode cX5_isValue 8 = .ok (.invokestatic 42, 3) := by decide +kernel
theorem dX5_isValue_11 : decode cX5_isValue 11 = .ok (.goto 22, 3) := by decide +kernel
theorem dX5_isValue_14 : decode cX5_isValue 14 = .ok (.iload_n 0, 1) := by decide +kernel
theorem dX5_isValue_15 : decode cX5_isValue 15 = .ok (.iconst 1, 1) := by decide +kernel
theorem dX5_isValue_16 : decode cX5_isValue 16 = .ok (.if_icmp .ne 16, 3) := by decide +kernel
theorem dX5_isValue_19 : decode cX5_isValue 19 = .ok (.iload_n 1, 1) := by decide +kernel
theorem dX5_isValue_20 : decode cX5_isValue 20 = .ok (.iconst 0, 1) := by decide +kernel
theorem dX5_isValue_21 : decode cX5_isValue 21 = .ok (.iconst 1, 1) := by decide +kernel
theorem dX5_isValue_22 : decode cX5_isValue 22 = .ok (.invokestatic 42, 3) := by decide +kernel
theorem dX5_isValue_25 : decode cX5_isValue 25 = .ok (.ifCond .eq 7, 3) := by decide +kernel
theorem dX5_isValue_28 : decode cX5_isValue 28 = .ok (.iconst 1, 1) := by decide +kernel
theorem dX5_isValue_29 : decode cX5_isValue 29 = .ok (.goto 4, 3) := by decide +kernel
theorem dX5_isValue_32 : decode cX5_isValue 32 = .ok (.iconst 0, 1) := by decide +kernel
theorem dX5_isValue_33 : decode cX5_isValue 33 = .ok (.ireturn, 1) := by decide +kernel
theorem dX5_set_0 : decode cX5_set 0 = .ok (.iload_n 1, 1) := by decide +kernel
theorem dX5_set_1 : decode cX5_set 1 = .ok (.iload_n 2, 1) := by decide +kernel
theorem dX5_set_2 : decode cX5_set 2 = .ok (.invokestatic 104, 3) := by decide +kernel
theorem dX5_set_5 : decode cX5_set 5 = .ok (.ifCond .ne 6, 3) := by decide +kernel
theorem dX5_set_8 : decode cX5_set 8 = .ok (.bipush (-2), 2) := by decide +kernel
theorem dX5_set_10 : decode cX5_set 10 = .ok (.ireturn, 1) := by decide +kernel
theorem dX5_set_11 : decode cX5_set 11 = .ok (.aload_n 0, 1) := by decide +kernel
theorem dX5_set_12 : decode cX5_set 12 = .ok (.invokevirtual 107, 3) := by decide +kernel
theorem dX5_set_15 : decode cX5_set 15 = .ok (.aload_n 0, 1) := by decide +kernel
theorem dX5_set_16 : decode cX5_set 16 = .ok (.getfield 7, 3) := by decide +kernel
theorem dX5_set_19 : decode cX5_set 19 = .ok (.iload_n 1, 1) := by decide +kernel
theorem dX5_set_20 : decode cX5_set 20 = .ok (.iaload, 1) := by decide +kernel
theorem dX5_set_21 : decode cX5_set 21 = .ok (.istore_n 3, 1) := by decide +kernel
theorem dX5_set_22 : decode cX5_set 22 = .ok (.aload_n 0, 1) := by decide +kernel
theorem dX5_set_23 : decode cX5_set 23 = .ok (.getfield 7, 3) := by decide +kernel
theorem dX5_set_26 : decode cX5_set 26 = .ok (.iload_n 1, 1) := by decide +kernel
theorem dX5_set_27 : decode cX5_set 27 = .ok (.iload_n 2, 1) := by decide +kernel
theorem dX5_set_28 : decode cX5_set 28 = .ok (.iastore, 1) := by decide +kernel
theorem dX5_set_29 : decode cX5_set 29 = .ok (.iload_n 3, 1) := by decide +kernel
theorem dX5_set_30 : decode cX5_set 30 = .ok (.ireturn, 1) := by decide +kernel
theorem dX5_comes_0 : decode cX5_comes 0 = .ok (.aload_n 0, 1) := by decide +kernel
theorem dX5_comes_1 : decode cX5_comes 1 = .ok (.getfield 7, 3) := by decide +kernel
theorem dX5_comes_4 : decode cX5_comes 4 = .ok (.iconst 2, 1) := by decide +kernel
theorem dX5_comes_5 : decode cX5_comes 5 = .ok (.iaload, 1) := by decide +kernel
theorem dX5_comes_6 : decode cX5_comes 6 = .ok (.istore 6, 2) := by decide +kernel
theorem dX5_comes_8 : decode cX5_comes 8 = .ok (.iconst 0, 1) := by decide +kernel
theorem dX5_comes_9 : decode cX5_comes 9 = .ok (.istore 7, 2) := by decide +kernel
theorem dX5_comes_11 : decode cX5_comes 11 = .ok (.iload 7, 2) := by decide +kernel
theorem dX5_comes_13 : decode cX5_comes 13 = .ok (.bipush 10, 2) := by decide +kernel
theorem dX5_comes_15 : decode cX5_comes 15 = .ok (.if_icmp .ge 18, 3) := by decide +kernel
theorem dX5_comes_18 : decode cX5_comes 18 = .ok (.aload_n 0, 1) := by decide +kernel
theorem dX5_comes_19 : decode cX5_comes 19 = .ok (.iload 6, 2) := by decide +kernel
theorem dX5_comes_21 : decode cX5_comes 21 = .ok (.iload 7, 2) := by decide +kernel
theorem dX5_comes_23 : decode cX5_comes 23 = .ok (.iconst 0, 1) := by decide +kernel
theorem dX5_comes_24 : decode cX5_comes 24 = .ok (.invokevirtual 68, 3) := by decide +kernel
theorem dX5_comes_27 : decode cX5_comes 27 = .ok (.iinc 7 1, 3) := by decide +kernel
theorem dX5_comes_30 : decode cX5_comes 30 = .ok (.goto (-19), 3) := by decide +kernel
theorem dX5_comes_33 : decode cX5_comes 33 = .ok (.aload_n 0, 1) := by decide +kernel
theorem dX5_comes_34 : decode cX5_comes 34 = .ok (.iload 6, 2) := by decide +kernel
theorem dX5_comes_36 : decode cX5_comes 36 = .ok (.iconst 0, 1) := by decide +kernel
theorem dX5_comes_37 : decode cX5_comes 37 = .ok (.iload_n 1, 1) := by decide +kernel
theorem dX5_comes_38 : decode cX5_comes 38 = .ok (.invokevirtual 68, 3) := by decide +kernel
theorem dX5_comes_41 : decode cX5_comes 41 = .ok (.aload_n 0, 1) := by decide +kernel
theorem dX5_comes_42 : decode cX5_comes 42 = .ok (.iload 6, 2) := by decide +kernel
theorem dX5_comes_44 : decode cX5_comes 44 = .ok (.iconst 1, 1) := by decide +kernel
theorem dX5_comes_45 : decode cX5_comes 45 = .ok (.iload_n 2, 1) := by decide +kernel
theorem dX5_comes_46 : decode cX5_comes 46 = .ok (.invokevirtual 68, 3) := by decide +kernel
theorem dX5_comes_49 : decode cX5_comes 49 = .ok (.aload_n 0, 1) := by decide +kernel
theorem dX5_comes_50 : decode cX5_comes 50 = .ok (.iload 6, 2) := by decide +kernel
theorem dX5_comes_52 : decode cX5_comes 52 = .ok (.iconst 2, 1) := by decide +kernel
theorem dX5_comes_53 : decode cX5_comes 53 = .ok (.iload_n 3, 1) := by decide +kernel
theorem dX5_comes_54 : decode cX5_comes 54 = .ok (.invokevirtual 68, 3) := by decide +kernel
theorem dX5_comes_57 : decode cX5_comes 57 = .ok (.aload_n 0, 1) := by decide +kernel
theorem dX5_comes_58 : decode cX5_comes 58 = .ok (.iload 6, 2) := by decide +kernel
theorem dX5_comes_60 : decode cX5_comes 60 = .ok (.iconst 3, 1) := by decide +kernel
theorem dX5_comes_61 : decode cX5_comes 61 = .ok (.iload 4, 2) := by decide +kernel
theorem dX5_comes_63 : decode cX5_comes 63 = .ok (.invokevirtual 68, 3) := by decide +kernel
theorem dX5_comes_66 : decode cX5_comes 66 = .ok (.aload_n 0, 1) := by decide +kernel
theorem dX5_comes_67 : decode cX5_comes 67 = .ok (.iload 6, 2) := by decide +kernel
theorem dX5_comes_69 : decode cX5_comes 69 = .ok (.bipush 6, 2) := by decide +kernel
theorem dX5_comes_71 : decode cX5_comes 71 = .ok (.iload 5, 2) := by decide +kernel
theorem dX5_comes_73 : decode cX5_comes 73 = .ok (.invokevirtual 68, 3) := by decide +kernel
theorem dX5_comes_76 : decode cX5_comes 76 = .ok (.aload_n 0, 1) := by decide +kernel
theorem dX5_comes_77 : decode cX5_comes 77 = .ok (.getfield 7, 3) := by decide +kernel
theorem dX5_comes_80 : decode cX5_comes 80 = .ok (.iconst 2, 1) := by decide +kernel
theorem dX5_comes_81 : decode cX5_comes 81 = .ok (.dup2, 1) := by decide +kernel
theorem dX5_comes_82 : decode cX5_comes 82 = .ok (.iaload, 1) := by decide +kernel
theorem dX5_comes_83 : decode cX5_comes 83 = .ok (.iconst 1, 1) := by decide +kernel
theorem dX5_comes_84 : decode cX5_comes 84 = .ok (.iadd, 1) := by decide +kernel
theorem dX5_comes_85 : decode cX5_comes 85 = .ok (.iastore, 1) := by decide +kernel
theorem dX5_comes_86 : decode cX5_comes 86 = .ok (.return_, 1) := by decide +kernel
theorem dX5_build_0 : decode cX5_build 0 = .ok (.iload_n 3, 1) := by decide +kernel
theorem dX5_build_1 : decode cX5_build 1 = .ok (.iconst 1, 1) := by decide +kernel
theorem dX5_build_2 : decode cX5_build 2 = .ok (.bipush 9, 2) := by decide +kernel
theorem dX5_build_4 : decode cX5_build 4 = .ok (.invokestatic 42, 3) := by decide +kernel
theorem dX5_build_7 : decode cX5_build 7 = .ok (.ifCond .eq 14, 3) := by decide +kernel
theorem dX5_build_10 : decode cX5_build 10 = .ok (.iload 4, 2) := by decide +kernel
theorem dX5_build_12 : decode cX5_build 12 = .ok (.iconst 1, 1) := by decide +kernel
theorem dX5_build_13 : decode cX5_build 13 = .ok (.bipush 20, 2) := by decide +kernel
theorem dX5_build_15 : decode cX5_build 15 = .ok (.invokestatic 42, 3) := by decide +kernel
theorem dX5_build_18 : decode cX5_build 18 = .ok (.ifCond .ne 6, 3) := by decide +kernel
theorem dX5_build_21 : decode cX5_build 21 = .ok (.bipush (-2), 2) := by decide +kernel
theorem dX5_build_23 : decode cX5_build 23 = .ok (.ireturn, 1) := by decide +kernel
theorem dX5_build_24 : decode cX5_build 24 = .ok (.aload_n 0, 1) := by decide +kernel
theorem dX5_build_25 : decode cX5_build 25 = .ok (.getfield 7, 3) := by decide +kernel
theorem dX5_build_28 : decode cX5_build 28 = .ok (.iconst 2, 1) := by decide +kernel
theorem dX5_build_29 : decode cX5_build 29 = .ok (.iaload, 1) := by decide +kernel
theorem dX5_build_30 : decode cX5_build 30 = .ok (.bipush 8, 2) := by decide +kernel
theorem dX5_build_32 : decode cX5_build 32 = .ok (.if_icmp .ne 6, 3) := by decide +kernel
theorem dX5_build_35 : decode cX5_build 35 = .ok (.bipush (-4), 2) := by decide +kernel
theorem dX5_build_37 : decode cX5_build 37 = .ok (.ireturn, 1) := by decide +kernel
theorem dX5_build_38 : decode cX5_build 38 = .ok (.aload_n 0, 1) := by decide +kernel
theorem dX5_build_39 : decode cX5_build 39 = .ok (.invokevirtual 107, 3) := by decide +kernel
theorem dX5_build_42 : decode cX5_build 42 = .ok (.aload_n 0, 1) := by decide +kernel
theorem dX5_build_43 : decode cX5_build 43 = .ok (.iload_n 1, 1) := by decide +kernel
theorem dX5_build_44 : decode cX5_build 44 = .ok (.ifCond .eq 7, 3) := by decide +kernel
theorem dX5_build_47 : decode cX5_build 47 = .ok (.iconst 1, 1) := by decide +kernel
theorem dX5_build_48 : decode cX5_build 48 = .ok (.goto 4, 3) := by decide +kernel
theorem dX5_build_51 : decode cX5_build 51 = .ok (.iconst 0, 1) := by decide +kernel
theorem dX5_build_52 : decode cX5_build 52 = .ok (.iload_n 2, 1) := by decide +kernel
theorem dX5_build_53 : decode cX5_build 53 = .ok (.ifCond .eq 7, 3) := by decide +kernel
theorem dX5_build_56 : decode cX5_build 56 = .ok (.iconst 1, 1) := by decide +kernel
theorem dX5_build_57 : decode cX5_build 57 = .ok (.goto 4, 3) := by decide +kernel
theorem dX5_build_60 : decode cX5_build 60 = .ok (.iconst 0, 1) := by decide +kernel
theorem dX5_build_61 : decode cX5_build 61 = .ok (.iload_n 3, 1) := by decide +kernel
theorem dX5_build_62 : decode cX5_build 62 = .ok (.iload 4, 2) := by decide +kernel
theorem dX5_build_64 : decode cX5_build 64 = .ok (.iconst 0, 1) := by decide +kernel
theorem dX5_build_65 : decode cX5_build 65 = .ok (.invokevirtual 110, 3) := by decide +kernel
theorem dX5_build_68 : decode cX5_build 68 = .ok (.aload_n 0, 1) := by decide +kernel
theorem dX5_build_69 : decode cX5_build 69 = .ok (.getfield 7, 3) := by decide +kernel
theorem dX5_build_72 : decode cX5_build 72 = .ok (.iconst 2, 1) := by decide +kernel
theorem dX5_build_73 : decode cX5_build 73 = .ok (.iaload, 1) := by decide +kernel
theorem dX5_build_74 : decode cX5_build 74 = .ok (.iconst 1, 1) := by decide +kernel
theorem dX5_build_75 : decode cX5_build 75 = .ok (.isub, 1) := by decide +kernel
theorem dX5_build_76 : decode cX5_build 76 = .ok (.ireturn, 1) := by decide +kernel
theorem dX5_toldMany_0 : decode cX5_toldMany 0 = .ok (.iconst 0, 1) := by decide +kernel
theorem dX5_toldMany_1 : decode cX5_toldMany 1 = .ok (.istore_n 1, 1) := by decide +kernel
theorem dX5_toldMany_2 : decode cX5_toldMany 2 = .ok (.iconst 0, 1) := by decide +kernel
theorem dX5_toldMany_3 : decode cX5_toldMany 3 = .ok (.istore_n 2, 1) := by decide +kernel
theorem dX5_toldMany_4 : decode cX5_toldMany 4 = .ok (.aload_n 0, 1) := by decide +kernel
theorem dX5_toldMany_5 : decode cX5_toldMany 5 = .ok (.iconst 0, 1) := by decide +kernel
theorem dX5_toldMany_6 : decode cX5_toldMany 6 = .ok (.putfield 114, 3) := by decide +kernel
theorem dX5_toldMany_9 : decode cX5_toldMany 9 = .ok (.aload_n 0, 1) := by decide +kernel
theorem dX5_toldMany_10 : decode cX5_toldMany 10 = .ok (.getfield 114, 3) := by decide +kernel
theorem dX5_toldMany_13 : decode cX5_toldMany 13 = .ok (.aload_n 0, 1) := by decide +kernel
theorem dX5_toldMany_14 : decode cX5_toldMany 14 = .ok (.getfield 117, 3) := by decide +kernel
theorem dX5_toldMany_17 : decode cX5_toldMany 17 = .ok (.if_icmp .ge 29, 3) := by decide +kernel
theorem dX5_toldMany_20 : decode cX5_toldMany 20 = .ok (.aload_n 0, 1) := by decide +kernel
theorem dX5_toldMany_21 : decode cX5_toldMany 21 = .ok (.iload_n 1, 1) := by decide +kernel
theorem dX5_toldMany_22 : decode cX5_toldMany 22 = .ok (.invokevirtual 120, 3) := by decide +kernel
theorem dX5_toldMany_25 : decode cX5_toldMany 25 = .ok (.pop, 1) := by decide +kernel
theorem dX5_toldMany_26 : decode cX5_toldMany 26 = .ok (.aload_n 0, 1) := by decide +kernel
theorem dX5_toldMany_27 : decode cX5_toldMany 27 = .ok (.bipush 59, 2) := by decide +kernel
theorem dX5_toldMany_29 : decode cX5_toldMany 29 = .ok (.invokevirtual 123, 3) := by decide +kernel
theorem dX5_toldMany_32 : decode cX5_toldMany 32 = .ok (.pop, 1) := by decide +kernel
theorem dX5_toldMany_33 : decode cX5_toldMany 33 = .ok (.iload_n 2, 1) := by decide +kernel
theorem dX5_toldMany_34 : decode cX5_toldMany 34 = .ok (.aload_n 0, 1) := by decide +kernel
theorem dX5_toldMany_35 : decode cX5_toldMany 35 = .ok (.getfield 126, 3) := by decide +kernel
theorem dX5_toldMany_38 : decode cX5_toldMany 38 = .ok (.ior, 1) := by decide +kernel
theorem dX5_toldMany_39 : decode cX5_toldMany 39 = .ok (.istore_n 2, 1) := by decide +kernel
theorem dX5_toldMany_40 : decode cX5_toldMany 40 = .ok (.iinc 1 1, 3) := by decide +kernel
theorem dX5_toldMany_43 : decode cX5_toldMany 43 = .ok (.goto (-34), 3) := by decide +kernel
theorem dX5_toldMany_46 : decode cX5_toldMany 46 = .ok (.iload_n 2, 1) := by decide +kernel
theorem dX5_toldMany_47 : decode cX5_toldMany 47 = .ok (.iload_n 1, 1) := by decide +kernel
theorem dX5_toldMany_48 : decode cX5_toldMany 48 = .ok (.ishr, 1) := by decide +kernel
theorem dX5_toldMany_49 : decode cX5_toldMany 49 = .ok (.ifCond .eq 7, 3) := by decide +kernel
theorem dX5_toldMany_52 : decode cX5_toldMany 52 = .ok (.iconst (-1), 1) := by decide +kernel
theorem dX5_toldMany_53 : decode cX5_toldMany 53 = .ok (.goto 4, 3) := by decide +kernel
theorem dX5_toldMany_56 : decode cX5_toldMany 56 = .ok (.iload_n 1, 1) := by decide +kernel
theorem dX5_toldMany_57 : decode cX5_toldMany 57 = .ok (.ireturn, 1) := by decide +kernel
theorem dX5_read_0 : decode cX5_read 0 = .ok (.aload_n 0, 1) := by decide +kernel
theorem dX5_read_1 : decode cX5_read 1 = .ok (.invokevirtual 129, 3) := by decide +kernel
theorem dX5_read_4 : decode cX5_read 4 = .ok (.bipush (-6), 2) := by decide +kernel
theorem dX5_read_6 : decode cX5_read 6 = .ok (.if_icmp .eq 6, 3) := by decide +kernel
theorem dX5_read_9 : decode cX5_read 9 = .ok (.bipush (-3), 2) := by decide +kernel
theorem dX5_read_11 : decode cX5_read 11 = .ok (.ireturn, 1) := by decide +kernel
theorem dX5_read_12 : decode cX5_read 12 = .ok (.aload_n 0, 1) := by decide +kernel
theorem dX5_read_13 : decode cX5_read 13 = .ok (.invokevirtual 132, 3) := by decide +kernel
theorem dX5_read_16 : decode cX5_read 16 = .ok (.istore_n 1, 1) := by decide +kernel
theorem dX5_read_17 : decode cX5_read 17 = .ok (.iload_n 1, 1) := by decide +kernel
theorem dX5_read_18 : decode cX5_read 18 = .ok (.ifCond .ge 5, 3) := by decide +kernel
theorem dX5_read_21 : decode cX5_read 21 = .ok (.iconst (-1), 1) := by decide +kernel
theorem dX5_read_22 : decode cX5_read 22 = .ok (.ireturn, 1) := by decide +kernel
theorem dX5_read_23 : decode cX5_read 23 = .ok (.aload_n 0, 1) := by decide +kernel
theorem dX5_read_24 : decode cX5_read 24 = .ok (.invokevirtual 107, 3) := by decide +kernel
theorem dX5_read_27 : decode cX5_read 27 = .ok (.iconst 2, 1) := by decide +kernel
theorem dX5_read_28 : decode cX5_read 28 = .ok (.istore_n 2, 1) := by decide +kernel
theorem dX5_read_29 : decode cX5_read 29 = .ok (.iload_n 2, 1) := by decide +kernel
theorem dX5_read_30 : decode cX5_read 30 = .ok (.bipush 96, 2) := by decide +kernel
theorem dX5_read_32 : decode cX5_read 32 = .ok (.if_icmp .ge 16, 3) := by decide +kernel
theorem dX5_read_35 : decode cX5_read 35 = .ok (.aload_n 0, 1) := by decide +kernel
theorem dX5_read_36 : decode cX5_read 36 = .ok (.getfield 7, 3) := by decide +kernel
theorem dX5_read_39 : decode cX5_read 39 = .ok (.iload_n 2, 1) := by decide +kernel
theorem dX5_read_40 : decode cX5_read 40 = .ok (.iconst 0, 1) := by decide +kernel
theorem dX5_read_41 : decode cX5_read 41 = .ok (.iastore, 1) := by decide +kernel
theorem dX5_read_42 : decode cX5_read 42 = .ok (.iinc 2 1, 3) := by decide +kernel
theorem dX5_read_45 : decode cX5_read 45 = .ok (.goto (-16), 3) := by decide +kernel
theorem dX5_read_48 : decode cX5_read 48 = .ok (.aload_n 0, 1) := by decide +kernel
theorem dX5_read_49 : decode cX5_read 49 = .ok (.iconst 0, 1) := by decide +kernel
theorem dX5_read_50 : decode cX5_read 50 = .ok (.putfield 114, 3) := by decide +kernel
theorem dX5_read_53 : decode cX5_read 53 = .ok (.aload_n 0, 1) := by decide +kernel
theorem dX5_read_54 : decode cX5_read 54 = .ok (.getfield 114, 3) := by decide +kernel
theorem dX5_read_57 : decode cX5_read 57 = .ok (.aload_n 0, 1) := by decide +kernel
theorem dX5_read_58 : decode cX5_read 58 = .ok (.getfield 117, 3) := by decide +kernel
theorem dX5_read_61 : decode cX5_read 61 = .ok (.if_icmp .ge 48, 3) := by decide +kernel
theorem dX5_read_64 : decode cX5_read 64 = .ok (.aload_n 0, 1) := by decide +kernel
theorem dX5_read_65 : decode cX5_read 65 = .ok (.aload_n 0, 1) := by decide +kernel
theorem dX5_read_66 : decode cX5_read 66 = .ok (.getfield 7, 3) := by decide +kernel
theorem dX5_read_69 : decode cX5_read 69 = .ok (.iconst 2, 1) := by decide +kernel
theorem dX5_read_70 : decode cX5_read 70 = .ok (.iaload, 1) := by decide +kernel
theorem dX5_read_71 : decode cX5_read 71 = .ok (.invokevirtual 120, 3) := by decide +kernel
theorem dX5_read_74 : decode cX5_read 74 = .ok (.pop, 1) := by decide +kernel
theorem dX5_read_75 : decode cX5_read 75 = .ok (.aload_n 0, 1) := by decide +kernel
theorem dX5_read_76 : decode cX5_read 76 = .ok (.bipush 59, 2) := by decide +kernel
theorem dX5_read_78 : decode cX5_read 78 = .ok (.invokevirtual 123, 3) := by decide +kernel
theorem dX5_read_81 : decode cX5_read 81 = .ok (.pop, 1) := by decide +kernel
theorem dX5_read_82 : decode cX5_read 82 = .ok (.aload_n 0, 1) := by decide +kernel
theorem dX5_read_83 : decode cX5_read 83 = .ok (.aload_n 0, 1) := by decide +kernel
theorem dX5_read_84 : decode cX5_read 84 = .ok (.getfield 135, 3) := by decide +kernel
theorem dX5_read_87 : decode cX5_read 87 = .ok (.aload_n 0, 1) := by decide +kernel
theorem dX5_read_88 : decode cX5_read 88 = .ok (.getfield 138, 3) := by decide +kernel
theorem dX5_read_91 : decode cX5_read 91 = .ok (.aload_n 0, 1) := by decide +kernel
theorem dX5_read_92 : decode cX5_read 92 = .ok (.getfield 141, 3) := by decide +kernel
theorem dX5_read_95 : decode cX5_read 95 = .ok (.aload_n 0, 1) := by decide +kernel
theorem dX5_read_96 : decode cX5_read 96 = .ok (.getfield 144, 3) := by decide +kernel
theorem dX5_read_99 : decode cX5_read 99 = .ok (.aload_n 0, 1) := by decide +kernel
theorem dX5_read_100 : decode cX5_read 100 = .ok (.getfield 126, 3) := by decide +kernel
theorem dX5_read_103 : decode cX5_read 103 = .ok (.invokevirtual 110, 3) := by decide +kernel
theorem dX5_read_106 : decode cX5_read 106 = .ok (.goto (-53), 3) := by decide +kernel
theorem dX5_read_109 : decode cX5_read 109 = .ok (.aload_n 0, 1) := by decide +kernel
theorem dX5_read_110 : decode cX5_read 110 = .ok (.iconst 0, 1) := by decide +kernel
theorem dX5_read_111 : decode cX5_read 111 = .ok (.putfield 117, 3) := by decide +kernel
theorem dX5_read_114 : decode cX5_read 114 = .ok (.iload_n 1, 1) := by decide +kernel
theorem dX5_read_115 : decode cX5_read 115 = .ok (.ireturn, 1) := by decide +kernel
theorem dX5_link_0 : decode cX5_link 0 = .ok (.aload_n 0, 1) := by decide +kernel
theorem dX5_link_1 : decode cX5_link 1 = .ok (.iload_n 1, 1) := by decide +kernel
theorem dX5_link_2 : decode cX5_link 2 = .ok (.invokevirtual 147, 3) := by decide +kernel
theorem dX5_link_5 : decode cX5_link 5 = .ok (.ifCond .eq 11, 3) := by decide +kernel
theorem dX5_link_8 : decode cX5_link 8 = .ok (.aload_n 0, 1) := by decide +kernel
theorem dX5_link_9 : decode cX5_link 9 = .ok (.iload_n 2, 1) := by decide +kernel
theorem dX5_link_10 : decode cX5_link 10 = .ok (.invokevirtual 147, 3) := by decide +kernel
theorem dX5_link_13 : decode cX5_link 13 = .ok (.ifCond .ne 5, 3) := by decide +kernel
theorem dX5_link_16 : decode cX5_link 16 = .ok (.iconst (-1), 1) := by decide +kernel
theorem dX5_link_17 : decode cX5_link 17 = .ok (.ireturn, 1) := by decide +kernel
theorem dX5_link_18 : decode cX5_link 18 = .ok (.iload_n 1, 1) := by decide +kernel
theorem dX5_link_19 : decode cX5_link 19 = .ok (.iload_n 2, 1) := by decide +kernel
theorem dX5_link_20 : decode cX5_link 20 = .ok (.if_icmp .ne 6, 3) := by decide +kernel
theorem dX5_link_23 : decode cX5_link 23 = .ok (.bipush (-2), 2) := by decide +kernel
theorem dX5_link_25 : decode cX5_link 25 = .ok (.ireturn, 1) := by decide +kernel
theorem dX5_link_26 : decode cX5_link 26 = .ok (.aload_n 0, 1) := by decide +kernel
theorem dX5_link_27 : decode cX5_link 27 = .ok (.iload_n 1, 1) := by decide +kernel
theorem dX5_link_28 : decode cX5_link 28 = .ok (.iload_n 2, 1) := by decide +kernel
theorem dX5_link_29 : decode cX5_link 29 = .ok (.invokevirtual 58, 3) := by decide +kernel
theorem dX5_link_32 : decode cX5_link 32 = .ok (.iload_n 3, 1) := by decide +kernel
theorem dX5_link_33 : decode cX5_link 33 = .ok (.if_icmp .ne 6, 3) := by decide +kernel
theorem dX5_link_36 : decode cX5_link 36 = .ok (.bipush (-5), 2) := by decide +kernel
theorem dX5_link_38 : decode cX5_link 38 = .ok (.ireturn, 1) := by decide +kernel
theorem dX5_link_39 : decode cX5_link 39 = .ok (.aload_n 0, 1) := by decide +kernel
theorem dX5_link_40 : decode cX5_link 40 = .ok (.invokevirtual 107, 3) := by decide +kernel
theorem dX5_link_43 : decode cX5_link 43 = .ok (.aload_n 0, 1) := by decide +kernel
theorem dX5_link_44 : decode cX5_link 44 = .ok (.iload_n 1, 1) := by decide +kernel
theorem dX5_link_45 : decode cX5_link 45 = .ok (.bipush 6, 2) := by decide +kernel
theorem dX5_link_47 : decode cX5_link 47 = .ok (.aload_n 0, 1) := by decide +kernel
theorem dX5_link_48 : decode cX5_link 48 = .ok (.iload_n 1, 1) := by decide +kernel
theorem dX5_link_49 : decode cX5_link 49 = .ok (.bipush 6, 2) := by decide +kernel
theorem dX5_link_51 : decode cX5_link 51 = .ok (.invokevirtual 46, 3) := by decide +kernel
theorem dX5_link_54 : decode cX5_link 54 = .ok (.iconst 1, 1) := by decide +kernel
theorem dX5_link_55 : decode cX5_link 55 = .ok (.iload_n 2, 1) := by decide +kernel
theorem dX5_link_56 : decode cX5_link 56 = .ok (.ishl, 1) := by decide +kernel
theorem dX5_link_57 : decode cX5_link 57 = .ok (.ixor, 1) := by decide +kernel
theorem dX5_link_58 : decode cX5_link 58 = .ok (.invokevirtual 68, 3) := by decide +kernel
theorem dX5_link_61 : decode cX5_link 61 = .ok (.aload_n 0, 1) := by decide +kernel
theorem dX5_link_62 : decode cX5_link 62 = .ok (.iload_n 1, 1) := by decide +kernel
theorem dX5_link_63 : decode cX5_link 63 = .ok (.bipush 6, 2) := by decide +kernel
theorem dX5_link_65 : decode cX5_link 65 = .ok (.invokevirtual 46, 3) := by decide +kernel
theorem dX5_link_68 : decode cX5_link 68 = .ok (.ireturn, 1) := by decide +kernel
theorem dX5_value_0 : decode cX5_value 0 = .ok (.aload_n 0, 1) := by decide +kernel
theorem dX5_value_1 : decode cX5_value 1 = .ok (.iload_n 1, 1) := by decide +kernel
theorem dX5_value_2 : decode cX5_value 2 = .ok (.invokevirtual 147, 3) := by decide +kernel
theorem dX5_value_5 : decode cX5_value 5 = .ok (.ifCond .ne 5, 3) := by decide +kernel
theorem dX5_value_8 : decode cX5_value 8 = .ok (.iconst (-1), 1) := by decide +kernel
theorem dX5_value_9 : decode cX5_value 9 = .ok (.ireturn, 1) := by decide +kernel
theorem dX5_value_10 : decode cX5_value 10 = .ok (.iload_n 2, 1) := by decide +kernel
theorem dX5_value_11 : decode cX5_value 11 = .ok (.iconst 0, 1) := by decide +kernel
theorem dX5_value_12 : decode cX5_value 12 = .ok (.sipush 255, 3) := by decide +kernel
theorem dX5_value_15 : decode cX5_value 15 = .ok (.invokestatic 42, 3) := by decide +kernel
theorem dX5_value_18 : decode cX5_value 18 = .ok (.ifCond .ne 6, 3) := by decide +kernel
theorem dX5_value_21 : decode cX5_value 21 = .ok (.bipush (-2), 2) := by decide +kernel
theorem dX5_value_23 : decode cX5_value 23 = .ok (.ireturn, 1) := by decide +kernel
theorem dX5_value_24 : decode cX5_value 24 = .ok (.aload_n 0, 1) := by decide +kernel
theorem dX5_value_25 : decode cX5_value 25 = .ok (.iload_n 1, 1) := by decide +kernel
theorem dX5_value_26 : decode cX5_value 26 = .ok (.iconst 0, 1) := by decide +kernel
theorem dX5_value_27 : decode cX5_value 27 = .ok (.invokevirtual 50, 3) := by decide +kernel
theorem dX5_value_30 : decode cX5_value 30 = .ok (.ifCond .ne 6, 3) := by decide +kernel
theorem dX5_value_33 : decode cX5_value 33 = .ok (.bipush (-5), 2) := by decide +kernel
theorem dX5_value_35 : decode cX5_value 35 = .ok (.ireturn, 1) := by decide +kernel
theorem dX5_value_36 : decode cX5_value 36 = .ok (.aload_n 0, 1) := by decide +kernel
theorem dX5_value_37 : decode cX5_value 37 = .ok (.invokevirtual 107, 3) := by decide +kernel
theorem dX5_value_40 : decode cX5_value 40 = .ok (.aload_n 0, 1) := by decide +kernel
theorem dX5_value_41 : decode cX5_value 41 = .ok (.iload_n 1, 1) := by decide +kernel
theorem dX5_value_42 : decode cX5_value 42 = .ok (.iconst 4, 1) := by decide +kernel
theorem dX5_value_43 : decode cX5_value 43 = .ok (.invokevirtual 46, 3) := by decide +kernel
theorem dX5_value_46 : decode cX5_value 46 = .ok (.istore_n 3, 1) := by decide +kernel
theorem dX5_value_47 : decode cX5_value 47 = .ok (.aload_n 0, 1) := by decide +kernel
theorem dX5_value_48 : decode cX5_value 48 = .ok (.iload_n 1, 1) := by decide +kernel
theorem dX5_value_49 : decode cX5_value 49 = .ok (.iconst 4, 1) := by decide +kernel
theorem dX5_value_50 : decode cX5_value 50 = .ok (.iload_n 2, 1) := by decide +kernel
theorem dX5_value_51 : decode cX5_value 51 = .ok (.invokevirtual 68, 3) := by decide +kernel
theorem dX5_value_54 : decode cX5_value 54 = .ok (.iload_n 3, 1) := by decide +kernel
theorem dX5_value_55 : decode cX5_value 55 = .ok (.ireturn, 1) := by decide +kernel
theorem dX5_sleep_0 : decode cX5_sleep 0 = .ok (.aload_n 0, 1) := by decide +kernel
theorem dX5_sleep_1 : decode cX5_sleep 1 = .ok (.iload_n 1, 1) := by decide +kernel
theorem dX5_sleep_2 : decode cX5_sleep 2 = .ok (.invokevirtual 147, 3) := by decide +kernel
theorem dX5_sleep_5 : decode cX5_sleep 5 = .ok (.ifCond .ne 5, 3) := by decide +kernel
theorem dX5_sleep_8 : decode cX5_sleep 8 = .ok (.iconst (-1), 1) := by decide +kernel
theorem dX5_sleep_9 : decode cX5_sleep 9 = .ok (.ireturn, 1) := by decide +kernel
theorem dX5_sleep_10 : decode cX5_sleep 10 = .ok (.aload_n 0, 1) := by decide +kernel
theorem dX5_sleep_11 : decode cX5_sleep 11 = .ok (.iload_n 1, 1) := by decide +kernel
theorem dX5_sleep_12 : decode cX5_sleep 12 = .ok (.iconst 0, 1) := by decide +kernel
theorem dX5_sleep_13 : decode cX5_sleep 13 = .ok (.invokevirtual 50, 3) := by decide +kernel
theorem dX5_sleep_16 : decode cX5_sleep 16 = .ok (.ifCond .ne 6, 3) := by decide +kernel
theorem dX5_sleep_19 : decode cX5_sleep 19 = .ok (.bipush (-5), 2) := by decide +kernel
theorem dX5_sleep_21 : decode cX5_sleep 21 = .ok (.ireturn, 1) := by decide +kernel
theorem dX5_sleep_22 : decode cX5_sleep 22 = .ok (.aload_n 0, 1) := by decide +kernel
theorem dX5_sleep_23 : decode cX5_sleep 23 = .ok (.invokevirtual 107, 3) := by decide +kernel
theorem dX5_sleep_26 : decode cX5_sleep 26 = .ok (.aload_n 0, 1) := by decide +kernel
theorem dX5_sleep_27 : decode cX5_sleep 27 = .ok (.iload_n 1, 1) := by decide +kernel
theorem dX5_sleep_28 : decode cX5_sleep 28 = .ok (.bipush 7, 2) := by decide +kernel
theorem dX5_sleep_30 : decode cX5_sleep 30 = .ok (.iconst 1, 1) := by decide +kernel
theorem dX5_sleep_31 : decode cX5_sleep 31 = .ok (.invokevirtual 68, 3) := by decide +kernel
theorem dX5_sleep_34 : decode cX5_sleep 34 = .ok (.aload_n 0, 1) := by decide +kernel
theorem dX5_sleep_35 : decode cX5_sleep 35 = .ok (.iload_n 1, 1) := by decide +kernel
theorem dX5_sleep_36 : decode cX5_sleep 36 = .ok (.invokevirtual 75, 3) := by decide +kernel
theorem dX5_sleep_39 : decode cX5_sleep 39 = .ok (.invokestatic 150, 3) := by decide +kernel
theorem dX5_sleep_42 : decode cX5_sleep 42 = .ok (.ireturn, 1) := by decide +kernel
theorem dX5_wake_0 : decode cX5_wake 0 = .ok (.aload_n 0, 1) := by decide +kernel
theorem dX5_wake_1 : decode cX5_wake 1 = .ok (.iload_n 1, 1) := by decide +kernel
theorem dX5_wake_2 : decode cX5_wake 2 = .ok (.invokevirtual 147, 3) := by decide +kernel
theorem dX5_wake_5 : decode cX5_wake 5 = .ok (.ifCond .ne 5, 3) := by decide +kernel
theorem dX5_wake_8 : decode cX5_wake 8 = .ok (.iconst (-1), 1) := by decide +kernel
theorem dX5_wake_9 : decode cX5_wake 9 = .ok (.ireturn, 1) := by decide +kernel
theorem dX5_wake_10 : decode cX5_wake 10 = .ok (.aload_n 0, 1) := by decide +kernel
theorem dX5_wake_11 : decode cX5_wake 11 = .ok (.iload_n 1, 1) := by decide +kernel
theorem dX5_wake_12 : decode cX5_wake 12 = .ok (.iconst 2, 1) := by decide +kernel
theorem dX5_wake_13 : decode cX5_wake 13 = .ok (.invokevirtual 50, 3) := by decide +kernel
theorem dX5_wake_16 : decode cX5_wake 16 = .ok (.ifCond .ne 6, 3) := by decide +kernel
theorem dX5_wake_19 : decode cX5_wake 19 = .ok (.bipush (-5), 2) := by decide +kernel
theorem dX5_wake_21 : decode cX5_wake 21 = .ok (.ireturn, 1) := by decide +kernel
theorem dX5_wake_22 : decode cX5_wake 22 = .ok (.aload_n 0, 1) := by decide +kernel
theorem dX5_wake_23 : decode cX5_wake 23 = .ok (.invokevirtual 107, 3) := by decide +kernel
theorem dX5_wake_26 : decode cX5_wake 26 = .ok (.aload_n 0, 1) := by decide +kernel
theorem dX5_wake_27 : decode cX5_wake 27 = .ok (.iload_n 1, 1) := by decide +kernel
theorem dX5_wake_28 : decode cX5_wake 28 = .ok (.invokevirtual 78, 3) := by decide +kernel
theorem dX5_wake_31 : decode cX5_wake 31 = .ok (.aload_n 0, 1) := by decide +kernel
theorem dX5_wake_32 : decode cX5_wake 32 = .ok (.getfield 7, 3) := by decide +kernel
theorem dX5_wake_35 : decode cX5_wake 35 = .ok (.bipush 7, 2) := by decide +kernel
theorem dX5_wake_37 : decode cX5_wake 37 = .ok (.iaload, 1) := by decide +kernel
theorem dX5_wake_38 : decode cX5_wake 38 = .ok (.ireturn, 1) := by decide +kernel
theorem dX5_pass_0 : decode cX5_pass 0 = .ok (.iload_n 1, 1) := by decide +kernel
theorem dX5_pass_1 : decode cX5_pass 1 = .ok (.iconst 1, 1) := by decide +kernel
theorem dX5_pass_2 : decode cX5_pass 2 = .ok (.sipush 200, 3) := by decide +kernel
theorem dX5_pass_5 : decode cX5_pass 5 = .ok (.invokestatic 42, 3) := by decide +kernel
theorem dX5_pass_8 : decode cX5_pass 8 = .ok (.ifCond .ne 6, 3) := by decide +kernel
theorem dX5_pass_11 : decode cX5_pass 11 = .ok (.bipush (-2), 2) := by decide +kernel
theorem dX5_pass_13 : decode cX5_pass 13 = .ok (.ireturn, 1) := by decide +kernel
theorem dX5_pass_14 : decode cX5_pass 14 = .ok (.aload_n 0, 1) := by decide +kernel
theorem dX5_pass_15 : decode cX5_pass 15 = .ok (.invokevirtual 107, 3) := by decide +kernel
theorem dX5_pass_18 : decode cX5_pass 18 = .ok (.aload_n 0, 1) := by decide +kernel
theorem dX5_pass_19 : decode cX5_pass 19 = .ok (.iload_n 1, 1) := by decide +kernel
theorem dX5_pass_20 : decode cX5_pass 20 = .ok (.invokevirtual 153, 3) := by decide +kernel
theorem dX5_pass_23 : decode cX5_pass 23 = .ok (.ireturn, 1) := by decide +kernel
theorem dX5_of_0 : decode cX5_of 0 = .ok (.aload_n 0, 1) := by decide +kernel
theorem dX5_of_1 : decode cX5_of 1 = .ok (.iload_n 1, 1) := by decide +kernel
theorem dX5_of_2 : decode cX5_of 2 = .ok (.invokevirtual 147, 3) := by decide +kernel
theorem dX5_of_5 : decode cX5_of 5 = .ok (.ifCond .ne 5, 3) := by decide +kernel
theorem dX5_of_8 : decode cX5_of 8 = .ok (.iconst (-1), 1) := by decide +kernel
theorem dX5_of_9 : decode cX5_of 9 = .ok (.ireturn, 1) := by decide +kernel
theorem dX5_of_10 : decode cX5_of 10 = .ok (.iload_n 2, 1) := by decide +kernel
theorem dX5_of_11 : decode cX5_of 11 = .ok (.tableswitch 170 0 12 #[65, 73, 80, 87, 94, 101, 108, 115, 123, 129, 135, 156, 162], 65) := by decide +kernel
theorem dX5_of_76 : decode cX5_of 76 = .ok (.aload_n 0, 1) := by decide +kernel
theorem dX5_of_77 : decode cX5_of 77 = .ok (.iload_n 1, 1) := by decide +kernel
theorem dX5_of_78 : decode cX5_of 78 = .ok (.bipush 7, 2) := by decide +kernel
theorem dX5_of_80 : decode cX5_of 80 = .ok (.invokevirtual 46, 3) := by decide +kernel
theorem dX5_of_83 : decode cX5_of 83 = .ok (.ireturn, 1) := by decide +kernel
theorem dX5_of_84 : decode cX5_of 84 = .ok (.aload_n 0, 1) := by decide +kernel
theorem dX5_of_85 : decode cX5_of 85 = .ok (.iload_n 1, 1) := by decide +kernel
theorem dX5_of_86 : decode cX5_of 86 = .ok (.iconst 4, 1) := by decide +kernel
theorem dX5_of_87 : decode cX5_of 87 = .ok (.invokevirtual 46, 3) := by decide +kernel
theorem dX5_of_90 : decode cX5_of 90 = .ok (.ireturn, 1) := by decide +kernel
theorem dX5_of_91 : decode cX5_of 91 = .ok (.aload_n 0, 1) := by decide +kernel
theorem dX5_of_92 : decode cX5_of 92 = .ok (.iload_n 1, 1) := by decide +kernel
theorem dX5_of_93 : decode cX5_of 93 = .ok (.iconst 5, 1) := by decide +kernel
theorem dX5_of_94 : decode cX5_of 94 = .ok (.invokevirtual 46, 3) := by decide +kernel
theorem dX5_of_97 : decode cX5_of 97 = .ok (.ireturn, 1) := by decide +kernel
theorem dX5_of_98 : decode cX5_of 98 = .ok (.aload_n 0, 1) := by decide +kernel
theorem dX5_of_99 : decode cX5_of 99 = .ok (.iload_n 1, 1) := by decide +kernel
theorem dX5_of_100 : decode cX5_of 100 = .ok (.iconst 0, 1) := by decide +kernel
theorem dX5_of_101 : decode cX5_of 101 = .ok (.invokevirtual 46, 3) := by decide +kernel
theorem dX5_of_104 : decode cX5_of 104 = .ok (.ireturn, 1) := by decide +kernel
theorem dX5_of_105 : decode cX5_of 105 = .ok (.aload_n 0, 1) := by decide +kernel
theorem dX5_of_106 : decode cX5_of 106 = .ok (.iload_n 1, 1) := by decide +kernel
theorem dX5_of_107 : decode cX5_of 107 = .ok (.iconst 1, 1) := by decide +kernel
theorem dX5_of_108 : decode cX5_of 108 = .ok (.invokevirtual 46, 3) := by decide +kernel
theorem dX5_of_111 : decode cX5_of 111 = .ok (.ireturn, 1) := by decide +kernel
theorem dX5_of_112 : decode cX5_of 112 = .ok (.aload_n 0, 1) := by decide +kernel
theorem dX5_of_113 : decode cX5_of 113 = .ok (.iload_n 1, 1) := by decide +kernel
theorem dX5_of_114 : decode cX5_of 114 = .ok (.iconst 2, 1) := by decide +kernel
theorem dX5_of_115 : decode cX5_of 115 = .ok (.invokevirtual 46, 3) := by decide +kernel
theorem dX5_of_118 : decode cX5_of 118 = .ok (.ireturn, 1) := by decide +kernel
theorem dX5_of_119 : decode cX5_of 119 = .ok (.aload_n 0, 1) := by decide +kernel
theorem dX5_of_120 : decode cX5_of 120 = .ok (.iload_n 1, 1) := by decide +kernel
theorem dX5_of_121 : decode cX5_of 121 = .ok (.iconst 3, 1) := by decide +kernel
theorem dX5_of_122 : decode cX5_of 122 = .ok (.invokevirtual 46, 3) := by decide +kernel
theorem dX5_of_125 : decode cX5_of 125 = .ok (.ireturn, 1) := by decide +kernel
theorem dX5_of_126 : decode cX5_of 126 = .ok (.aload_n 0, 1) := by decide +kernel
theorem dX5_of_127 : decode cX5_of 127 = .ok (.iload_n 1, 1) := by decide +kernel
theorem dX5_of_128 : decode cX5_of 128 = .ok (.bipush 6, 2) := by decide +kernel
theorem dX5_of_130 : decode cX5_of 130 = .ok (.invokevirtual 46, 3) := by decide +kernel
theorem dX5_of_133 : decode cX5_of 133 = .ok (.ireturn, 1) := by decide +kernel
theorem dX5_of_134 : decode cX5_of 134 = .ok (.aload_n 0, 1) := by decide +kernel
theorem dX5_of_135 : decode cX5_of 135 = .ok (.iload_n 1, 1) := by decide +kernel
theorem dX5_of_136 : decode cX5_of 136 = .ok (.invokevirtual 61, 3) := by decide +kernel
theorem dX5_of_139 : decode cX5_of 139 = .ok (.ireturn, 1) := by decide +kernel
theorem dX5_of_140 : decode cX5_of 140 = .ok (.aload_n 0, 1) := by decide +kernel
theorem dX5_of_141 : decode cX5_of 141 = .ok (.iload_n 1, 1) := by decide +kernel
theorem dX5_of_142 : decode cX5_of 142 = .ok (.invokevirtual 72, 3) := by decide +kernel
theorem dX5_of_145 : decode cX5_of 145 = .ok (.ireturn, 1) := by decide +kernel
theorem dX5_of_146 : decode cX5_of 146 = .ok (.aload_n 0, 1) := by decide +kernel
theorem dX5_of_147 : decode cX5_of 147 = .ok (.iload_n 1, 1) := by decide +kernel
theorem dX5_of_148 : decode cX5_of 148 = .ok (.iconst 4, 1) := by decide +kernel
theorem dX5_of_149 : decode cX5_of 149 = .ok (.invokevirtual 50, 3) := by decide +kernel
theorem dX5_of_152 : decode cX5_of 152 = .ok (.ifCond .eq 13, 3) := by decide +kernel
theorem dX5_of_155 : decode cX5_of 155 = .ok (.aload_n 0, 1) := by decide +kernel
theorem dX5_of_156 : decode cX5_of 156 = .ok (.iload_n 1, 1) := by decide +kernel
theorem dX5_of_157 : decode cX5_of 157 = .ok (.bipush 8, 2) := by decide +kernel
theorem dX5_of_159 : decode cX5_of 159 = .ok (.invokevirtual 46, 3) := by decide +kernel
theorem dX5_of_162 : decode cX5_of 162 = .ok (.goto 4, 3) := by decide +kernel
theorem dX5_of_165 : decode cX5_of 165 = .ok (.iconst 0, 1) := by decide +kernel
theorem dX5_of_166 : decode cX5_of 166 = .ok (.ireturn, 1) := by decide +kernel
theorem dX5_of_167 : decode cX5_of 167 = .ok (.aload_n 0, 1) := by decide +kernel
theorem dX5_of_168 : decode cX5_of 168 = .ok (.iload_n 1, 1) := by decide +kernel
theorem dX5_of_169 : decode cX5_of 169 = .ok (.invokevirtual 156, 3) := by decide +kernel
theorem dX5_of_172 : decode cX5_of 172 = .ok (.ireturn, 1) := by decide +kernel
theorem dX5_of_173 : decode cX5_of 173 = .ok (.aload_n 0, 1) := by decide +kernel
theorem dX5_of_174 : decode cX5_of 174 = .ok (.iload_n 1, 1) := by decide +kernel
theorem dX5_of_175 : decode cX5_of 175 = .ok (.bipush 9, 2) := by decide +kernel
theorem dX5_of_177 : decode cX5_of 177 = .ok (.invokevirtual 46, 3) := by decide +kernel
theorem dX5_of_180 : decode cX5_of 180 = .ok (.ireturn, 1) := by decide +kernel
theorem dX5_of_181 : decode cX5_of 181 = .ok (.bipush (-2), 2) := by decide +kernel
theorem dX5_of_183 : decode cX5_of 183 = .ok (.ireturn, 1) := by decide +kernel
theorem dX5_count_0 : decode cX5_count 0 = .ok (.iload_n 1, 1) := by decide +kernel
theorem dX5_count_1 : decode cX5_count 1 = .ok (.tableswitch 156 0 13 #[71, 78, 84, 90, 96, 102, 107, 115, 122, 129, 136, 136, 146, 151], 71) := by decide +kernel
theorem dX5_count_72 : decode cX5_count 72 = .ok (.aload_n 0, 1) := by decide +kernel
theorem dX5_count_73 : decode cX5_count 73 = .ok (.getfield 7, 3) := by decide +kernel
theorem dX5_count_76 : decode cX5_count 76 = .ok (.iconst 2, 1) := by decide +kernel
theorem dX5_count_77 : decode cX5_count 77 = .ok (.iaload, 1) := by decide +kernel
theorem dX5_count_78 : decode cX5_count 78 = .ok (.ireturn, 1) := by decide +kernel
theorem dX5_count_79 : decode cX5_count 79 = .ok (.aload_n 0, 1) := by decide +kernel
theorem dX5_count_80 : decode cX5_count 80 = .ok (.iconst 0, 1) := by decide +kernel
theorem dX5_count_81 : decode cX5_count 81 = .ok (.invokevirtual 65, 3) := by decide +kernel
theorem dX5_count_84 : decode cX5_count 84 = .ok (.ireturn, 1) := by decide +kernel
theorem dX5_count_85 : decode cX5_count 85 = .ok (.aload_n 0, 1) := by decide +kernel
theorem dX5_count_86 : decode cX5_count 86 = .ok (.iconst 2, 1) := by decide +kernel
theorem dX5_count_87 : decode cX5_count 87 = .ok (.invokevirtual 65, 3) := by decide +kernel
theorem dX5_count_90 : decode cX5_count 90 = .ok (.ireturn, 1) := by decide +kernel
theorem dX5_count_91 : decode cX5_count 91 = .ok (.aload_n 0, 1) := by decide +kernel
theorem dX5_count_92 : decode cX5_count 92 = .ok (.iconst 3, 1) := by decide +kernel
theorem dX5_count_93 : decode cX5_count 93 = .ok (.invokevirtual 65, 3) := by decide +kernel
theorem dX5_count_96 : decode cX5_count 96 = .ok (.ireturn, 1) := by decide +kernel
theorem dX5_count_97 : decode cX5_count 97 = .ok (.aload_n 0, 1) := by decide +kernel
theorem dX5_count_98 : decode cX5_count 98 = .ok (.iconst 4, 1) := by decide +kernel
theorem dX5_count_99 : decode cX5_count 99 = .ok (.invokevirtual 65, 3) := by decide +kernel
theorem dX5_count_102 : decode cX5_count 102 = .ok (.ireturn, 1) := by decide +kernel
theorem dX5_count_103 : decode cX5_count 103 = .ok (.aload_n 0, 1) := by decide +kernel
theorem dX5_count_104 : decode cX5_count 104 = .ok (.invokevirtual 82, 3) := by decide +kernel
theorem dX5_count_107 : decode cX5_count 107 = .ok (.ireturn, 1) := by decide +kernel
theorem dX5_count_108 : decode cX5_count 108 = .ok (.aload_n 0, 1) := by decide +kernel
theorem dX5_count_109 : decode cX5_count 109 = .ok (.getfield 7, 3) := by decide +kernel
theorem dX5_count_112 : decode cX5_count 112 = .ok (.bipush 6, 2) := by decide +kernel
theorem dX5_count_114 : decode cX5_count 114 = .ok (.iaload, 1) := by decide +kernel
theorem dX5_count_115 : decode cX5_count 115 = .ok (.ireturn, 1) := by decide +kernel
theorem dX5_count_116 : decode cX5_count 116 = .ok (.aload_n 0, 1) := by decide +kernel
theorem dX5_count_117 : decode cX5_count 117 = .ok (.getfield 7, 3) := by decide +kernel
theorem dX5_count_120 : decode cX5_count 120 = .ok (.iconst 4, 1) := by decide +kernel
theorem dX5_count_121 : decode cX5_count 121 = .ok (.iaload, 1) := by decide +kernel
theorem dX5_count_122 : decode cX5_count 122 = .ok (.ireturn, 1) := by decide +kernel
theorem dX5_count_123 : decode cX5_count 123 = .ok (.aload_n 0, 1) := by decide +kernel
theorem dX5_count_124 : decode cX5_count 124 = .ok (.getfield 7, 3) := by decide +kernel
theorem dX5_count_127 : decode cX5_count 127 = .ok (.iconst 5, 1) := by decide +kernel
theorem dX5_count_128 : decode cX5_count 128 = .ok (.iaload, 1) := by decide +kernel
theorem dX5_count_129 : decode cX5_count 129 = .ok (.ireturn, 1) := by decide +kernel
theorem dX5_count_130 : decode cX5_count 130 = .ok (.aload_n 0, 1) := by decide +kernel
theorem dX5_count_131 : decode cX5_count 131 = .ok (.getfield 7, 3) := by decide +kernel
theorem dX5_count_134 : decode cX5_count 134 = .ok (.iconst 3, 1) := by decide +kernel
theorem dX5_count_135 : decode cX5_count 135 = .ok (.iaload, 1) := by decide +kernel
theorem dX5_count_136 : decode cX5_count 136 = .ok (.ireturn, 1) := by decide +kernel
theorem dX5_count_137 : decode cX5_count 137 = .ok (.aload_n 0, 1) := by decide +kernel
theorem dX5_count_138 : decode cX5_count 138 = .ok (.getfield 7, 3) := by decide +kernel
theorem dX5_count_141 : decode cX5_count 141 = .ok (.iload_n 1, 1) := by decide +kernel
theorem dX5_count_142 : decode cX5_count 142 = .ok (.bipush 10, 2) := by decide +kernel
theorem dX5_count_144 : decode cX5_count 144 = .ok (.isub, 1) := by decide +kernel
theorem dX5_count_145 : decode cX5_count 145 = .ok (.iaload, 1) := by decide +kernel
theorem dX5_count_146 : decode cX5_count 146 = .ok (.ireturn, 1) := by decide +kernel
theorem dX5_count_147 : decode cX5_count 147 = .ok (.aload_n 0, 1) := by decide +kernel
theorem dX5_count_148 : decode cX5_count 148 = .ok (.getfield 117, 3) := by decide +kernel
theorem dX5_count_151 : decode cX5_count 151 = .ok (.ireturn, 1) := by decide +kernel
theorem dX5_count_152 : decode cX5_count 152 = .ok (.aload_n 0, 1) := by decide +kernel
theorem dX5_count_153 : decode cX5_count 153 = .ok (.getfield 34, 3) := by decide +kernel
theorem dX5_count_156 : decode cX5_count 156 = .ok (.ireturn, 1) := by decide +kernel
theorem dX5_count_157 : decode cX5_count 157 = .ok (.bipush (-2), 2) := by decide +kernel
theorem dX5_count_159 : decode cX5_count 159 = .ok (.ireturn, 1) := by decide +kernel
theorem dX5_waiting_0 : decode cX5_waiting 0 = .ok (.iload_n 1, 1) := by decide +kernel
theorem dX5_waiting_1 : decode cX5_waiting 1 = .ok (.iconst 0, 1) := by decide +kernel
theorem dX5_waiting_2 : decode cX5_waiting 2 = .ok (.aload_n 0, 1) := by decide +kernel
theorem dX5_waiting_3 : decode cX5_waiting 3 = .ok (.getfield 7, 3) := by decide +kernel
theorem dX5_waiting_6 : decode cX5_waiting 6 = .ok (.bipush 7, 2) := by decide +kernel
theorem dX5_waiting_8 : decode cX5_waiting 8 = .ok (.iaload, 1) := by decide +kernel
theorem dX5_waiting_9 : decode cX5_waiting 9 = .ok (.iconst 1, 1) := by decide +kernel
theorem dX5_waiting_10 : decode cX5_waiting 10 = .ok (.isub, 1) := by decide +kernel
theorem dX5_waiting_11 : decode cX5_waiting 11 = .ok (.invokestatic 42, 3) := by decide +kernel
theorem dX5_waiting_14 : decode cX5_waiting 14 = .ok (.ifCond .eq 15, 3) := by decide +kernel
theorem dX5_waiting_17 : decode cX5_waiting 17 = .ok (.aload_n 0, 1) := by decide +kernel
theorem dX5_waiting_18 : decode cX5_waiting 18 = .ok (.getfield 7, 3) := by decide +kernel
theorem dX5_waiting_21 : decode cX5_waiting 21 = .ok (.bipush 8, 2) := by decide +kernel
theorem dX5_waiting_23 : decode cX5_waiting 23 = .ok (.iload_n 1, 1) := by decide +kernel
theorem dX5_waiting_24 : decode cX5_waiting 24 = .ok (.iadd, 1) := by decide +kernel
theorem dX5_waiting_25 : decode cX5_waiting 25 = .ok (.iaload, 1) := by decide +kernel
theorem dX5_waiting_26 : decode cX5_waiting 26 = .ok (.goto 4, 3) := by decide +kernel
theorem dX5_waiting_29 : decode cX5_waiting 29 = .ok (.iconst (-1), 1) := by decide +kernel
theorem dX5_waiting_30 : decode cX5_waiting 30 = .ok (.ireturn, 1) := by decide +kernel
theorem dX5_allValues_0 : decode cX5_allValues 0 = .ok (.iconst 0, 1) := by decide +kernel
theorem dX5_allValues_1 : decode cX5_allValues 1 = .ok (.istore_n 1, 1) := by decide +kernel
theorem dX5_allValues_2 : decode cX5_allValues 2 = .ok (.iconst 0, 1) := by decide +kernel
theorem dX5_allValues_3 : decode cX5_allValues 3 = .ok (.istore_n 2, 1) := by decide +kernel
theorem dX5_allValues_4 : decode cX5_allValues 4 = .ok (.iload_n 2, 1) := by decide +kernel
theorem dX5_allValues_5 : decode cX5_allValues 5 = .ok (.aload_n 0, 1) := by decide +kernel
theorem dX5_allValues_6 : decode cX5_allValues 6 = .ok (.getfield 7, 3) := by decide +kernel
theorem dX5_allValues_9 : decode cX5_allValues 9 = .ok (.iconst 2, 1) := by decide +kernel
theorem dX5_allValues_10 : decode cX5_allValues 10 = .ok (.iaload, 1) := by decide +kernel
theorem dX5_allValues_11 : decode cX5_allValues 11 = .ok (.if_icmp .ge 18, 3) := by decide +kernel
theorem dX5_allValues_14 : decode cX5_allValues 14 = .ok (.iload_n 1, 1) := by decide +kernel
theorem dX5_allValues_15 : decode cX5_allValues 15 = .ok (.aload_n 0, 1) := by decide +kernel
theorem dX5_allValues_16 : decode cX5_allValues 16 = .ok (.iload_n 2, 1) := by decide +kernel
theorem dX5_allValues_17 : decode cX5_allValues 17 = .ok (.iconst 4, 1) := by decide +kernel
theorem dX5_allValues_18 : decode cX5_allValues 18 = .ok (.invokevirtual 46, 3) := by decide +kernel
theorem dX5_allValues_21 : decode cX5_allValues 21 = .ok (.iadd, 1) := by decide +kernel
theorem dX5_allValues_22 : decode cX5_allValues 22 = .ok (.istore_n 1, 1) := by decide +kernel
theorem dX5_allValues_23 : decode cX5_allValues 23 = .ok (.iinc 2 1, 3) := by decide +kernel
theorem dX5_allValues_26 : decode cX5_allValues 26 = .ok (.goto (-22), 3) := by decide +kernel
theorem dX5_allValues_29 : decode cX5_allValues 29 = .ok (.iload_n 1, 1) := by decide +kernel
theorem dX5_allValues_30 : decode cX5_allValues 30 = .ok (.ireturn, 1) := by decide +kernel
theorem dX5_ifPassed_0 : decode cX5_ifPassed 0 = .ok (.iload_n 1, 1) := by decide +kernel
theorem dX5_ifPassed_1 : decode cX5_ifPassed 1 = .ok (.iconst 1, 1) := by decide +kernel
theorem dX5_ifPassed_2 : decode cX5_ifPassed 2 = .ok (.sipush 200, 3) := by decide +kernel
theorem dX5_ifPassed_5 : decode cX5_ifPassed 5 = .ok (.invokestatic 42, 3) := by decide +kernel
theorem dX5_ifPassed_8 : decode cX5_ifPassed 8 = .ok (.ifCond .eq 12, 3) := by decide +kernel
theorem dX5_ifPassed_11 : decode cX5_ifPassed 11 = .ok (.iload_n 2, 1) := by decide +kernel
theorem dX5_ifPassed_12 : decode cX5_ifPassed 12 = .ok (.iconst 0, 1) := by decide +kernel
theorem dX5_ifPassed_13 : decode cX5_ifPassed 13 = .ok (.iconst 3, 1) := by decide +kernel
theorem dX5_ifPassed_14 : decode cX5_ifPassed 14 = .ok (.invokestatic 42, 3) := by decide +kernel
theorem dX5_ifPassed_17 : decode cX5_ifPassed 17 = .ok (.ifCond .ne 6, 3) := by decide +kernel
theorem dX5_ifPassed_20 : decode cX5_ifPassed 20 = .ok (.bipush (-2), 2) := by decide +kernel
theorem dX5_ifPassed_22 : decode cX5_ifPassed 22 = .ok (.ireturn, 1) := by decide +kernel
theorem dX5_ifPassed_23 : decode cX5_ifPassed 23 = .ok (.aload_n 0, 1) := by decide +kernel
theorem dX5_ifPassed_24 : decode cX5_ifPassed 24 = .ok (.getfield 7, 3) := by decide +kernel
theorem dX5_ifPassed_27 : decode cX5_ifPassed 27 = .ok (.iconst 0, 1) := by decide +kernel
theorem dX5_ifPassed_28 : decode cX5_ifPassed 28 = .ok (.aload_n 0, 1) := by decide +kernel
theorem dX5_ifPassed_29 : decode cX5_ifPassed 29 = .ok (.getfield 13, 3) := by decide +kernel
theorem dX5_ifPassed_32 : decode cX5_ifPassed 32 = .ok (.iconst 0, 1) := by decide +kernel
theorem dX5_ifPassed_33 : decode cX5_ifPassed 33 = .ok (.invokestatic 38, 3) := by decide +kernel
theorem dX5_ifPassed_36 : decode cX5_ifPassed 36 = .ok (.aload_n 0, 1) := by decide +kernel
theorem dX5_ifPassed_37 : decode cX5_ifPassed 37 = .ok (.getfield 7, 3) := by decide +kernel
theorem dX5_ifPassed_40 : decode cX5_ifPassed 40 = .ok (.bipush 6, 2) := by decide +kernel
theorem dX5_ifPassed_42 : decode cX5_ifPassed 42 = .ok (.iconst 0, 1) := by decide +kernel
theorem dX5_ifPassed_43 : decode cX5_ifPassed 43 = .ok (.iastore, 1) := by decide +kernel
theorem dX5_ifPassed_44 : decode cX5_ifPassed 44 = .ok (.aload_n 0, 1) := by decide +kernel
theorem dX5_ifPassed_45 : decode cX5_ifPassed 45 = .ok (.iload_n 1, 1) := by decide +kernel
theorem dX5_ifPassed_46 : decode cX5_ifPassed 46 = .ok (.invokevirtual 153, 3) := by decide +kernel
theorem dX5_ifPassed_49 : decode cX5_ifPassed 49 = .ok (.istore_n 3, 1) := by decide +kernel
theorem dX5_ifPassed_50 : decode cX5_ifPassed 50 = .ok (.iload_n 2, 1) := by decide +kernel
theorem dX5_ifPassed_51 : decode cX5_ifPassed 51 = .ok (.ifCond .ne 7, 3) := by decide +kernel
theorem dX5_ifPassed_54 : decode cX5_ifPassed 54 = .ok (.iload_n 3, 1) := by decide +kernel
theorem dX5_ifPassed_55 : decode cX5_ifPassed 55 = .ok (.goto 35, 3) := by decide +kernel
theorem dX5_ifPassed_58 : decode cX5_ifPassed 58 = .ok (.iload_n 2, 1) := by decide +kernel
theorem dX5_ifPassed_59 : decode cX5_ifPassed 59 = .ok (.iconst 1, 1) := by decide +kernel
theorem dX5_ifPassed_60 : decode cX5_ifPassed 60 = .ok (.if_icmp .ne 11, 3) := by decide +kernel
theorem dX5_ifPassed_63 : decode cX5_ifPassed 63 = .ok (.aload_n 0, 1) := by decide +kernel
theorem dX5_ifPassed_64 : decode cX5_ifPassed 64 = .ok (.iconst 0, 1) := by decide +kernel
theorem dX5_ifPassed_65 : decode cX5_ifPassed 65 = .ok (.invokevirtual 65, 3) := by decide +kernel
theorem dX5_ifPassed_68 : decode cX5_ifPassed 68 = .ok (.goto 22, 3) := by decide +kernel
theorem dX5_ifPassed_71 : decode cX5_ifPassed 71 = .ok (.iload_n 2, 1) := by decide +kernel
theorem dX5_ifPassed_72 : decode cX5_ifPassed 72 = .ok (.iconst 2, 1) := by decide +kernel
theorem dX5_ifPassed_73 : decode cX5_ifPassed 73 = .ok (.if_icmp .ne 13, 3) := by decide +kernel
theorem dX5_ifPassed_76 : decode cX5_ifPassed 76 = .ok (.aload_n 0, 1) := by decide +kernel
theorem dX5_ifPassed_77 : decode cX5_ifPassed 77 = .ok (.getfield 7, 3) := by decide +kernel
theorem dX5_ifPassed_80 : decode cX5_ifPassed 80 = .ok (.bipush 6, 2) := by decide +kernel
theorem dX5_ifPassed_82 : decode cX5_ifPassed 82 = .ok (.iaload, 1) := by decide +kernel
theorem dX5_ifPassed_83 : decode cX5_ifPassed 83 = .ok (.goto 7, 3) := by decide +kernel
theorem dX5_ifPassed_86 : decode cX5_ifPassed 86 = .ok (.aload_n 0, 1) := by decide +kernel
theorem dX5_ifPassed_87 : decode cX5_ifPassed 87 = .ok (.invokevirtual 159, 3) := by decide +kernel
theorem dX5_ifPassed_90 : decode cX5_ifPassed 90 = .ok (.istore 4, 2) := by decide +kernel
theorem dX5_ifPassed_92 : decode cX5_ifPassed 92 = .ok (.aload_n 0, 1) := by decide +kernel
theorem dX5_ifPassed_93 : decode cX5_ifPassed 93 = .ok (.getfield 13, 3) := by decide +kernel
theorem dX5_ifPassed_96 : decode cX5_ifPassed 96 = .ok (.iconst 0, 1) := by decide +kernel
theorem dX5_ifPassed_97 : decode cX5_ifPassed 97 = .ok (.aload_n 0, 1) := by decide +kernel
theorem dX5_ifPassed_98 : decode cX5_ifPassed 98 = .ok (.getfield 7, 3) := by decide +kernel
theorem dX5_ifPassed_101 : decode cX5_ifPassed 101 = .ok (.iconst 0, 1) := by decide +kernel
theorem dX5_ifPassed_102 : decode cX5_ifPassed 102 = .ok (.invokestatic 38, 3) := by decide +kernel
theorem dX5_ifPassed_105 : decode cX5_ifPassed 105 = .ok (.iload 4, 2) := by decide +kernel
theorem dX5_ifPassed_107 : decode cX5_ifPassed 107 = .ok (.ireturn, 1) := by decide +kernel
theorem dX5_areAllAwake_0 : decode cX5_areAllAwake 0 = .ok (.aload_n 0, 1) := by decide +kernel
theorem dX5_areAllAwake_1 : decode cX5_areAllAwake 1 = .ok (.iconst 0, 1) := by decide +kernel
theorem dX5_areAllAwake_2 : decode cX5_areAllAwake 2 = .ok (.invokevirtual 65, 3) := by decide +kernel
theorem dX5_areAllAwake_5 : decode cX5_areAllAwake 5 = .ok (.iconst 1, 1) := by decide +kernel
theorem dX5_areAllAwake_6 : decode cX5_areAllAwake 6 = .ok (.aload_n 0, 1) := by decide +kernel
theorem dX5_areAllAwake_7 : decode cX5_areAllAwake 7 = .ok (.getfield 7, 3) := by decide +kernel
theorem dX5_areAllAwake_10 : decode cX5_areAllAwake 10 = .ok (.iconst 2, 1) := by decide +kernel
theorem dX5_areAllAwake_11 : decode cX5_areAllAwake 11 = .ok (.iaload, 1) := by decide +kernel
theorem dX5_areAllAwake_12 : decode cX5_areAllAwake 12 = .ok (.ishl, 1) := by decide +kernel
theorem dX5_areAllAwake_13 : decode cX5_areAllAwake 13 = .ok (.iconst 1, 1) := by decide +kernel
theorem dX5_areAllAwake_14 : decode cX5_areAllAwake 14 = .ok (.isub, 1) := by decide +kernel
theorem dX5_areAllAwake_15 : decode cX5_areAllAwake 15 = .ok (.if_icmp .ne 7, 3) := by decide +kernel
theorem dX5_areAllAwake_18 : decode cX5_areAllAwake 18 = .ok (.iconst 1, 1) := by decide +kernel
theorem dX5_areAllAwake_19 : decode cX5_areAllAwake 19 = .ok (.goto 4, 3) := by decide +kernel
theorem dX5_areAllAwake_22 : decode cX5_areAllAwake 22 = .ok (.iconst 0, 1) := by decide +kernel
theorem dX5_areAllAwake_23 : decode cX5_areAllAwake 23 = .ok (.ireturn, 1) := by decide +kernel
theorem dX5_allAwakeWith_0 : decode cX5_allAwakeWith 0 = .ok (.aload_n 0, 1) := by decide +kernel
theorem dX5_allAwakeWith_1 : decode cX5_allAwakeWith 1 = .ok (.getfield 7, 3) := by decide +kernel
theorem dX5_allAwakeWith_4 : decode cX5_allAwakeWith 4 = .ok (.iconst 0, 1) := by decide +kernel
theorem dX5_allAwakeWith_5 : decode cX5_allAwakeWith 5 = .ok (.aload_n 0, 1) := by decide +kernel
theorem dX5_allAwakeWith_6 : decode cX5_allAwakeWith 6 = .ok (.getfield 13, 3) := by decide +kernel
theorem dX5_allAwakeWith_9 : decode cX5_allAwakeWith 9 = .ok (.iconst 0, 1) := by decide +kernel
theorem dX5_allAwakeWith_10 : decode cX5_allAwakeWith 10 = .ok (.invokestatic 38, 3) := by decide +kernel
theorem dX5_allAwakeWith_13 : decode cX5_allAwakeWith 13 = .ok (.aload_n 0, 1) := by decide +kernel
theorem dX5_allAwakeWith_14 : decode cX5_allAwakeWith 14 = .ok (.getfield 7, 3) := by decide +kernel
theorem dX5_allAwakeWith_17 : decode cX5_allAwakeWith 17 = .ok (.iconst 0, 1) := by decide +kernel
theorem dX5_allAwakeWith_18 : decode cX5_allAwakeWith 18 = .ok (.iload_n 1, 1) := by decide +kernel
theorem dX5_allAwakeWith_19 : decode cX5_allAwakeWith 19 = .ok (.iastore, 1) := by decide +kernel
theorem dX5_allAwakeWith_20 : decode cX5_allAwakeWith 20 = .ok (.iconst 0, 1) := by decide +kernel
theorem dX5_allAwakeWith_21 : decode cX5_allAwakeWith 21 = .ok (.istore_n 2, 1) := by decide +kernel
theorem dX5_allAwakeWith_22 : decode cX5_allAwakeWith 22 = .ok (.iload_n 2, 1) := by decide +kernel
theorem dX5_allAwakeWith_23 : decode cX5_allAwakeWith 23 = .ok (.aload_n 0, 1) := by decide +kernel
theorem dX5_allAwakeWith_24 : decode cX5_allAwakeWith 24 = .ok (.getfield 7, 3) := by decide +kernel
theorem dX5_allAwakeWith_27 : decode cX5_allAwakeWith 27 = .ok (.iconst 2, 1) := by decide +kernel
theorem dX5_allAwakeWith_28 : decode cX5_allAwakeWith 28 = .ok (.iaload, 1) := by decide +kernel
theorem dX5_allAwakeWith_29 : decode cX5_allAwakeWith 29 = .ok (.if_icmp .ge 23, 3) := by decide +kernel
theorem dX5_allAwakeWith_32 : decode cX5_allAwakeWith 32 = .ok (.aload_n 0, 1) := by decide +kernel
theorem dX5_allAwakeWith_33 : decode cX5_allAwakeWith 33 = .ok (.iload_n 2, 1) := by decide +kernel
theorem dX5_allAwakeWith_34 : decode cX5_allAwakeWith 34 = .ok (.iconst 2, 1) := by decide +kernel
theorem dX5_allAwakeWith_35 : decode cX5_allAwakeWith 35 = .ok (.invokevirtual 50, 3) := by decide +kernel
theorem dX5_allAwakeWith_38 : decode cX5_allAwakeWith 38 = .ok (.ifCond .eq 8, 3) := by decide +kernel
theorem dX5_allAwakeWith_41 : decode cX5_allAwakeWith 41 = .ok (.aload_n 0, 1) := by decide +kernel
theorem dX5_allAwakeWith_42 : decode cX5_allAwakeWith 42 = .ok (.iload_n 2, 1) := by decide +kernel
theorem dX5_allAwakeWith_43 : decode cX5_allAwakeWith 43 = .ok (.invokevirtual 78, 3) := by decide +kernel
theorem dX5_allAwakeWith_46 : decode cX5_allAwakeWith 46 = .ok (.iinc 2 1, 3) := by decide +kernel
theorem dX5_allAwakeWith_49 : decode cX5_allAwakeWith 49 = .ok (.goto (-27), 3) := by decide +kernel
theorem dX5_allAwakeWith_52 : decode cX5_allAwakeWith 52 = .ok (.iconst 0, 1) := by decide +kernel
theorem dX5_allAwakeWith_53 : decode cX5_allAwakeWith 53 = .ok (.istore_n 2, 1) := by decide +kernel
theorem dX5_allAwakeWith_54 : decode cX5_allAwakeWith 54 = .ok (.aload_n 0, 1) := by decide +kernel
theorem dX5_allAwakeWith_55 : decode cX5_allAwakeWith 55 = .ok (.invokevirtual 162, 3) := by decide +kernel
theorem dX5_allAwakeWith_58 : decode cX5_allAwakeWith 58 = .ok (.ifCond .ne 20, 3) := by decide +kernel
theorem dX5_allAwakeWith_61 : decode cX5_allAwakeWith 61 = .ok (.iload_n 2, 1) := by decide +kernel
theorem dX5_allAwakeWith_62 : decode cX5_allAwakeWith 62 = .ok (.sipush 200, 3) := by decide +kernel
theorem dX5_allAwakeWith_65 : decode cX5_allAwakeWith 65 = .ok (.if_icmp .ge 13, 3) := by decide +kernel
theorem dX5_allAwakeWith_68 : decode cX5_allAwakeWith 68 = .ok (.aload_n 0, 1) := by decide +kernel
theorem dX5_allAwakeWith_69 : decode cX5_allAwakeWith 69 = .ok (.invokevirtual 101, 3) := by decide +kernel
theorem dX5_allAwakeWith_72 : decode cX5_allAwakeWith 72 = .ok (.iinc 2 1, 3) := by decide +kernel
theorem dX5_allAwakeWith_75 : decode cX5_allAwakeWith 75 = .ok (.goto (-21), 3) := by decide +kernel
theorem dX5_allAwakeWith_78 : decode cX5_allAwakeWith 78 = .ok (.aload_n 0, 1) := by decide +kernel
theorem dX5_allAwakeWith_79 : decode cX5_allAwakeWith 79 = .ok (.invokevirtual 162, 3) := by decide +kernel
theorem dX5_allAwakeWith_82 : decode cX5_allAwakeWith 82 = .ok (.ifCond .eq 7, 3) := by decide +kernel
theorem dX5_allAwakeWith_85 : decode cX5_allAwakeWith 85 = .ok (.iload_n 2, 1) := by decide +kernel
theorem dX5_allAwakeWith_86 : decode cX5_allAwakeWith 86 = .ok (.goto 5, 3) := by decide +kernel
theorem dX5_allAwakeWith_89 : decode cX5_allAwakeWith 89 = .ok (.bipush (-6), 2) := by decide +kernel
theorem dX5_allAwakeWith_91 : decode cX5_allAwakeWith 91 = .ok (.istore_n 3, 1) := by decide +kernel
theorem dX5_allAwakeWith_92 : decode cX5_allAwakeWith 92 = .ok (.aload_n 0, 1) := by decide +kernel
theorem dX5_allAwakeWith_93 : decode cX5_allAwakeWith 93 = .ok (.getfield 13, 3) := by decide +kernel
theorem dX5_allAwakeWith_96 : decode cX5_allAwakeWith 96 = .ok (.iconst 0, 1) := by decide +kernel
theorem dX5_allAwakeWith_97 : decode cX5_allAwakeWith 97 = .ok (.aload_n 0, 1) := by decide +kernel
theorem dX5_allAwakeWith_98 : decode cX5_allAwakeWith 98 = .ok (.getfield 7, 3) := by decide +kernel
theorem dX5_allAwakeWith_101 : decode cX5_allAwakeWith 101 = .ok (.iconst 0, 1) := by decide +kernel
theorem dX5_allAwakeWith_102 : decode cX5_allAwakeWith 102 = .ok (.invokestatic 38, 3) := by decide +kernel
theorem dX5_allAwakeWith_105 : decode cX5_allAwakeWith 105 = .ok (.iload_n 3, 1) := by decide +kernel
theorem dX5_allAwakeWith_106 : decode cX5_allAwakeWith 106 = .ok (.ireturn, 1) := by decide +kernel
theorem dX5_allAwake_0 : decode cX5_allAwake 0 = .ok (.aload_n 0, 1) := by decide +kernel
theorem dX5_allAwake_1 : decode cX5_allAwake 1 = .ok (.aload_n 0, 1) := by decide +kernel
theorem dX5_allAwake_2 : decode cX5_allAwake 2 = .ok (.getfield 7, 3) := by decide +kernel
theorem dX5_allAwake_5 : decode cX5_allAwake 5 = .ok (.iconst 0, 1) := by decide +kernel
theorem dX5_allAwake_6 : decode cX5_allAwake 6 = .ok (.iaload, 1) := by decide +kernel
theorem dX5_allAwake_7 : decode cX5_allAwake 7 = .ok (.invokevirtual 166, 3) := by decide +kernel
theorem dX5_allAwake_10 : decode cX5_allAwake 10 = .ok (.ireturn, 1) := by decide +kernel
theorem dX5_leastCurrent_0 : decode cX5_leastCurrent 0 = .ok (.iload_n 1, 1) := by decide +kernel
theorem dX5_leastCurrent_1 : decode cX5_leastCurrent 1 = .ok (.iconst 0, 1) := by decide +kernel
theorem dX5_leastCurrent_2 : decode cX5_leastCurrent 2 = .ok (.sipush 200, 3) := by decide +kernel
theorem dX5_leastCurrent_5 : decode cX5_leastCurrent 5 = .ok (.invokestatic 42, 3) := by decide +kernel
theorem dX5_leastCurrent_8 : decode cX5_leastCurrent 8 = .ok (.ifCond .ne 6, 3) := by decide +kernel
theorem dX5_leastCurrent_11 : decode cX5_leastCurrent 11 = .ok (.bipush (-2), 2) := by decide +kernel
theorem dX5_leastCurrent_13 : decode cX5_leastCurrent 13 = .ok (.ireturn, 1) := by decide +kernel
theorem dX5_leastCurrent_14 : decode cX5_leastCurrent 14 = .ok (.iconst 1, 1) := by decide +kernel
theorem dX5_leastCurrent_15 : decode cX5_leastCurrent 15 = .ok (.istore_n 2, 1) := by decide +kernel
theorem dX5_leastCurrent_16 : decode cX5_leastCurrent 16 = .ok (.iload_n 2, 1) := by decide +kernel
theorem dX5_leastCurrent_17 : decode cX5_leastCurrent 17 = .ok (.bipush 60, 2) := by decide +kernel
theorem dX5_leastCurrent_19 : decode cX5_leastCurrent 19 = .ok (.if_icmp .gt 28, 3) := by decide +kernel
theorem dX5_leastCurrent_22 : decode cX5_leastCurrent 22 = .ok (.aload_n 0, 1) := by decide +kernel
theorem dX5_leastCurrent_23 : decode cX5_leastCurrent 23 = .ok (.iload_n 2, 1) := by decide +kernel
theorem dX5_leastCurrent_24 : decode cX5_leastCurrent 24 = .ok (.invokevirtual 166, 3) := by decide +kernel
theorem dX5_leastCurrent_27 : decode cX5_leastCurrent 27 = .ok (.istore_n 3, 1) := by decide +kernel
theorem dX5_leastCurrent_28 : decode cX5_leastCurrent 28 = .ok (.iload_n 3, 1) := by decide +kernel
theorem dX5_leastCurrent_29 : decode cX5_leastCurrent 29 = .ok (.bipush (-6), 2) := by decide +kernel
theorem dX5_leastCurrent_31 : decode cX5_leastCurrent 31 = .ok (.if_icmp .eq 10, 3) := by decide +kernel
theorem dX5_leastCurrent_34 : decode cX5_leastCurrent 34 = .ok (.iload_n 3, 1) := by decide +kernel
theorem dX5_leastCurrent_35 : decode cX5_leastCurrent 35 = .ok (.iload_n 1, 1) := by decide +kernel
theorem dX5_leastCurrent_36 : decode cX5_leastCurrent 36 = .ok (.if_icmp .gt 5, 3) := by decide +kernel
theorem dX5_leastCurrent_39 : decode cX5_leastCurrent 39 = .ok (.iload_n 2, 1) := by decide +kernel
theorem dX5_leastCurrent_40 : decode cX5_leastCurrent 40 = .ok (.ireturn, 1) := by decide +kernel
theorem dX5_leastCurrent_41 : decode cX5_leastCurrent 41 = .ok (.iinc 2 1, 3) := by decide +kernel
theorem dX5_leastCurrent_44 : decode cX5_leastCurrent 44 = .ok (.goto (-28), 3) := by decide +kernel
theorem dX5_leastCurrent_47 : decode cX5_leastCurrent 47 = .ok (.bipush (-6), 2) := by decide +kernel
theorem dX5_leastCurrent_49 : decode cX5_leastCurrent 49 = .ok (.ireturn, 1) := by decide +kernel
theorem dX5_quiet_0 : decode cX5_quiet 0 = .ok (.iload_n 1, 1) := by decide +kernel
theorem dX5_quiet_1 : decode cX5_quiet 1 = .ok (.iconst 1, 1) := by decide +kernel
theorem dX5_quiet_2 : decode cX5_quiet 2 = .ok (.bipush 50, 2) := by decide +kernel
theorem dX5_quiet_4 : decode cX5_quiet 4 = .ok (.invokestatic 42, 3) := by decide +kernel
theorem dX5_quiet_7 : decode cX5_quiet 7 = .ok (.ifCond .ne 6, 3) := by decide +kernel
theorem dX5_quiet_10 : decode cX5_quiet 10 = .ok (.bipush (-2), 2) := by decide +kernel
theorem dX5_quiet_12 : decode cX5_quiet 12 = .ok (.ireturn, 1) := by decide +kernel
theorem dX5_quiet_13 : decode cX5_quiet 13 = .ok (.iconst 0, 1) := by decide +kernel
theorem dX5_quiet_14 : decode cX5_quiet 14 = .ok (.istore_n 2, 1) := by decide +kernel
theorem dX5_quiet_15 : decode cX5_quiet 15 = .ok (.iconst 0, 1) := by decide +kernel
theorem dX5_quiet_16 : decode cX5_quiet 16 = .ok (.istore_n 3, 1) := by decide +kernel
theorem dX5_quiet_17 : decode cX5_quiet 17 = .ok (.iload_n 3, 1) := by decide +kernel
theorem dX5_quiet_18 : decode cX5_quiet 18 = .ok (.aload_n 0, 1) := by decide +kernel
theorem dX5_quiet_19 : decode cX5_quiet 19 = .ok (.getfield 7, 3) := by decide +kernel
theorem dX5_quiet_22 : decode cX5_quiet 22 = .ok (.iconst 2, 1) := by decide +kernel
theorem dX5_quiet_23 : decode cX5_quiet 23 = .ok (.iaload, 1) := by decide +kernel
theorem dX5_quiet_24 : decode cX5_quiet 24 = .ok (.if_icmp .ge 70, 3) := by decide +kernel
theorem dX5_quiet_27 : decode cX5_quiet 27 = .ok (.aload_n 0, 1) := by decide +kernel
theorem dX5_quiet_28 : decode cX5_quiet 28 = .ok (.iload_n 3, 1) := by decide +kernel
theorem dX5_quiet_29 : decode cX5_quiet 29 = .ok (.iconst 0, 1) := by decide +kernel
theorem dX5_quiet_30 : decode cX5_quiet 30 = .ok (.invokevirtual 50, 3) := by decide +kernel
theorem dX5_quiet_33 : decode cX5_quiet 33 = .ok (.ifCond .eq 55, 3) := by decide +kernel
theorem dX5_quiet_36 : decode cX5_quiet 36 = .ok (.aload_n 0, 1) := by decide +kernel
theorem dX5_quiet_37 : decode cX5_quiet 37 = .ok (.getfield 7, 3) := by decide +kernel
theorem dX5_quiet_40 : decode cX5_quiet 40 = .ok (.iconst 0, 1) := by decide +kernel
theorem dX5_quiet_41 : decode cX5_quiet 41 = .ok (.aload_n 0, 1) := by decide +kernel
theorem dX5_quiet_42 : decode cX5_quiet 42 = .ok (.getfield 13, 3) := by decide +kernel
theorem dX5_quiet_45 : decode cX5_quiet 45 = .ok (.iconst 0, 1) := by decide +kernel
theorem dX5_quiet_46 : decode cX5_quiet 46 = .ok (.invokestatic 38, 3) := by decide +kernel
theorem dX5_quiet_49 : decode cX5_quiet 49 = .ok (.aload_n 0, 1) := by decide +kernel
theorem dX5_quiet_50 : decode cX5_quiet 50 = .ok (.iload_n 3, 1) := by decide +kernel
theorem dX5_quiet_51 : decode cX5_quiet 51 = .ok (.bipush 7, 2) := by decide +kernel
theorem dX5_quiet_53 : decode cX5_quiet 53 = .ok (.iconst 1, 1) := by decide +kernel
theorem dX5_quiet_54 : decode cX5_quiet 54 = .ok (.invokevirtual 68, 3) := by decide +kernel
theorem dX5_quiet_57 : decode cX5_quiet 57 = .ok (.iload_n 2, 1) := by decide +kernel
theorem dX5_quiet_58 : decode cX5_quiet 58 = .ok (.aload_n 0, 1) := by decide +kernel
theorem dX5_quiet_59 : decode cX5_quiet 59 = .ok (.iload_n 1, 1) := by decide +kernel
theorem dX5_quiet_60 : decode cX5_quiet 60 = .ok (.invokevirtual 153, 3) := by decide +kernel
theorem dX5_quiet_63 : decode cX5_quiet 63 = .ok (.ifCond .ne 9, 3) := by decide +kernel
theorem dX5_quiet_66 : decode cX5_quiet 66 = .ok (.iconst 1, 1) := by decide +kernel
theorem dX5_quiet_67 : decode cX5_quiet 67 = .ok (.iload_n 3, 1) := by decide +kernel
theorem dX5_quiet_68 : decode cX5_quiet 68 = .ok (.ishl, 1) := by decide +kernel
theorem dX5_quiet_69 : decode cX5_quiet 69 = .ok (.goto 4, 3) := by decide +kernel
theorem dX5_quiet_72 : decode cX5_quiet 72 = .ok (.iconst 0, 1) := by decide +kernel
theorem dX5_quiet_73 : decode cX5_quiet 73 = .ok (.ior, 1) := by decide +kernel
theorem dX5_quiet_74 : decode cX5_quiet 74 = .ok (.istore_n 2, 1) := by decide +kernel
theorem dX5_quiet_75 : decode cX5_quiet 75 = .ok (.aload_n 0, 1) := by decide +kernel
theorem dX5_quiet_76 : decode cX5_quiet 76 = .ok (.getfield 13, 3) := by decide +kernel
theorem dX5_quiet_79 : decode cX5_quiet 79 = .ok (.iconst 0, 1) := by decide +kernel
theorem dX5_quiet_80 : decode cX5_quiet 80 = .ok (.aload_n 0, 1) := by decide +kernel
theorem dX5_quiet_81 : decode cX5_quiet 81 = .ok (.getfield 7, 3) := by decide +kernel
theorem dX5_quiet_84 : decode cX5_quiet 84 = .ok (.iconst 0, 1) := by decide +kernel
theorem dX5_quiet_85 : decode cX5_quiet 85 = .ok (.invokestatic 38, 3) := by decide +kernel
theorem dX5_quiet_88 : decode cX5_quiet 88 = .ok (.iinc 3 1, 3) := by decide +kernel
theorem dX5_quiet_91 : decode cX5_quiet 91 = .ok (.goto (-74), 3) := by decide +kernel
theorem dX5_quiet_94 : decode cX5_quiet 94 = .ok (.iload_n 2, 1) := by decide +kernel
theorem dX5_quiet_95 : decode cX5_quiet 95 = .ok (.ireturn, 1) := by decide +kernel
theorem dX5_put_0 : decode cX5_put 0 = .ok (.iconst 0, 1) := by decide +kernel
theorem dX5_put_1 : decode cX5_put 1 = .ok (.istore_n 3, 1) := by decide +kernel
theorem dX5_put_2 : decode cX5_put 2 = .ok (.lload_n 1, 1) := by decide +kernel
theorem dX5_put_3 : decode cX5_put 3 = .ok (.lstore 4, 2) := by decide +kernel
theorem dX5_put_5 : decode cX5_put 5 = .ok (.iconst 1, 1) := by decide +kernel
theorem dX5_put_6 : decode cX5_put 6 = .ok (.istore 6, 2) := by decide +kernel
theorem dX5_put_8 : decode cX5_put 8 = .ok (.iload_n 3, 1) := by decide +kernel
theorem dX5_put_9 : decode cX5_put 9 = .ok (.bipush 8, 2) := by decide +kernel
theorem dX5_put_11 : decode cX5_put 11 = .ok (.if_icmp .ge 56, 3) := by decide +kernel
theorem dX5_put_14 : decode cX5_put 14 = .ok (.lload 4, 2) := by decide +kernel
theorem dX5_put_16 : decode cX5_put 16 = .ok (.ldc2_w 169, 3) := by decide +kernel
theorem dX5_put_19 : decode cX5_put 19 = .ok (.land, 1) := by decide +kernel
theorem dX5_put_20 : decode cX5_put 20 = .ok (.lconst 0, 1) := by decide +kernel
theorem dX5_put_21 : decode cX5_put 21 = .ok (.lcmp, 1) := by decide +kernel
theorem dX5_put_22 : decode cX5_put 22 = .ok (.ifCond .eq 45, 3) := by decide +kernel
theorem dX5_put_25 : decode cX5_put 25 = .ok (.iload 6, 2) := by decide +kernel
theorem dX5_put_27 : decode cX5_put 27 = .ok (.ifCond .eq 24, 3) := by decide +kernel
theorem dX5_put_30 : decode cX5_put 30 = .ok (.lload 4, 2) := by decide +kernel
theorem dX5_put_32 : decode cX5_put 32 = .ok (.ldc2_w 169, 3) := by decide +kernel
theorem dX5_put_35 : decode cX5_put 35 = .ok (.land, 1) := by decide +kernel
theorem dX5_put_36 : decode cX5_put 36 = .ok (.l2i, 1) := by decide +kernel
theorem dX5_put_37 : decode cX5_put 37 = .ok (.bipush 33, 2) := by decide +kernel
theorem dX5_put_39 : decode cX5_put 39 = .ok (.bipush 126, 2) := by decide +kernel
theorem dX5_put_41 : decode cX5_put 41 = .ok (.invokestatic 42, 3) := by decide +kernel
theorem dX5_put_44 : decode cX5_put 44 = .ok (.ifCond .eq 7, 3) := by decide +kernel
theorem dX5_put_47 : decode cX5_put 47 = .ok (.iconst 1, 1) := by decide +kernel
theorem dX5_put_48 : decode cX5_put 48 = .ok (.goto 4, 3) := by decide +kernel
theorem dX5_put_51 : decode cX5_put 51 = .ok (.iconst 0, 1) := by decide +kernel
theorem dX5_put_52 : decode cX5_put 52 = .ok (.istore 6, 2) := by decide +kernel
theorem dX5_put_54 : decode cX5_put 54 = .ok (.lload 4, 2) := by decide +kernel
theorem dX5_put_56 : decode cX5_put 56 = .ok (.bipush 8, 2) := by decide +kernel
theorem dX5_put_58 : decode cX5_put 58 = .ok (.lushr, 1) := by decide +kernel
theorem dX5_put_59 : decode cX5_put 59 = .ok (.lstore 4, 2) := by decide +kernel
theorem dX5_put_61 : decode cX5_put 61 = .ok (.iinc 3 1, 3) := by decide +kernel
theorem dX5_put_64 : decode cX5_put 64 = .ok (.goto (-56), 3) := by decide +kernel
theorem dX5_put_67 : decode cX5_put 67 = .ok (.iload_n 3, 1) := by decide +kernel
theorem dX5_put_68 : decode cX5_put 68 = .ok (.ifCond .eq 15, 3) := by decide +kernel
theorem dX5_put_71 : decode cX5_put 71 = .ok (.iload 6, 2) := by decide +kernel
theorem dX5_put_73 : decode cX5_put 73 = .ok (.ifCond .eq 10, 3) := by decide +kernel
theorem dX5_put_76 : decode cX5_put 76 = .ok (.lload 4, 2) := by decide +kernel
theorem dX5_put_78 : decode cX5_put 78 = .ok (.lconst 0, 1) := by decide +kernel
theorem dX5_put_79 : decode cX5_put 79 = .ok (.lcmp, 1) := by decide +kernel
theorem dX5_put_80 : decode cX5_put 80 = .ok (.ifCond .eq 6, 3) := by decide +kernel
theorem dX5_put_83 : decode cX5_put 83 = .ok (.bipush (-2), 2) := by decide +kernel
theorem dX5_put_85 : decode cX5_put 85 = .ok (.ireturn, 1) := by decide +kernel
theorem dX5_put_86 : decode cX5_put 86 = .ok (.aload_n 0, 1) := by decide +kernel
theorem dX5_put_87 : decode cX5_put 87 = .ok (.getfield 117, 3) := by decide +kernel
theorem dX5_put_90 : decode cX5_put 90 = .ok (.iload_n 3, 1) := by decide +kernel
theorem dX5_put_91 : decode cX5_put 91 = .ok (.iadd, 1) := by decide +kernel
theorem dX5_put_92 : decode cX5_put 92 = .ok (.bipush 64, 2) := by decide +kernel
theorem dX5_put_94 : decode cX5_put 94 = .ok (.if_icmp .le 6, 3) := by decide +kernel
theorem dX5_put_97 : decode cX5_put 97 = .ok (.bipush (-4), 2) := by decide +kernel
theorem dX5_put_99 : decode cX5_put 99 = .ok (.ireturn, 1) := by decide +kernel
theorem dX5_put_100 : decode cX5_put 100 = .ok (.iload_n 3, 1) := by decide +kernel
theorem dX5_put_101 : decode cX5_put 101 = .ok (.iconst 1, 1) := by decide +kernel
theorem dX5_put_102 : decode cX5_put 102 = .ok (.isub, 1) := by decide +kernel
theorem dX5_put_103 : decode cX5_put 103 = .ok (.istore 7, 2) := by decide +kernel
theorem dX5_put_105 : decode cX5_put 105 = .ok (.iload 7, 2) := by decide +kernel
theorem dX5_put_107 : decode cX5_put 107 = .ok (.ifCond .lt 40, 3) := by decide +kernel
theorem dX5_put_110 : decode cX5_put 110 = .ok (.aload_n 0, 1) := by decide +kernel
theorem dX5_put_111 : decode cX5_put 111 = .ok (.getfield 25, 3) := by decide +kernel
theorem dX5_put_114 : decode cX5_put 114 = .ok (.aload_n 0, 1) := by decide +kernel
theorem dX5_put_115 : decode cX5_put 115 = .ok (.getfield 117, 3) := by decide +kernel
theorem dX5_put_118 : decode cX5_put 118 = .ok (.lload_n 1, 1) := by decide +kernel
theorem dX5_put_119 : decode cX5_put 119 = .ok (.bipush 8, 2) := by decide +kernel
theorem dX5_put_121 : decode cX5_put 121 = .ok (.iload 7, 2) := by decide +kernel
theorem dX5_put_123 : decode cX5_put 123 = .ok (.imul, 1) := by decide +kernel
theorem dX5_put_124 : decode cX5_put 124 = .ok (.lushr, 1) := by decide +kernel
theorem dX5_put_125 : decode cX5_put 125 = .ok (.ldc2_w 169, 3) := by decide +kernel
theorem dX5_put_128 : decode cX5_put 128 = .ok (.land, 1) := by decide +kernel
theorem dX5_put_129 : decode cX5_put 129 = .ok (.l2i, 1) := by decide +kernel
theorem dX5_put_130 : decode cX5_put 130 = .ok (.iastore, 1) := by decide +kernel
theorem dX5_put_131 : decode cX5_put 131 = .ok (.aload_n 0, 1) := by decide +kernel
theorem dX5_put_132 : decode cX5_put 132 = .ok (.dup, 1) := by decide +kernel
theorem dX5_put_133 : decode cX5_put 133 = .ok (.getfield 117, 3) := by decide +kernel
theorem dX5_put_136 : decode cX5_put 136 = .ok (.iconst 1, 1) := by decide +kernel
theorem dX5_put_137 : decode cX5_put 137 = .ok (.iadd, 1) := by decide +kernel
theorem dX5_put_138 : decode cX5_put 138 = .ok (.putfield 117, 3) := by decide +kernel
theorem dX5_put_141 : decode cX5_put 141 = .ok (.iinc 7 (-1), 3) := by decide +kernel
theorem dX5_put_144 : decode cX5_put 144 = .ok (.goto (-39), 3) := by decide +kernel
theorem dX5_put_147 : decode cX5_put 147 = .ok (.aload_n 0, 1) := by decide +kernel
theorem dX5_put_148 : decode cX5_put 148 = .ok (.getfield 117, 3) := by decide +kernel
theorem dX5_put_151 : decode cX5_put 151 = .ok (.ireturn, 1) := by decide +kernel
theorem dX5_wipe_0 : decode cX5_wipe 0 = .ok (.aload_n 0, 1) := by decide +kernel
theorem dX5_wipe_1 : decode cX5_wipe 1 = .ok (.getfield 117, 3) := by decide +kernel
theorem dX5_wipe_4 : decode cX5_wipe 4 = .ok (.istore_n 1, 1) := by decide +kernel
theorem dX5_wipe_5 : decode cX5_wipe 5 = .ok (.aload_n 0, 1) := by decide +kernel
theorem dX5_wipe_6 : decode cX5_wipe 6 = .ok (.iconst 0, 1) := by decide +kernel
theorem dX5_wipe_7 : decode cX5_wipe 7 = .ok (.putfield 117, 3) := by decide +kernel
theorem dX5_wipe_10 : decode cX5_wipe 10 = .ok (.iload_n 1, 1) := by decide +kernel
theorem dX5_wipe_11 : decode cX5_wipe 11 = .ok (.ireturn, 1) := by decide +kernel
theorem dX5_character_0 : decode cX5_character 0 = .ok (.iload_n 1, 1) := by decide +kernel
theorem dX5_character_1 : decode cX5_character 1 = .ok (.aload_n 0, 1) := by decide +kernel
theorem dX5_character_2 : decode cX5_character 2 = .ok (.getfield 117, 3) := by decide +kernel
theorem dX5_character_5 : decode cX5_character 5 = .ok (.if_icmp .ge 12, 3) := by decide +kernel
theorem dX5_character_8 : decode cX5_character 8 = .ok (.aload_n 0, 1) := by decide +kernel
theorem dX5_character_9 : decode cX5_character 9 = .ok (.getfield 25, 3) := by decide +kernel
theorem dX5_character_12 : decode cX5_character 12 = .ok (.iload_n 1, 1) := by decide +kernel
theorem dX5_character_13 : decode cX5_character 13 = .ok (.iaload, 1) := by decide +kernel
theorem dX5_character_14 : decode cX5_character 14 = .ok (.goto 4, 3) := by decide +kernel
theorem dX5_character_17 : decode cX5_character 17 = .ok (.iconst (-1), 1) := by decide +kernel
theorem dX5_character_18 : decode cX5_character 18 = .ok (.ireturn, 1) := by decide +kernel
theorem dX5_isNext_0 : decode cX5_isNext 0 = .ok (.aload_n 0, 1) := by decide +kernel
theorem dX5_isNext_1 : decode cX5_isNext 1 = .ok (.aload_n 0, 1) := by decide +kernel
theorem dX5_isNext_2 : decode cX5_isNext 2 = .ok (.getfield 114, 3) := by decide +kernel
theorem dX5_isNext_5 : decode cX5_isNext 5 = .ok (.invokevirtual 171, 3) := by decide +kernel
theorem dX5_isNext_8 : decode cX5_isNext 8 = .ok (.iload_n 1, 1) := by decide +kernel
theorem dX5_isNext_9 : decode cX5_isNext 9 = .ok (.if_icmp .ne 7, 3) := by decide +kernel
theorem dX5_isNext_12 : decode cX5_isNext 12 = .ok (.iconst 1, 1) := by decide +kernel
theorem dX5_isNext_13 : decode cX5_isNext 13 = .ok (.goto 4, 3) := by decide +kernel
theorem dX5_isNext_16 : decode cX5_isNext 16 = .ok (.iconst 0, 1) := by decide +kernel
theorem dX5_isNext_17 : decode cX5_isNext 17 = .ok (.istore_n 2, 1) := by decide +kernel
theorem dX5_isNext_18 : decode cX5_isNext 18 = .ok (.aload_n 0, 1) := by decide +kernel
theorem dX5_isNext_19 : decode cX5_isNext 19 = .ok (.dup, 1) := by decide +kernel
theorem dX5_isNext_20 : decode cX5_isNext 20 = .ok (.getfield 114, 3) := by decide +kernel
theorem dX5_isNext_23 : decode cX5_isNext 23 = .ok (.iload_n 2, 1) := by decide +kernel
theorem dX5_isNext_24 : decode cX5_isNext 24 = .ok (.ifCond .eq 7, 3) := by decide +kernel
theorem dX5_isNext_27 : decode cX5_isNext 27 = .ok (.iconst 1, 1) := by decide +kernel
theorem dX5_isNext_28 : decode cX5_isNext 28 = .ok (.goto 4, 3) := by decide +kernel
theorem dX5_isNext_31 : decode cX5_isNext 31 = .ok (.iconst 0, 1) := by decide +kernel
theorem dX5_isNext_32 : decode cX5_isNext 32 = .ok (.iadd, 1) := by decide +kernel
theorem dX5_isNext_33 : decode cX5_isNext 33 = .ok (.putfield 114, 3) := by decide +kernel
theorem dX5_isNext_36 : decode cX5_isNext 36 = .ok (.iload_n 2, 1) := by decide +kernel
theorem dX5_isNext_37 : decode cX5_isNext 37 = .ok (.ireturn, 1) := by decide +kernel
theorem dX5_takeDigit_0 : decode cX5_takeDigit 0 = .ok (.aload_n 0, 1) := by decide +kernel
theorem dX5_takeDigit_1 : decode cX5_takeDigit 1 = .ok (.aload_n 0, 1) := by decide +kernel
theorem dX5_takeDigit_2 : decode cX5_takeDigit 2 = .ok (.getfield 114, 3) := by decide +kernel
theorem dX5_takeDigit_5 : decode cX5_takeDigit 5 = .ok (.invokevirtual 171, 3) := by decide +kernel
theorem dX5_takeDigit_8 : decode cX5_takeDigit 8 = .ok (.bipush 48, 2) := by decide +kernel
theorem dX5_takeDigit_10 : decode cX5_takeDigit 10 = .ok (.isub, 1) := by decide +kernel
theorem dX5_takeDigit_11 : decode cX5_takeDigit 11 = .ok (.istore_n 3, 1) := by decide +kernel
theorem dX5_takeDigit_12 : decode cX5_takeDigit 12 = .ok (.iload_n 3, 1) := by decide +kernel
theorem dX5_takeDigit_13 : decode cX5_takeDigit 13 = .ok (.iload_n 1, 1) := by decide +kernel
theorem dX5_takeDigit_14 : decode cX5_takeDigit 14 = .ok (.iload_n 2, 1) := by decide +kernel
theorem dX5_takeDigit_15 : decode cX5_takeDigit 15 = .ok (.invokestatic 42, 3) := by decide +kernel
theorem dX5_takeDigit_18 : decode cX5_takeDigit 18 = .ok (.ifCond .ne 5, 3) := by decide +kernel
theorem dX5_takeDigit_21 : decode cX5_takeDigit 21 = .ok (.iconst (-1), 1) := by decide +kernel
theorem dX5_takeDigit_22 : decode cX5_takeDigit 22 = .ok (.ireturn, 1) := by decide +kernel
theorem dX5_takeDigit_23 : decode cX5_takeDigit 23 = .ok (.aload_n 0, 1) := by decide +kernel
theorem dX5_takeDigit_24 : decode cX5_takeDigit 24 = .ok (.dup, 1) := by decide +kernel
theorem dX5_takeDigit_25 : decode cX5_takeDigit 25 = .ok (.getfield 114, 3) := by decide +kernel
theorem dX5_takeDigit_28 : decode cX5_takeDigit 28 = .ok (.iconst 1, 1) := by decide +kernel
theorem dX5_takeDigit_29 : decode cX5_takeDigit 29 = .ok (.iadd, 1) := by decide +kernel
theorem dX5_takeDigit_30 : decode cX5_takeDigit 30 = .ok (.putfield 114, 3) := by decide +kernel
theorem dX5_takeDigit_33 : decode cX5_takeDigit 33 = .ok (.iload_n 3, 1) := by decide +kernel
theorem dX5_takeDigit_34 : decode cX5_takeDigit 34 = .ok (.ireturn, 1) := by decide +kernel
theorem dX5_takeLoad_0 : decode cX5_takeLoad 0 = .ok (.aload_n 0, 1) := by decide +kernel
theorem dX5_takeLoad_1 : decode cX5_takeLoad 1 = .ok (.iconst 1, 1) := by decide +kernel
theorem dX5_takeLoad_2 : decode cX5_takeLoad 2 = .ok (.bipush 9, 2) := by decide +kernel
theorem dX5_takeLoad_4 : decode cX5_takeLoad 4 = .ok (.invokevirtual 174, 3) := by decide +kernel
theorem dX5_takeLoad_7 : decode cX5_takeLoad 7 = .ok (.istore_n 1, 1) := by decide +kernel
theorem dX5_takeLoad_8 : decode cX5_takeLoad 8 = .ok (.iload_n 1, 1) := by decide +kernel
theorem dX5_takeLoad_9 : decode cX5_takeLoad 9 = .ok (.iconst 1, 1) := by decide +kernel
theorem dX5_takeLoad_10 : decode cX5_takeLoad 10 = .ok (.if_icmp .eq 8, 3) := by decide +kernel
theorem dX5_takeLoad_13 : decode cX5_takeLoad 13 = .ok (.iload_n 1, 1) := by decide +kernel
theorem dX5_takeLoad_14 : decode cX5_takeLoad 14 = .ok (.iconst 2, 1) := by decide +kernel
theorem dX5_takeLoad_15 : decode cX5_takeLoad 15 = .ok (.if_icmp .ne 35, 3) := by decide +kernel
theorem dX5_takeLoad_18 : decode cX5_takeLoad 18 = .ok (.aload_n 0, 1) := by decide +kernel
theorem dX5_takeLoad_19 : decode cX5_takeLoad 19 = .ok (.iconst 0, 1) := by decide +kernel
theorem dX5_takeLoad_20 : decode cX5_takeLoad 20 = .ok (.iload_n 1, 1) := by decide +kernel
theorem dX5_takeLoad_21 : decode cX5_takeLoad 21 = .ok (.iconst 1, 1) := by decide +kernel
theorem dX5_takeLoad_22 : decode cX5_takeLoad 22 = .ok (.if_icmp .ne 8, 3) := by decide +kernel
theorem dX5_takeLoad_25 : decode cX5_takeLoad 25 = .ok (.bipush 9, 2) := by decide +kernel
theorem dX5_takeLoad_27 : decode cX5_takeLoad 27 = .ok (.goto 4, 3) := by decide +kernel
theorem dX5_takeLoad_30 : decode cX5_takeLoad 30 = .ok (.iconst 0, 1) := by decide +kernel
theorem dX5_takeLoad_31 : decode cX5_takeLoad 31 = .ok (.invokevirtual 174, 3) := by decide +kernel
theorem dX5_takeLoad_34 : decode cX5_takeLoad 34 = .ok (.istore_n 2, 1) := by decide +kernel
theorem dX5_takeLoad_35 : decode cX5_takeLoad 35 = .ok (.iload_n 2, 1) := by decide +kernel
theorem dX5_takeLoad_36 : decode cX5_takeLoad 36 = .ok (.ifCond .ge 7, 3) := by decide +kernel
theorem dX5_takeLoad_39 : decode cX5_takeLoad 39 = .ok (.iload_n 1, 1) := by decide +kernel
theorem dX5_takeLoad_40 : decode cX5_takeLoad 40 = .ok (.goto 9, 3) := by decide +kernel
theorem dX5_takeLoad_43 : decode cX5_takeLoad 43 = .ok (.bipush 10, 2) := by decide +kernel
theorem dX5_takeLoad_45 : decode cX5_takeLoad 45 = .ok (.iload_n 1, 1) := by decide +kernel
theorem dX5_takeLoad_46 : decode cX5_takeLoad 46 = .ok (.imul, 1) := by decide +kernel
theorem dX5_takeLoad_47 : decode cX5_takeLoad 47 = .ok (.iload_n 2, 1) := by decide +kernel
theorem dX5_takeLoad_48 : decode cX5_takeLoad 48 = .ok (.iadd, 1) := by decide +kernel
theorem dX5_takeLoad_49 : decode cX5_takeLoad 49 = .ok (.istore_n 1, 1) := by decide +kernel
theorem dX5_takeLoad_50 : decode cX5_takeLoad 50 = .ok (.iload_n 1, 1) := by decide +kernel
theorem dX5_takeLoad_51 : decode cX5_takeLoad 51 = .ok (.ireturn, 1) := by decide +kernel
theorem dX5_readsIsland_0 : decode cX5_readsIsland 0 = .ok (.aload_n 0, 1) := by decide +kernel
theorem dX5_readsIsland_1 : decode cX5_readsIsland 1 = .ok (.iconst 0, 1) := by decide +kernel
theorem dX5_readsIsland_2 : decode cX5_readsIsland 2 = .ok (.putfield 126, 3) := by decide +kernel
theorem dX5_readsIsland_5 : decode cX5_readsIsland 5 = .ok (.aload_n 0, 1) := by decide +kernel
theorem dX5_readsIsland_6 : decode cX5_readsIsland 6 = .ok (.aload_n 0, 1) := by decide +kernel
theorem dX5_readsIsland_7 : decode cX5_readsIsland 7 = .ok (.bipush 105, 2) := by decide +kernel
theorem dX5_readsIsland_9 : decode cX5_readsIsland 9 = .ok (.invokevirtual 123, 3) := by decide +kernel
theorem dX5_readsIsland_12 : decode cX5_readsIsland 12 = .ok (.ifCond .eq 7, 3) := by decide +kernel
theorem dX5_readsIsland_15 : decode cX5_readsIsland 15 = .ok (.iconst 1, 1) := by decide +kernel
theorem dX5_readsIsland_16 : decode cX5_readsIsland 16 = .ok (.goto 4, 3) := by decide +kernel
theorem dX5_readsIsland_19 : decode cX5_readsIsland 19 = .ok (.iconst 0, 1) := by decide +kernel
theorem dX5_readsIsland_20 : decode cX5_readsIsland 20 = .ok (.putfield 135, 3) := by decide +kernel
theorem dX5_readsIsland_23 : decode cX5_readsIsland 23 = .ok (.aload_n 0, 1) := by decide +kernel
theorem dX5_readsIsland_24 : decode cX5_readsIsland 24 = .ok (.aload_n 0, 1) := by decide +kernel
theorem dX5_readsIsland_25 : decode cX5_readsIsland 25 = .ok (.bipush 107, 2) := by decide +kernel
theorem dX5_readsIsland_27 : decode cX5_readsIsland 27 = .ok (.invokevirtual 123, 3) := by decide +kernel
theorem dX5_readsIsland_30 : decode cX5_readsIsland 30 = .ok (.ifCond .eq 7, 3) := by decide +kernel
theorem dX5_readsIsland_33 : decode cX5_readsIsland 33 = .ok (.iconst 1, 1) := by decide +kernel
theorem dX5_readsIsland_34 : decode cX5_readsIsland 34 = .ok (.goto 4, 3) := by decide +kernel
theorem dX5_readsIsland_37 : decode cX5_readsIsland 37 = .ok (.iconst 0, 1) := by decide +kernel
theorem dX5_readsIsland_38 : decode cX5_readsIsland 38 = .ok (.putfield 138, 3) := by decide +kernel
theorem dX5_readsIsland_41 : decode cX5_readsIsland 41 = .ok (.aload_n 0, 1) := by decide +kernel
theorem dX5_readsIsland_42 : decode cX5_readsIsland 42 = .ok (.aload_n 0, 1) := by decide +kernel
theorem dX5_readsIsland_43 : decode cX5_readsIsland 43 = .ok (.iconst 1, 1) := by decide +kernel
theorem dX5_readsIsland_44 : decode cX5_readsIsland 44 = .ok (.bipush 9, 2) := by decide +kernel
theorem dX5_readsIsland_46 : decode cX5_readsIsland 46 = .ok (.invokevirtual 174, 3) := by decide +kernel
theorem dX5_readsIsland_49 : decode cX5_readsIsland 49 = .ok (.putfield 141, 3) := by decide +kernel
theorem dX5_readsIsland_52 : decode cX5_readsIsland 52 = .ok (.aload_n 0, 1) := by decide +kernel
theorem dX5_readsIsland_53 : decode cX5_readsIsland 53 = .ok (.aload_n 0, 1) := by decide +kernel
theorem dX5_readsIsland_54 : decode cX5_readsIsland 54 = .ok (.getfield 141, 3) := by decide +kernel
theorem dX5_readsIsland_57 : decode cX5_readsIsland 57 = .ok (.ifCond .lt 19, 3) := by decide +kernel
theorem dX5_readsIsland_60 : decode cX5_readsIsland 60 = .ok (.aload_n 0, 1) := by decide +kernel
theorem dX5_readsIsland_61 : decode cX5_readsIsland 61 = .ok (.bipush 44, 2) := by decide +kernel
theorem dX5_readsIsland_63 : decode cX5_readsIsland 63 = .ok (.invokevirtual 123, 3) := by decide +kernel
theorem dX5_readsIsland_66 : decode cX5_readsIsland 66 = .ok (.ifCond .eq 10, 3) := by decide +kernel
theorem dX5_readsIsland_69 : decode cX5_readsIsland 69 = .ok (.aload_n 0, 1) := by decide +kernel
theorem dX5_readsIsland_70 : decode cX5_readsIsland 70 = .ok (.invokevirtual 177, 3) := by decide +kernel
theorem dX5_readsIsland_73 : decode cX5_readsIsland 73 = .ok (.goto 4, 3) := by decide +kernel
theorem dX5_readsIsland_76 : decode cX5_readsIsland 76 = .ok (.iconst (-1), 1) := by decide +kernel
theorem dX5_readsIsland_77 : decode cX5_readsIsland 77 = .ok (.putfield 144, 3) := by decide +kernel
theorem dX5_readsIsland_80 : decode cX5_readsIsland 80 = .ok (.aload_n 0, 1) := by decide +kernel
theorem dX5_readsIsland_81 : decode cX5_readsIsland 81 = .ok (.getfield 144, 3) := by decide +kernel
theorem dX5_readsIsland_84 : decode cX5_readsIsland 84 = .ok (.ifCond .lt 7, 3) := by decide +kernel
theorem dX5_readsIsland_87 : decode cX5_readsIsland 87 = .ok (.iconst 1, 1) := by decide +kernel
theorem dX5_readsIsland_88 : decode cX5_readsIsland 88 = .ok (.goto 4, 3) := by decide +kernel
theorem dX5_readsIsland_91 : decode cX5_readsIsland 91 = .ok (.iconst 0, 1) := by decide +kernel
theorem dX5_readsIsland_92 : decode cX5_readsIsland 92 = .ok (.istore_n 2, 1) := by decide +kernel
theorem dX5_readsIsland_93 : decode cX5_readsIsland 93 = .ok (.iload_n 2, 1) := by decide +kernel
theorem dX5_readsIsland_94 : decode cX5_readsIsland 94 = .ok (.ifCond .eq 82, 3) := by decide +kernel
theorem dX5_readsIsland_97 : decode cX5_readsIsland 97 = .ok (.aload_n 0, 1) := by decide +kernel
theorem dX5_readsIsland_98 : decode cX5_readsIsland 98 = .ok (.bipush 62, 2) := by decide +kernel
theorem dX5_readsIsland_100 : decode cX5_readsIsland 100 = .ok (.invokevirtual 123, 3) := by decide +kernel
theorem dX5_readsIsland_103 : decode cX5_readsIsland 103 = .ok (.ifCond .eq 73, 3) := by decide +kernel
theorem dX5_readsIsland_106 : decode cX5_readsIsland 106 = .ok (.aload_n 0, 1) := by decide +kernel
theorem dX5_readsIsland_107 : decode cX5_readsIsland 107 = .ok (.aload_n 0, 1) := by decide +kernel
theorem dX5_readsIsland_108 : decode cX5_readsIsland 108 = .ok (.getfield 114, 3) := by decide +kernel
theorem dX5_readsIsland_111 : decode cX5_readsIsland 111 = .ok (.invokevirtual 171, 3) := by decide +kernel
theorem dX5_readsIsland_114 : decode cX5_readsIsland 114 = .ok (.bipush 48, 2) := by decide +kernel
theorem dX5_readsIsland_116 : decode cX5_readsIsland 116 = .ok (.isub, 1) := by decide +kernel
theorem dX5_readsIsland_117 : decode cX5_readsIsland 117 = .ok (.iload_n 1, 1) := by decide +kernel
theorem dX5_readsIsland_118 : decode cX5_readsIsland 118 = .ok (.if_icmp .eq 7, 3) := by decide +kernel
theorem dX5_readsIsland_121 : decode cX5_readsIsland 121 = .ok (.iconst 1, 1) := by decide +kernel
theorem dX5_readsIsland_122 : decode cX5_readsIsland 122 = .ok (.goto 4, 3) := by decide +kernel
theorem dX5_readsIsland_125 : decode cX5_readsIsland 125 = .ok (.iconst 0, 1) := by decide +kernel
theorem dX5_readsIsland_126 : decode cX5_readsIsland 126 = .ok (.istore_n 2, 1) := by decide +kernel
theorem dX5_readsIsland_127 : decode cX5_readsIsland 127 = .ok (.iload_n 2, 1) := by decide +kernel
theorem dX5_readsIsland_128 : decode cX5_readsIsland 128 = .ok (.ifCond .eq 13, 3) := by decide +kernel
theorem dX5_readsIsland_131 : decode cX5_readsIsland 131 = .ok (.aload_n 0, 1) := by decide +kernel
theorem dX5_readsIsland_132 : decode cX5_readsIsland 132 = .ok (.iconst 0, 1) := by decide +kernel
theorem dX5_readsIsland_133 : decode cX5_readsIsland 133 = .ok (.bipush 7, 2) := by decide +kernel
theorem dX5_readsIsland_135 : decode cX5_readsIsland 135 = .ok (.invokevirtual 174, 3) := by decide +kernel
theorem dX5_readsIsland_138 : decode cX5_readsIsland 138 = .ok (.goto 4, 3) := by decide +kernel
theorem dX5_readsIsland_141 : decode cX5_readsIsland 141 = .ok (.iconst (-1), 1) := by decide +kernel
theorem dX5_readsIsland_142 : decode cX5_readsIsland 142 = .ok (.istore_n 3, 1) := by decide +kernel
theorem dX5_readsIsland_143 : decode cX5_readsIsland 143 = .ok (.iload_n 3, 1) := by decide +kernel
theorem dX5_readsIsland_144 : decode cX5_readsIsland 144 = .ok (.ifCond .lt 7, 3) := by decide +kernel
theorem dX5_readsIsland_147 : decode cX5_readsIsland 147 = .ok (.iconst 1, 1) := by decide +kernel
theorem dX5_readsIsland_148 : decode cX5_readsIsland 148 = .ok (.goto 4, 3) := by decide +kernel
theorem dX5_readsIsland_151 : decode cX5_readsIsland 151 = .ok (.iconst 0, 1) := by decide +kernel
theorem dX5_readsIsland_152 : decode cX5_readsIsland 152 = .ok (.istore_n 2, 1) := by decide +kernel
theorem dX5_readsIsland_153 : decode cX5_readsIsland 153 = .ok (.aload_n 0, 1) := by decide +kernel
theorem dX5_readsIsland_154 : decode cX5_readsIsland 154 = .ok (.dup, 1) := by decide +kernel
theorem dX5_readsIsland_155 : decode cX5_readsIsland 155 = .ok (.getfield 126, 3) := by decide +kernel
theorem dX5_readsIsland_158 : decode cX5_readsIsland 158 = .ok (.iload_n 2, 1) := by decide +kernel
theorem dX5_readsIsland_159 : decode cX5_readsIsland 159 = .ok (.ifCond .eq 9, 3) := by decide +kernel
theorem dX5_readsIsland_162 : decode cX5_readsIsland 162 = .ok (.iconst 1, 1) := by decide +kernel
theorem dX5_readsIsland_163 : decode cX5_readsIsland 163 = .ok (.iload_n 3, 1) := by decide +kernel
theorem dX5_readsIsland_164 : decode cX5_readsIsland 164 = .ok (.ishl, 1) := by decide +kernel
theorem dX5_readsIsland_165 : decode cX5_readsIsland 165 = .ok (.goto 4, 3) := by decide +kernel
theorem dX5_readsIsland_168 : decode cX5_readsIsland 168 = .ok (.iconst 0, 1) := by decide +kernel
theorem dX5_readsIsland_169 : decode cX5_readsIsland 169 = .ok (.ior, 1) := by decide +kernel
theorem dX5_readsIsland_170 : decode cX5_readsIsland 170 = .ok (.putfield 126, 3) := by decide +kernel
theorem dX5_readsIsland_173 : decode cX5_readsIsland 173 = .ok (.goto (-80), 3) := by decide +kernel
theorem dX5_readsIsland_176 : decode cX5_readsIsland 176 = .ok (.iload_n 2, 1) := by decide +kernel
theorem dX5_readsIsland_177 : decode cX5_readsIsland 177 = .ok (.ireturn, 1) := by decide +kernel
theorem dX5_findFault_0 : decode cX5_findFault 0 = .ok (.iconst 0, 1) := by decide +kernel
theorem dX5_findFault_1 : decode cX5_findFault 1 = .ok (.istore_n 1, 1) := by decide +kernel
theorem dX5_findFault_2 : decode cX5_findFault 2 = .ok (.aload_n 0, 1) := by decide +kernel
theorem dX5_findFault_3 : decode cX5_findFault 3 = .ok (.iconst 0, 1) := by decide +kernel
theorem dX5_findFault_4 : decode cX5_findFault 4 = .ok (.putfield 114, 3) := by decide +kernel
theorem dX5_findFault_7 : decode cX5_findFault 7 = .ok (.aload_n 0, 1) := by decide +kernel
theorem dX5_findFault_8 : decode cX5_findFault 8 = .ok (.iload_n 1, 1) := by decide +kernel
theorem dX5_findFault_9 : decode cX5_findFault 9 = .ok (.invokevirtual 120, 3) := by decide +kernel
theorem dX5_findFault_12 : decode cX5_findFault 12 = .ok (.ifCond .ne 8, 3) := by decide +kernel
theorem dX5_findFault_15 : decode cX5_findFault 15 = .ok (.aload_n 0, 1) := by decide +kernel
theorem dX5_findFault_16 : decode cX5_findFault 16 = .ok (.getfield 114, 3) := by decide +kernel
theorem dX5_findFault_19 : decode cX5_findFault 19 = .ok (.ireturn, 1) := by decide +kernel
theorem dX5_findFault_20 : decode cX5_findFault 20 = .ok (.iinc 1 1, 3) := by decide +kernel
theorem dX5_findFault_23 : decode cX5_findFault 23 = .ok (.aload_n 0, 1) := by decide +kernel
theorem dX5_findFault_24 : decode cX5_findFault 24 = .ok (.getfield 114, 3) := by decide +kernel
theorem dX5_findFault_27 : decode cX5_findFault 27 = .ok (.aload_n 0, 1) := by decide +kernel
theorem dX5_findFault_28 : decode cX5_findFault 28 = .ok (.getfield 117, 3) := by decide +kernel
theorem dX5_findFault_31 : decode cX5_findFault 31 = .ok (.if_icmp .ne 6, 3) := by decide +kernel
theorem dX5_findFault_34 : decode cX5_findFault 34 = .ok (.bipush (-6), 2) := by decide +kernel
theorem dX5_findFault_36 : decode cX5_findFault 36 = .ok (.ireturn, 1) := by decide +kernel
theorem dX5_findFault_37 : decode cX5_findFault 37 = .ok (.iload_n 1, 1) := by decide +kernel
theorem dX5_findFault_38 : decode cX5_findFault 38 = .ok (.bipush 8, 2) := by decide +kernel
theorem dX5_findFault_40 : decode cX5_findFault 40 = .ok (.if_icmp .eq 12, 3) := by decide +kernel
theorem dX5_findFault_43 : decode cX5_findFault 43 = .ok (.aload_n 0, 1) := by decide +kernel
theorem dX5_findFault_44 : decode cX5_findFault 44 = .ok (.bipush 59, 2) := by decide +kernel
theorem dX5_findFault_46 : decode cX5_findFault 46 = .ok (.invokevirtual 123, 3) := by decide +kernel
theorem dX5_findFault_49 : decode cX5_findFault 49 = .ok (.ifCond .ne (-42), 3) := by decide +kernel
theorem dX5_findFault_52 : decode cX5_findFault 52 = .ok (.aload_n 0, 1) := by decide +kernel
theorem dX5_findFault_53 : decode cX5_findFault 53 = .ok (.getfield 114, 3) := by decide +kernel
theorem dX5_findFault_56 : decode cX5_findFault 56 = .ok (.ireturn, 1) := by decide +kernel
theorem dX5_fault_0 : decode cX5_fault 0 = .ok (.aload_n 0, 1) := by decide +kernel
theorem dX5_fault_1 : decode cX5_fault 1 = .ok (.invokevirtual 129, 3) := by decide +kernel
theorem dX5_fault_4 : decode cX5_fault 4 = .ok (.ireturn, 1) := by decide +kernel
theorem dX5_undo_0 : decode cX5_undo 0 = .ok (.aload_n 0, 1) := by decide +kernel
theorem dX5_undo_1 : decode cX5_undo 1 = .ok (.getfield 34, 3) := by decide +kernel
theorem dX5_undo_4 : decode cX5_undo 4 = .ok (.ifCond .ne 6, 3) := by decide +kernel
theorem dX5_undo_7 : decode cX5_undo 7 = .ok (.bipush (-5), 2) := by decide +kernel
theorem dX5_undo_9 : decode cX5_undo 9 = .ok (.ireturn, 1) := by decide +kernel
theorem dX5_undo_10 : decode cX5_undo 10 = .ok (.aload_n 0, 1) := by decide +kernel
theorem dX5_undo_11 : decode cX5_undo 11 = .ok (.dup, 1) := by decide +kernel
theorem dX5_undo_12 : decode cX5_undo 12 = .ok (.getfield 34, 3) := by decide +kernel
theorem dX5_undo_15 : decode cX5_undo 15 = .ok (.iconst 1, 1) := by decide +kernel
theorem dX5_undo_16 : decode cX5_undo 16 = .ok (.isub, 1) := by decide +kernel
theorem dX5_undo_17 : decode cX5_undo 17 = .ok (.putfield 34, 3) := by decide +kernel
theorem dX5_undo_20 : decode cX5_undo 20 = .ok (.aload_n 0, 1) := by decide +kernel
theorem dX5_undo_21 : decode cX5_undo 21 = .ok (.getfield 16, 3) := by decide +kernel
theorem dX5_undo_24 : decode cX5_undo 24 = .ok (.aload_n 0, 1) := by decide +kernel
theorem dX5_undo_25 : decode cX5_undo 25 = .ok (.getfield 34, 3) := by decide +kernel
theorem dX5_undo_28 : decode cX5_undo 28 = .ok (.bipush 96, 2) := by decide +kernel
theorem dX5_undo_30 : decode cX5_undo 30 = .ok (.imul, 1) := by decide +kernel
theorem dX5_undo_31 : decode cX5_undo 31 = .ok (.aload_n 0, 1) := by decide +kernel
theorem dX5_undo_32 : decode cX5_undo 32 = .ok (.getfield 7, 3) := by decide +kernel
theorem dX5_undo_35 : decode cX5_undo 35 = .ok (.iconst 0, 1) := by decide +kernel
theorem dX5_undo_36 : decode cX5_undo 36 = .ok (.invokestatic 38, 3) := by decide +kernel
theorem dX5_undo_39 : decode cX5_undo 39 = .ok (.aload_n 0, 1) := by decide +kernel
theorem dX5_undo_40 : decode cX5_undo 40 = .ok (.getfield 34, 3) := by decide +kernel
theorem dX5_undo_43 : decode cX5_undo 43 = .ok (.ireturn, 1) := by decide +kernel
theorem dX5_save_0 : decode cX5_save 0 = .ok (.iload_n 1, 1) := by decide +kernel
theorem dX5_save_1 : decode cX5_save 1 = .ok (.iconst 0, 1) := by decide +kernel
theorem dX5_save_2 : decode cX5_save 2 = .ok (.iconst 1, 1) := by decide +kernel
theorem dX5_save_3 : decode cX5_save 3 = .ok (.invokestatic 42, 3) := by decide +kernel
theorem dX5_save_6 : decode cX5_save 6 = .ok (.ifCond .ne 6, 3) := by decide +kernel
theorem dX5_save_9 : decode cX5_save 9 = .ok (.bipush (-2), 2) := by decide +kernel
theorem dX5_save_11 : decode cX5_save 11 = .ok (.ireturn, 1) := by decide +kernel
theorem dX5_save_12 : decode cX5_save 12 = .ok (.aload_n 0, 1) := by decide +kernel
theorem dX5_save_13 : decode cX5_save 13 = .ok (.getfield 7, 3) := by decide +kernel
theorem dX5_save_16 : decode cX5_save 16 = .ok (.iconst 0, 1) := by decide +kernel
theorem dX5_save_17 : decode cX5_save 17 = .ok (.aload_n 0, 1) := by decide +kernel
theorem dX5_save_18 : decode cX5_save 18 = .ok (.getfield 19, 3) := by decide +kernel
theorem dX5_save_21 : decode cX5_save 21 = .ok (.bipush 96, 2) := by decide +kernel
theorem dX5_save_23 : decode cX5_save 23 = .ok (.iload_n 1, 1) := by decide +kernel
theorem dX5_save_24 : decode cX5_save 24 = .ok (.imul, 1) := by decide +kernel
theorem dX5_save_25 : decode cX5_save 25 = .ok (.invokestatic 38, 3) := by decide +kernel
theorem dX5_save_28 : decode cX5_save 28 = .ok (.aload_n 0, 1) := by decide +kernel
theorem dX5_save_29 : decode cX5_save 29 = .ok (.getfield 22, 3) := by decide +kernel
theorem dX5_save_32 : decode cX5_save 32 = .ok (.iload_n 1, 1) := by decide +kernel
theorem dX5_save_33 : decode cX5_save 33 = .ok (.iconst 1, 1) := by decide +kernel
theorem dX5_save_34 : decode cX5_save 34 = .ok (.iastore, 1) := by decide +kernel
theorem dX5_save_35 : decode cX5_save 35 = .ok (.aload_n 0, 1) := by decide +kernel
theorem dX5_save_36 : decode cX5_save 36 = .ok (.getfield 7, 3) := by decide +kernel
theorem dX5_save_39 : decode cX5_save 39 = .ok (.iconst 2, 1) := by decide +kernel
theorem dX5_save_40 : decode cX5_save 40 = .ok (.iaload, 1) := by decide +kernel
theorem dX5_save_41 : decode cX5_save 41 = .ok (.ireturn, 1) := by decide +kernel
theorem dX5_restore_0 : decode cX5_restore 0 = .ok (.iload_n 1, 1) := by decide +kernel
theorem dX5_restore_1 : decode cX5_restore 1 = .ok (.iconst 0, 1) := by decide +kernel
theorem dX5_restore_2 : decode cX5_restore 2 = .ok (.iconst 1, 1) := by decide +kernel
theorem dX5_restore_3 : decode cX5_restore 3 = .ok (.invokestatic 42, 3) := by decide +kernel
theorem dX5_restore_6 : decode cX5_restore 6 = .ok (.ifCond .ne 6, 3) := by decide +kernel
theorem dX5_restore_9 : decode cX5_restore 9 = .ok (.bipush (-2), 2) := by decide +kernel
theorem dX5_restore_11 : decode cX5_restore 11 = .ok (.ireturn, 1) := by decide +kernel
theorem dX5_restore_12 : decode cX5_restore 12 = .ok (.aload_n 0, 1) := by decide +kernel
theorem dX5_restore_13 : decode cX5_restore 13 = .ok (.getfield 22, 3) := by decide +kernel
theorem dX5_restore_16 : decode cX5_restore 16 = .ok (.iload_n 1, 1) := by decide +kernel
theorem dX5_restore_17 : decode cX5_restore 17 = .ok (.iaload, 1) := by decide +kernel
theorem dX5_restore_18 : decode cX5_restore 18 = .ok (.ifCond .ne 6, 3) := by decide +kernel
theorem dX5_restore_21 : decode cX5_restore 21 = .ok (.bipush (-5), 2) := by decide +kernel
theorem dX5_restore_23 : decode cX5_restore 23 = .ok (.ireturn, 1) := by decide +kernel
theorem dX5_restore_24 : decode cX5_restore 24 = .ok (.aload_n 0, 1) := by decide +kernel
theorem dX5_restore_25 : decode cX5_restore 25 = .ok (.invokevirtual 107, 3) := by decide +kernel
theorem dX5_restore_28 : decode cX5_restore 28 = .ok (.aload_n 0, 1) := by decide +kernel
theorem dX5_restore_29 : decode cX5_restore 29 = .ok (.getfield 19, 3) := by decide +kernel
theorem dX5_restore_32 : decode cX5_restore 32 = .ok (.bipush 96, 2) := by decide +kernel
theorem dX5_restore_34 : decode cX5_restore 34 = .ok (.iload_n 1, 1) := by decide +kernel
theorem dX5_restore_35 : decode cX5_restore 35 = .ok (.imul, 1) := by decide +kernel
theorem dX5_restore_36 : decode cX5_restore 36 = .ok (.aload_n 0, 1) := by decide +kernel
theorem dX5_restore_37 : decode cX5_restore 37 = .ok (.getfield 7, 3) := by decide +kernel
theorem dX5_restore_40 : decode cX5_restore 40 = .ok (.iconst 0, 1) := by decide +kernel
theorem dX5_restore_41 : decode cX5_restore 41 = .ok (.invokestatic 38, 3) := by decide +kernel
theorem dX5_restore_44 : decode cX5_restore 44 = .ok (.aload_n 0, 1) := by decide +kernel
theorem dX5_restore_45 : decode cX5_restore 45 = .ok (.getfield 7, 3) := by decide +kernel
theorem dX5_restore_48 : decode cX5_restore 48 = .ok (.iconst 2, 1) := by decide +kernel
theorem dX5_restore_49 : decode cX5_restore 49 = .ok (.iaload, 1) := by decide +kernel
theorem dX5_restore_50 : decode cX5_restore 50 = .ok (.ireturn, 1) := by decide +kernel
