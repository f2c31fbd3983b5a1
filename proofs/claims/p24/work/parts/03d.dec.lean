theorem dJ6_bitCount_0f7a4_0 : decode cJ6_bitCount_0f7a4 0 = .ok (.iload_n 0, 1) := by decide +kernel
theorem dJ6_bitCount_0f7a4_1 : decode cJ6_bitCount_0f7a4 1 = .ok (.iload_n 0, 1) := by decide +kernel
theorem dJ6_bitCount_0f7a4_2 : decode cJ6_bitCount_0f7a4 2 = .ok (.iconst 1, 1) := by decide +kernel
theorem dJ6_bitCount_0f7a4_3 : decode cJ6_bitCount_0f7a4 3 = .ok (.iushr, 1) := by decide +kernel
theorem dJ6_bitCount_0f7a4_4 : decode cJ6_bitCount_0f7a4 4 = .ok (.ldc_w 265, 3) := by decide +kernel
theorem dJ6_bitCount_0f7a4_7 : decode cJ6_bitCount_0f7a4 7 = .ok (.iand, 1) := by decide +kernel
theorem dJ6_bitCount_0f7a4_8 : decode cJ6_bitCount_0f7a4 8 = .ok (.isub, 1) := by decide +kernel
theorem dJ6_bitCount_0f7a4_9 : decode cJ6_bitCount_0f7a4 9 = .ok (.istore_n 0, 1) := by decide +kernel
theorem dJ6_bitCount_0f7a4_10 : decode cJ6_bitCount_0f7a4 10 = .ok (.iload_n 0, 1) := by decide +kernel
theorem dJ6_bitCount_0f7a4_11 : decode cJ6_bitCount_0f7a4 11 = .ok (.ldc_w 266, 3) := by decide +kernel
theorem dJ6_bitCount_0f7a4_14 : decode cJ6_bitCount_0f7a4 14 = .ok (.iand, 1) := by decide +kernel
theorem dJ6_bitCount_0f7a4_15 : decode cJ6_bitCount_0f7a4 15 = .ok (.iload_n 0, 1) := by decide +kernel
theorem dJ6_bitCount_0f7a4_16 : decode cJ6_bitCount_0f7a4 16 = .ok (.iconst 2, 1) := by decide +kernel
theorem dJ6_bitCount_0f7a4_17 : decode cJ6_bitCount_0f7a4 17 = .ok (.iushr, 1) := by decide +kernel
theorem dJ6_bitCount_0f7a4_18 : decode cJ6_bitCount_0f7a4 18 = .ok (.ldc_w 266, 3) := by decide +kernel
theorem dJ6_bitCount_0f7a4_21 : decode cJ6_bitCount_0f7a4 21 = .ok (.iand, 1) := by decide +kernel
theorem dJ6_bitCount_0f7a4_22 : decode cJ6_bitCount_0f7a4 22 = .ok (.iadd, 1) := by decide +kernel
theorem dJ6_bitCount_0f7a4_23 : decode cJ6_bitCount_0f7a4 23 = .ok (.istore_n 0, 1) := by decide +kernel
theorem dJ6_bitCount_0f7a4_24 : decode cJ6_bitCount_0f7a4 24 = .ok (.iload_n 0, 1) := by decide +kernel
theorem dJ6_bitCount_0f7a4_25 : decode cJ6_bitCount_0f7a4 25 = .ok (.iload_n 0, 1) := by decide +kernel
theorem dJ6_bitCount_0f7a4_26 : decode cJ6_bitCount_0f7a4 26 = .ok (.iconst 4, 1) := by decide +kernel
theorem dJ6_bitCount_0f7a4_27 : decode cJ6_bitCount_0f7a4 27 = .ok (.iushr, 1) := by decide +kernel
theorem dJ6_bitCount_0f7a4_28 : decode cJ6_bitCount_0f7a4 28 = .ok (.iadd, 1) := by decide +kernel
theorem dJ6_bitCount_0f7a4_29 : decode cJ6_bitCount_0f7a4 29 = .ok (.ldc_w 267, 3) := by decide +kernel
theorem dJ6_bitCount_0f7a4_32 : decode cJ6_bitCount_0f7a4 32 = .ok (.iand, 1) := by decide +kernel
theorem dJ6_bitCount_0f7a4_33 : decode cJ6_bitCount_0f7a4 33 = .ok (.istore_n 0, 1) := by decide +kernel
theorem dJ6_bitCount_0f7a4_34 : decode cJ6_bitCount_0f7a4 34 = .ok (.iload_n 0, 1) := by decide +kernel
theorem dJ6_bitCount_0f7a4_35 : decode cJ6_bitCount_0f7a4 35 = .ok (.iload_n 0, 1) := by decide +kernel
theorem dJ6_bitCount_0f7a4_36 : decode cJ6_bitCount_0f7a4 36 = .ok (.bipush 8, 2) := by decide +kernel
theorem dJ6_bitCount_0f7a4_38 : decode cJ6_bitCount_0f7a4 38 = .ok (.iushr, 1) := by decide +kernel
theorem dJ6_bitCount_0f7a4_39 : decode cJ6_bitCount_0f7a4 39 = .ok (.iadd, 1) := by decide +kernel
theorem dJ6_bitCount_0f7a4_40 : decode cJ6_bitCount_0f7a4 40 = .ok (.istore_n 0, 1) := by decide +kernel
theorem dJ6_bitCount_0f7a4_41 : decode cJ6_bitCount_0f7a4 41 = .ok (.iload_n 0, 1) := by decide +kernel
theorem dJ6_bitCount_0f7a4_42 : decode cJ6_bitCount_0f7a4 42 = .ok (.iload_n 0, 1) := by decide +kernel
theorem dJ6_bitCount_0f7a4_43 : decode cJ6_bitCount_0f7a4 43 = .ok (.bipush 16, 2) := by decide +kernel
theorem dJ6_bitCount_0f7a4_45 : decode cJ6_bitCount_0f7a4 45 = .ok (.iushr, 1) := by decide +kernel
theorem dJ6_bitCount_0f7a4_46 : decode cJ6_bitCount_0f7a4 46 = .ok (.iadd, 1) := by decide +kernel
theorem dJ6_bitCount_0f7a4_47 : decode cJ6_bitCount_0f7a4 47 = .ok (.istore_n 0, 1) := by decide +kernel
theorem dJ6_bitCount_0f7a4_48 : decode cJ6_bitCount_0f7a4 48 = .ok (.iload_n 0, 1) := by decide +kernel
theorem dJ6_bitCount_0f7a4_49 : decode cJ6_bitCount_0f7a4 49 = .ok (.bipush 63, 2) := by decide +kernel
theorem dJ6_bitCount_0f7a4_51 : decode cJ6_bitCount_0f7a4 51 = .ok (.iand, 1) := by decide +kernel
theorem dJ6_bitCount_0f7a4_52 : decode cJ6_bitCount_0f7a4 52 = .ok (.ireturn, 1) := by decide +kernel
theorem dJ9_max_7cf53_0 : decode cJ9_max_7cf53 0 = .ok (.iload_n 0, 1) := by decide +kernel
theorem dJ9_max_7cf53_1 : decode cJ9_max_7cf53 1 = .ok (.iload_n 1, 1) := by decide +kernel
theorem dJ9_max_7cf53_2 : decode cJ9_max_7cf53 2 = .ok (.if_icmp .lt 7, 3) := by decide +kernel
theorem dJ9_max_7cf53_5 : decode cJ9_max_7cf53 5 = .ok (.iload_n 0, 1) := by decide +kernel
theorem dJ9_max_7cf53_6 : decode cJ9_max_7cf53 6 = .ok (.goto 4, 3) := by decide +kernel
theorem dJ9_max_7cf53_9 : decode cJ9_max_7cf53 9 = .ok (.iload_n 1, 1) := by decide +kernel
theorem dJ9_max_7cf53_10 : decode cJ9_max_7cf53 10 = .ok (.ireturn, 1) := by decide +kernel
theorem dL_cell_0 : decode cL_cell 0 = .ok (.iload_n 1, 1) := by decide +kernel
theorem dL_cell_1 : decode cL_cell 1 = .ok (.aload_n 0, 1) := by decide +kernel
theorem dL_cell_2 : decode cL_cell 2 = .ok (.arraylength, 1) := by decide +kernel
theorem dL_cell_3 : decode cL_cell 3 = .ok (.if_icmp .ge 9, 3) := by decide +kernel
theorem dL_cell_6 : decode cL_cell 6 = .ok (.aload_n 0, 1) := by decide +kernel
theorem dL_cell_7 : decode cL_cell 7 = .ok (.iload_n 1, 1) := by decide +kernel
theorem dL_cell_8 : decode cL_cell 8 = .ok (.iaload, 1) := by decide +kernel
theorem dL_cell_9 : decode cL_cell 9 = .ok (.goto 12, 3) := by decide +kernel
theorem dL_cell_12 : decode cL_cell 12 = .ok (.ldc 7, 2) := by decide +kernel
theorem dL_cell_14 : decode cL_cell 14 = .ok (.iload_n 1, 1) := by decide +kernel
theorem dL_cell_15 : decode cL_cell 15 = .ok (.iconst 1, 1) := by decide +kernel
theorem dL_cell_16 : decode cL_cell 16 = .ok (.iadd, 1) := by decide +kernel
theorem dL_cell_17 : decode cL_cell 17 = .ok (.imul, 1) := by decide +kernel
theorem dL_cell_18 : decode cL_cell 18 = .ok (.ldc 8, 2) := by decide +kernel
theorem dL_cell_20 : decode cL_cell 20 = .ok (.iadd, 1) := by decide +kernel
theorem dL_cell_21 : decode cL_cell 21 = .ok (.ireturn, 1) := by decide +kernel
theorem dL_low_0 : decode cL_low 0 = .ok (.iload_n 0, 1) := by decide +kernel
theorem dL_low_1 : decode cL_low 1 = .ok (.ldc 9, 2) := by decide +kernel
theorem dL_low_3 : decode cL_low 3 = .ok (.iand, 1) := by decide +kernel
theorem dL_low_4 : decode cL_low 4 = .ok (.iload_n 1, 1) := by decide +kernel
theorem dL_low_5 : decode cL_low 5 = .ok (.irem, 1) := by decide +kernel
theorem dL_low_6 : decode cL_low 6 = .ok (.ireturn, 1) := by decide +kernel
theorem dL_load_0 : decode cL_load 0 = .ok (.iconst 0, 1) := by decide +kernel
theorem dL_load_1 : decode cL_load 1 = .ok (.istore_n 2, 1) := by decide +kernel
theorem dL_load_2 : decode cL_load 2 = .ok (.iconst 0, 1) := by decide +kernel
theorem dL_load_3 : decode cL_load 3 = .ok (.istore_n 3, 1) := by decide +kernel
theorem dL_load_4 : decode cL_load 4 = .ok (.iload_n 3, 1) := by decide +kernel
theorem dL_load_5 : decode cL_load 5 = .ok (.aload_n 0, 1) := by decide +kernel
theorem dL_load_6 : decode cL_load 6 = .ok (.iconst 2, 1) := by decide +kernel
theorem dL_load_7 : decode cL_load 7 = .ok (.iaload, 1) := by decide +kernel
theorem dL_load_8 : decode cL_load 8 = .ok (.if_icmp .ge 37, 3) := by decide +kernel
theorem dL_load_11 : decode cL_load 11 = .ok (.iload_n 2, 1) := by decide +kernel
theorem dL_load_12 : decode cL_load 12 = .ok (.aload_n 1, 1) := by decide +kernel
theorem dL_load_13 : decode cL_load 13 = .ok (.bipush 12, 2) := by decide +kernel
theorem dL_load_15 : decode cL_load 15 = .ok (.iload_n 3, 1) := by decide +kernel
theorem dL_load_16 : decode cL_load 16 = .ok (.imul, 1) := by decide +kernel
theorem dL_load_17 : decode cL_load 17 = .ok (.bipush 7, 2) := by decide +kernel
theorem dL_load_19 : decode cL_load 19 = .ok (.iadd, 1) := by decide +kernel
theorem dL_load_20 : decode cL_load 20 = .ok (.iaload, 1) := by decide +kernel
theorem dL_load_21 : decode cL_load 21 = .ok (.iconst 4, 1) := by decide +kernel
theorem dL_load_22 : decode cL_load 22 = .ok (.if_icmp .ne 14, 3) := by decide +kernel
theorem dL_load_25 : decode cL_load 25 = .ok (.aload_n 1, 1) := by decide +kernel
theorem dL_load_26 : decode cL_load 26 = .ok (.bipush 12, 2) := by decide +kernel
theorem dL_load_28 : decode cL_load 28 = .ok (.iload_n 3, 1) := by decide +kernel
theorem dL_load_29 : decode cL_load 29 = .ok (.imul, 1) := by decide +kernel
theorem dL_load_30 : decode cL_load 30 = .ok (.iconst 3, 1) := by decide +kernel
theorem dL_load_31 : decode cL_load 31 = .ok (.iadd, 1) := by decide +kernel
theorem dL_load_32 : decode cL_load 32 = .ok (.iaload, 1) := by decide +kernel
theorem dL_load_33 : decode cL_load 33 = .ok (.goto 4, 3) := by decide +kernel
theorem dL_load_36 : decode cL_load 36 = .ok (.iconst 0, 1) := by decide +kernel
theorem dL_load_37 : decode cL_load 37 = .ok (.iadd, 1) := by decide +kernel
theorem dL_load_38 : decode cL_load 38 = .ok (.istore_n 2, 1) := by decide +kernel
theorem dL_load_39 : decode cL_load 39 = .ok (.iinc 3 1, 3) := by decide +kernel
theorem dL_load_42 : decode cL_load 42 = .ok (.goto (-38), 3) := by decide +kernel
theorem dL_load_45 : decode cL_load 45 = .ok (.iload_n 2, 1) := by decide +kernel
theorem dL_load_46 : decode cL_load 46 = .ok (.ireturn, 1) := by decide +kernel
theorem dL_set_0 : decode cL_set 0 = .ok (.iconst 0, 1) := by decide +kernel
theorem dL_set_1 : decode cL_set 1 = .ok (.istore_n 3, 1) := by decide +kernel
theorem dL_set_2 : decode cL_set 2 = .ok (.iconst 0, 1) := by decide +kernel
theorem dL_set_3 : decode cL_set 3 = .ok (.istore 4, 2) := by decide +kernel
theorem dL_set_5 : decode cL_set 5 = .ok (.iload 4, 2) := by decide +kernel
theorem dL_set_7 : decode cL_set 7 = .ok (.aload_n 1, 1) := by decide +kernel
theorem dL_set_8 : decode cL_set 8 = .ok (.iconst 2, 1) := by decide +kernel
theorem dL_set_9 : decode cL_set 9 = .ok (.iaload, 1) := by decide +kernel
theorem dL_set_10 : decode cL_set 10 = .ok (.if_icmp .ge 34, 3) := by decide +kernel
theorem dL_set_13 : decode cL_set 13 = .ok (.iload_n 3, 1) := by decide +kernel
theorem dL_set_14 : decode cL_set 14 = .ok (.aload_n 2, 1) := by decide +kernel
theorem dL_set_15 : decode cL_set 15 = .ok (.bipush 12, 2) := by decide +kernel
theorem dL_set_17 : decode cL_set 17 = .ok (.iload 4, 2) := by decide +kernel
theorem dL_set_19 : decode cL_set 19 = .ok (.imul, 1) := by decide +kernel
theorem dL_set_20 : decode cL_set 20 = .ok (.bipush 7, 2) := by decide +kernel
theorem dL_set_22 : decode cL_set 22 = .ok (.iadd, 1) := by decide +kernel
theorem dL_set_23 : decode cL_set 23 = .ok (.iaload, 1) := by decide +kernel
theorem dL_set_24 : decode cL_set 24 = .ok (.iload_n 0, 1) := by decide +kernel
theorem dL_set_25 : decode cL_set 25 = .ok (.if_icmp .ne 10, 3) := by decide +kernel
theorem dL_set_28 : decode cL_set 28 = .ok (.iconst 1, 1) := by decide +kernel
theorem dL_set_29 : decode cL_set 29 = .ok (.iload 4, 2) := by decide +kernel
theorem dL_set_31 : decode cL_set 31 = .ok (.ishl, 1) := by decide +kernel
theorem dL_set_32 : decode cL_set 32 = .ok (.goto 4, 3) := by decide +kernel
theorem dL_set_35 : decode cL_set 35 = .ok (.iconst 0, 1) := by decide +kernel
theorem dL_set_36 : decode cL_set 36 = .ok (.ior, 1) := by decide +kernel
theorem dL_set_37 : decode cL_set 37 = .ok (.istore_n 3, 1) := by decide +kernel
theorem dL_set_38 : decode cL_set 38 = .ok (.iinc 4 1, 3) := by decide +kernel
theorem dL_set_41 : decode cL_set 41 = .ok (.goto (-36), 3) := by decide +kernel
theorem dL_set_44 : decode cL_set 44 = .ok (.iload_n 3, 1) := by decide +kernel
theorem dL_set_45 : decode cL_set 45 = .ok (.ireturn, 1) := by decide +kernel
theorem dL_readers_0 : decode cL_readers 0 = .ok (.iconst 0, 1) := by decide +kernel
theorem dL_readers_1 : decode cL_readers 1 = .ok (.istore_n 3, 1) := by decide +kernel
theorem dL_readers_2 : decode cL_readers 2 = .ok (.iconst 0, 1) := by decide +kernel
theorem dL_readers_3 : decode cL_readers 3 = .ok (.istore 4, 2) := by decide +kernel
theorem dL_readers_5 : decode cL_readers 5 = .ok (.iload 4, 2) := by decide +kernel
theorem dL_readers_7 : decode cL_readers 7 = .ok (.aload_n 1, 1) := by decide +kernel
theorem dL_readers_8 : decode cL_readers 8 = .ok (.iconst 2, 1) := by decide +kernel
theorem dL_readers_9 : decode cL_readers 9 = .ok (.iaload, 1) := by decide +kernel
theorem dL_readers_10 : decode cL_readers 10 = .ok (.if_icmp .ge 29, 3) := by decide +kernel
theorem dL_readers_13 : decode cL_readers 13 = .ok (.iload_n 3, 1) := by decide +kernel
theorem dL_readers_14 : decode cL_readers 14 = .ok (.aload_n 2, 1) := by decide +kernel
theorem dL_readers_15 : decode cL_readers 15 = .ok (.bipush 12, 2) := by decide +kernel
theorem dL_readers_17 : decode cL_readers 17 = .ok (.iload 4, 2) := by decide +kernel
theorem dL_readers_19 : decode cL_readers 19 = .ok (.imul, 1) := by decide +kernel
theorem dL_readers_20 : decode cL_readers 20 = .ok (.bipush 6, 2) := by decide +kernel
theorem dL_readers_22 : decode cL_readers 22 = .ok (.iadd, 1) := by decide +kernel
theorem dL_readers_23 : decode cL_readers 23 = .ok (.iaload, 1) := by decide +kernel
theorem dL_readers_24 : decode cL_readers 24 = .ok (.iload_n 0, 1) := by decide +kernel
theorem dL_readers_25 : decode cL_readers 25 = .ok (.ishr, 1) := by decide +kernel
theorem dL_readers_26 : decode cL_readers 26 = .ok (.iconst 1, 1) := by decide +kernel
theorem dL_readers_27 : decode cL_readers 27 = .ok (.iand, 1) := by decide +kernel
theorem dL_readers_28 : decode cL_readers 28 = .ok (.iload 4, 2) := by decide +kernel
theorem dL_readers_30 : decode cL_readers 30 = .ok (.ishl, 1) := by decide +kernel
theorem dL_readers_31 : decode cL_readers 31 = .ok (.ior, 1) := by decide +kernel
theorem dL_readers_32 : decode cL_readers 32 = .ok (.istore_n 3, 1) := by decide +kernel
theorem dL_readers_33 : decode cL_readers 33 = .ok (.iinc 4 1, 3) := by decide +kernel
theorem dL_readers_36 : decode cL_readers 36 = .ok (.goto (-31), 3) := by decide +kernel
theorem dL_readers_39 : decode cL_readers 39 = .ok (.iload_n 3, 1) := by decide +kernel
theorem dL_readers_40 : decode cL_readers 40 = .ok (.ireturn, 1) := by decide +kernel
theorem dL_bits_0 : decode cL_bits 0 = .ok (.iconst 0, 1) := by decide +kernel
theorem dL_bits_1 : decode cL_bits 1 = .ok (.istore_n 1, 1) := by decide +kernel
theorem dL_bits_2 : decode cL_bits 2 = .ok (.iload_n 0, 1) := by decide +kernel
theorem dL_bits_3 : decode cL_bits 3 = .ok (.istore_n 2, 1) := by decide +kernel
theorem dL_bits_4 : decode cL_bits 4 = .ok (.iload_n 2, 1) := by decide +kernel
theorem dL_bits_5 : decode cL_bits 5 = .ok (.ifCond .eq 15, 3) := by decide +kernel
theorem dL_bits_8 : decode cL_bits 8 = .ok (.iinc 1 1, 3) := by decide +kernel
theorem dL_bits_11 : decode cL_bits 11 = .ok (.iload_n 2, 1) := by decide +kernel
theorem dL_bits_12 : decode cL_bits 12 = .ok (.iload_n 2, 1) := by decide +kernel
theorem dL_bits_13 : decode cL_bits 13 = .ok (.iconst 1, 1) := by decide +kernel
theorem dL_bits_14 : decode cL_bits 14 = .ok (.isub, 1) := by decide +kernel
theorem dL_bits_15 : decode cL_bits 15 = .ok (.iand, 1) := by decide +kernel
theorem dL_bits_16 : decode cL_bits 16 = .ok (.istore_n 2, 1) := by decide +kernel
theorem dL_bits_17 : decode cL_bits 17 = .ok (.goto (-13), 3) := by decide +kernel
theorem dL_bits_20 : decode cL_bits 20 = .ok (.iload_n 1, 1) := by decide +kernel
theorem dL_bits_21 : decode cL_bits 21 = .ok (.ireturn, 1) := by decide +kernel
theorem dL_order_0 : decode cL_order 0 = .ok (.aload_n 2, 1) := by decide +kernel
theorem dL_order_1 : decode cL_order 1 = .ok (.bipush 12, 2) := by decide +kernel
theorem dL_order_3 : decode cL_order 3 = .ok (.iload_n 0, 1) := by decide +kernel
theorem dL_order_4 : decode cL_order 4 = .ok (.imul, 1) := by decide +kernel
theorem dL_order_5 : decode cL_order 5 = .ok (.bipush 7, 2) := by decide +kernel
theorem dL_order_7 : decode cL_order 7 = .ok (.iadd, 1) := by decide +kernel
theorem dL_order_8 : decode cL_order 8 = .ok (.iconst 3, 1) := by decide +kernel
theorem dL_order_9 : decode cL_order 9 = .ok (.iastore, 1) := by decide +kernel
theorem dL_order_10 : decode cL_order 10 = .ok (.aload_n 2, 1) := by decide +kernel
theorem dL_order_11 : decode cL_order 11 = .ok (.bipush 12, 2) := by decide +kernel
theorem dL_order_13 : decode cL_order 13 = .ok (.iload_n 0, 1) := by decide +kernel
theorem dL_order_14 : decode cL_order 14 = .ok (.imul, 1) := by decide +kernel
theorem dL_order_15 : decode cL_order 15 = .ok (.bipush 10, 2) := by decide +kernel
theorem dL_order_17 : decode cL_order 17 = .ok (.iadd, 1) := by decide +kernel
theorem dL_order_18 : decode cL_order 18 = .ok (.aload_n 1, 1) := by decide +kernel
theorem dL_order_19 : decode cL_order 19 = .ok (.bipush 7, 2) := by decide +kernel
theorem dL_order_21 : decode cL_order 21 = .ok (.dup2, 1) := by decide +kernel
theorem dL_order_22 : decode cL_order 22 = .ok (.iaload, 1) := by decide +kernel
theorem dL_order_23 : decode cL_order 23 = .ok (.iconst 1, 1) := by decide +kernel
theorem dL_order_24 : decode cL_order 24 = .ok (.iadd, 1) := by decide +kernel
theorem dL_order_25 : decode cL_order 25 = .ok (.dup_x2, 1) := by decide +kernel
theorem dL_order_26 : decode cL_order 26 = .ok (.iastore, 1) := by decide +kernel
theorem dL_order_27 : decode cL_order 27 = .ok (.iastore, 1) := by decide +kernel
theorem dL_order_28 : decode cL_order 28 = .ok (.return_, 1) := by decide +kernel
theorem dL_tell_0 : decode cL_tell 0 = .ok (.bipush 12, 2) := by decide +kernel
theorem dL_tell_2 : decode cL_tell 2 = .ok (.iload_n 0, 1) := by decide +kernel
theorem dL_tell_3 : decode cL_tell 3 = .ok (.imul, 1) := by decide +kernel
theorem dL_tell_4 : decode cL_tell 4 = .ok (.istore_n 2, 1) := by decide +kernel
theorem dL_tell_5 : decode cL_tell 5 = .ok (.aload_n 1, 1) := by decide +kernel
theorem dL_tell_6 : decode cL_tell 6 = .ok (.iload_n 2, 1) := by decide +kernel
theorem dL_tell_7 : decode cL_tell 7 = .ok (.bipush 7, 2) := by decide +kernel
theorem dL_tell_9 : decode cL_tell 9 = .ok (.iadd, 1) := by decide +kernel
theorem dL_tell_10 : decode cL_tell 10 = .ok (.iaload, 1) := by decide +kernel
theorem dL_tell_11 : decode cL_tell 11 = .ok (.iconst 2, 1) := by decide +kernel
theorem dL_tell_12 : decode cL_tell 12 = .ok (.if_icmp .ge 11, 3) := by decide +kernel
theorem dL_tell_15 : decode cL_tell 15 = .ok (.aload_n 1, 1) := by decide +kernel
theorem dL_tell_16 : decode cL_tell 16 = .ok (.iload_n 2, 1) := by decide +kernel
theorem dL_tell_17 : decode cL_tell 17 = .ok (.iconst 4, 1) := by decide +kernel
theorem dL_tell_18 : decode cL_tell 18 = .ok (.iadd, 1) := by decide +kernel
theorem dL_tell_19 : decode cL_tell 19 = .ok (.iaload, 1) := by decide +kernel
theorem dL_tell_20 : decode cL_tell 20 = .ok (.goto 17, 3) := by decide +kernel
theorem dL_tell_23 : decode cL_tell 23 = .ok (.aload_n 1, 1) := by decide +kernel
theorem dL_tell_24 : decode cL_tell 24 = .ok (.iload_n 2, 1) := by decide +kernel
theorem dL_tell_25 : decode cL_tell 25 = .ok (.iaload, 1) := by decide +kernel
theorem dL_tell_26 : decode cL_tell 26 = .ok (.iconst 1, 1) := by decide +kernel
theorem dL_tell_27 : decode cL_tell 27 = .ok (.if_icmp .ne 7, 3) := by decide +kernel
theorem dL_tell_30 : decode cL_tell 30 = .ok (.iconst 0, 1) := by decide +kernel
theorem dL_tell_31 : decode cL_tell 31 = .ok (.goto 6, 3) := by decide +kernel
theorem dL_tell_34 : decode cL_tell 34 = .ok (.sipush 255, 3) := by decide +kernel
theorem dL_tell_37 : decode cL_tell 37 = .ok (.ireturn, 1) := by decide +kernel
theorem dL_tick_0 : decode cL_tick 0 = .ok (.iconst 0, 1) := by decide +kernel
theorem dL_tick_1 : decode cL_tick 1 = .ok (.istore_n 3, 1) := by decide +kernel
theorem dL_tick_2 : decode cL_tick 2 = .ok (.iload_n 3, 1) := by decide +kernel
theorem dL_tick_3 : decode cL_tick 3 = .ok (.aload_n 0, 1) := by decide +kernel
theorem dL_tick_4 : decode cL_tick 4 = .ok (.iconst 2, 1) := by decide +kernel
theorem dL_tick_5 : decode cL_tick 5 = .ok (.iaload, 1) := by decide +kernel
theorem dL_tick_6 : decode cL_tick 6 = .ok (.if_icmp .ge 50, 3) := by decide +kernel
theorem dL_tick_9 : decode cL_tick 9 = .ok (.aload_n 2, 1) := by decide +kernel
theorem dL_tick_10 : decode cL_tick 10 = .ok (.iload_n 3, 1) := by decide +kernel
theorem dL_tick_11 : decode cL_tick 11 = .ok (.iload_n 3, 1) := by decide +kernel
theorem dL_tick_12 : decode cL_tick 12 = .ok (.aload_n 1, 1) := by decide +kernel
theorem dL_tick_13 : decode cL_tick 13 = .ok (.invokestatic 10, 3) := by decide +kernel
theorem dL_tick_16 : decode cL_tick 16 = .ok (.iastore, 1) := by decide +kernel
theorem dL_tick_17 : decode cL_tick 17 = .ok (.aload_n 2, 1) := by decide +kernel
theorem dL_tick_18 : decode cL_tick 18 = .ok (.bipush 8, 2) := by decide +kernel
theorem dL_tick_20 : decode cL_tick 20 = .ok (.iload_n 3, 1) := by decide +kernel
theorem dL_tick_21 : decode cL_tick 21 = .ok (.iadd, 1) := by decide +kernel
theorem dL_tick_22 : decode cL_tick 22 = .ok (.aload_n 1, 1) := by decide +kernel
theorem dL_tick_23 : decode cL_tick 23 = .ok (.bipush 12, 2) := by decide +kernel
theorem dL_tick_25 : decode cL_tick 25 = .ok (.iload_n 3, 1) := by decide +kernel
theorem dL_tick_26 : decode cL_tick 26 = .ok (.imul, 1) := by decide +kernel
theorem dL_tick_27 : decode cL_tick 27 = .ok (.bipush 7, 2) := by decide +kernel
theorem dL_tick_29 : decode cL_tick 29 = .ok (.iadd, 1) := by decide +kernel
theorem dL_tick_30 : decode cL_tick 30 = .ok (.iaload, 1) := by decide +kernel
theorem dL_tick_31 : decode cL_tick 31 = .ok (.iconst 1, 1) := by decide +kernel
theorem dL_tick_32 : decode cL_tick 32 = .ok (.if_icmp .le 16, 3) := by decide +kernel
theorem dL_tick_35 : decode cL_tick 35 = .ok (.aload_n 1, 1) := by decide +kernel
theorem dL_tick_36 : decode cL_tick 36 = .ok (.bipush 12, 2) := by decide +kernel
theorem dL_tick_38 : decode cL_tick 38 = .ok (.iload_n 3, 1) := by decide +kernel
theorem dL_tick_39 : decode cL_tick 39 = .ok (.imul, 1) := by decide +kernel
theorem dL_tick_40 : decode cL_tick 40 = .ok (.iaload, 1) := by decide +kernel
theorem dL_tick_41 : decode cL_tick 41 = .ok (.ifCond .ne 7, 3) := by decide +kernel
theorem dL_tick_44 : decode cL_tick 44 = .ok (.iconst 1, 1) := by decide +kernel
theorem dL_tick_45 : decode cL_tick 45 = .ok (.goto 4, 3) := by decide +kernel
theorem dL_tick_48 : decode cL_tick 48 = .ok (.iconst 0, 1) := by decide +kernel
theorem dL_tick_49 : decode cL_tick 49 = .ok (.iastore, 1) := by decide +kernel
theorem dL_tick_50 : decode cL_tick 50 = .ok (.iinc 3 1, 3) := by decide +kernel
theorem dL_tick_53 : decode cL_tick 53 = .ok (.goto (-51), 3) := by decide +kernel
theorem dL_tick_56 : decode cL_tick 56 = .ok (.iconst 0, 1) := by decide +kernel
theorem dL_tick_57 : decode cL_tick 57 = .ok (.istore_n 3, 1) := by decide +kernel
theorem dL_tick_58 : decode cL_tick 58 = .ok (.iload_n 3, 1) := by decide +kernel
theorem dL_tick_59 : decode cL_tick 59 = .ok (.aload_n 0, 1) := by decide +kernel
theorem dL_tick_60 : decode cL_tick 60 = .ok (.iconst 2, 1) := by decide +kernel
theorem dL_tick_61 : decode cL_tick 61 = .ok (.iaload, 1) := by decide +kernel
theorem dL_tick_62 : decode cL_tick 62 = .ok (.if_icmp .ge 240, 3) := by decide +kernel
theorem dL_tick_65 : decode cL_tick 65 = .ok (.bipush 12, 2) := by decide +kernel
theorem dL_tick_67 : decode cL_tick 67 = .ok (.iload_n 3, 1) := by decide +kernel
theorem dL_tick_68 : decode cL_tick 68 = .ok (.imul, 1) := by decide +kernel
theorem dL_tick_69 : decode cL_tick 69 = .ok (.istore 4, 2) := by decide +kernel
theorem dL_tick_71 : decode cL_tick 71 = .ok (.aload_n 1, 1) := by decide +kernel
theorem dL_tick_72 : decode cL_tick 72 = .ok (.iload 4, 2) := by decide +kernel
theorem dL_tick_74 : decode cL_tick 74 = .ok (.bipush 7, 2) := by decide +kernel
theorem dL_tick_76 : decode cL_tick 76 = .ok (.iadd, 1) := by decide +kernel
theorem dL_tick_77 : decode cL_tick 77 = .ok (.iaload, 1) := by decide +kernel
theorem dL_tick_78 : decode cL_tick 78 = .ok (.ifCond .ne 92, 3) := by decide +kernel
theorem dL_tick_81 : decode cL_tick 81 = .ok (.iconst 0, 1) := by decide +kernel
theorem dL_tick_82 : decode cL_tick 82 = .ok (.istore 5, 2) := by decide +kernel
theorem dL_tick_84 : decode cL_tick 84 = .ok (.iload 5, 2) := by decide +kernel
theorem dL_tick_86 : decode cL_tick 86 = .ok (.aload_n 0, 1) := by decide +kernel
theorem dL_tick_87 : decode cL_tick 87 = .ok (.iconst 2, 1) := by decide +kernel
theorem dL_tick_88 : decode cL_tick 88 = .ok (.iaload, 1) := by decide +kernel
theorem dL_tick_89 : decode cL_tick 89 = .ok (.if_icmp .ge 78, 3) := by decide +kernel
theorem dL_tick_92 : decode cL_tick 92 = .ok (.aload_n 1, 1) := by decide +kernel
theorem dL_tick_93 : decode cL_tick 93 = .ok (.iload 4, 2) := by decide +kernel
theorem dL_tick_95 : decode cL_tick 95 = .ok (.bipush 6, 2) := by decide +kernel
theorem dL_tick_97 : decode cL_tick 97 = .ok (.iadd, 1) := by decide +kernel
theorem dL_tick_98 : decode cL_tick 98 = .ok (.iaload, 1) := by decide +kernel
theorem dL_tick_99 : decode cL_tick 99 = .ok (.iload 5, 2) := by decide +kernel
theorem dL_tick_101 : decode cL_tick 101 = .ok (.ishr, 1) := by decide +kernel
theorem dL_tick_102 : decode cL_tick 102 = .ok (.iconst 1, 1) := by decide +kernel
theorem dL_tick_103 : decode cL_tick 103 = .ok (.iand, 1) := by decide +kernel
theorem dL_tick_104 : decode cL_tick 104 = .ok (.ifCond .ne 6, 3) := by decide +kernel
theorem dL_tick_107 : decode cL_tick 107 = .ok (.goto 54, 3) := by decide +kernel
theorem dL_tick_110 : decode cL_tick 110 = .ok (.aload_n 1, 1) := by decide +kernel
theorem dL_tick_111 : decode cL_tick 111 = .ok (.iload 4, 2) := by decide +kernel
theorem dL_tick_113 : decode cL_tick 113 = .ok (.iconst 4, 1) := by decide +kernel
theorem dL_tick_114 : decode cL_tick 114 = .ok (.iadd, 1) := by decide +kernel
theorem dL_tick_115 : decode cL_tick 115 = .ok (.aload_n 1, 1) := by decide +kernel
theorem dL_tick_116 : decode cL_tick 116 = .ok (.iload 4, 2) := by decide +kernel
theorem dL_tick_118 : decode cL_tick 118 = .ok (.iconst 4, 1) := by decide +kernel
theorem dL_tick_119 : decode cL_tick 119 = .ok (.iadd, 1) := by decide +kernel
theorem dL_tick_120 : decode cL_tick 120 = .ok (.iaload, 1) := by decide +kernel
theorem dL_tick_121 : decode cL_tick 121 = .ok (.aload_n 2, 1) := by decide +kernel
theorem dL_tick_122 : decode cL_tick 122 = .ok (.iload 5, 2) := by decide +kernel
theorem dL_tick_124 : decode cL_tick 124 = .ok (.iaload, 1) := by decide +kernel
theorem dL_tick_125 : decode cL_tick 125 = .ok (.iadd, 1) := by decide +kernel
theorem dL_tick_126 : decode cL_tick 126 = .ok (.sipush 255, 3) := by decide +kernel
theorem dL_tick_129 : decode cL_tick 129 = .ok (.iand, 1) := by decide +kernel
theorem dL_tick_130 : decode cL_tick 130 = .ok (.iastore, 1) := by decide +kernel
theorem dL_tick_131 : decode cL_tick 131 = .ok (.aload_n 1, 1) := by decide +kernel
theorem dL_tick_132 : decode cL_tick 132 = .ok (.iload 4, 2) := by decide +kernel
theorem dL_tick_134 : decode cL_tick 134 = .ok (.bipush 9, 2) := by decide +kernel
theorem dL_tick_136 : decode cL_tick 136 = .ok (.iadd, 1) := by decide +kernel
theorem dL_tick_137 : decode cL_tick 137 = .ok (.dup2, 1) := by decide +kernel
theorem dL_tick_138 : decode cL_tick 138 = .ok (.iaload, 1) := by decide +kernel
theorem dL_tick_139 : decode cL_tick 139 = .ok (.aload_n 2, 1) := by decide +kernel
theorem dL_tick_140 : decode cL_tick 140 = .ok (.bipush 8, 2) := by decide +kernel
theorem dL_tick_142 : decode cL_tick 142 = .ok (.iload 5, 2) := by decide +kernel
theorem dL_tick_144 : decode cL_tick 144 = .ok (.iadd, 1) := by decide +kernel
theorem dL_tick_145 : decode cL_tick 145 = .ok (.iaload, 1) := by decide +kernel
theorem dL_tick_146 : decode cL_tick 146 = .ok (.iadd, 1) := by decide +kernel
theorem dL_tick_147 : decode cL_tick 147 = .ok (.iastore, 1) := by decide +kernel
theorem dL_tick_148 : decode cL_tick 148 = .ok (.aload_n 0, 1) := by decide +kernel
theorem dL_tick_149 : decode cL_tick 149 = .ok (.iconst 4, 1) := by decide +kernel
theorem dL_tick_150 : decode cL_tick 150 = .ok (.dup2, 1) := by decide +kernel
theorem dL_tick_151 : decode cL_tick 151 = .ok (.iaload, 1) := by decide +kernel
theorem dL_tick_152 : decode cL_tick 152 = .ok (.aload_n 2, 1) := by decide +kernel
theorem dL_tick_153 : decode cL_tick 153 = .ok (.bipush 8, 2) := by decide +kernel
theorem dL_tick_155 : decode cL_tick 155 = .ok (.iload 5, 2) := by decide +kernel
theorem dL_tick_157 : decode cL_tick 157 = .ok (.iadd, 1) := by decide +kernel
theorem dL_tick_158 : decode cL_tick 158 = .ok (.iaload, 1) := by decide +kernel
theorem dL_tick_159 : decode cL_tick 159 = .ok (.iadd, 1) := by decide +kernel
theorem dL_tick_160 : decode cL_tick 160 = .ok (.iastore, 1) := by decide +kernel
theorem dL_tick_161 : decode cL_tick 161 = .ok (.iinc 5 1, 3) := by decide +kernel
theorem dL_tick_164 : decode cL_tick 164 = .ok (.goto (-80), 3) := by decide +kernel
theorem dL_tick_167 : decode cL_tick 167 = .ok (.goto 129, 3) := by decide +kernel
theorem dL_tick_170 : decode cL_tick 170 = .ok (.aload_n 1, 1) := by decide +kernel
theorem dL_tick_171 : decode cL_tick 171 = .ok (.iload 4, 2) := by decide +kernel
theorem dL_tick_173 : decode cL_tick 173 = .ok (.bipush 7, 2) := by decide +kernel
theorem dL_tick_175 : decode cL_tick 175 = .ok (.iadd, 1) := by decide +kernel
theorem dL_tick_176 : decode cL_tick 176 = .ok (.iaload, 1) := by decide +kernel
theorem dL_tick_177 : decode cL_tick 177 = .ok (.iconst 1, 1) := by decide +kernel
theorem dL_tick_178 : decode cL_tick 178 = .ok (.if_icmp .ne 62, 3) := by decide +kernel
theorem dL_tick_181 : decode cL_tick 181 = .ok (.aload_n 1, 1) := by decide +kernel
theorem dL_tick_182 : decode cL_tick 182 = .ok (.iload 4, 2) := by decide +kernel
theorem dL_tick_184 : decode cL_tick 184 = .ok (.bipush 7, 2) := by decide +kernel
theorem dL_tick_186 : decode cL_tick 186 = .ok (.iadd, 1) := by decide +kernel
theorem dL_tick_187 : decode cL_tick 187 = .ok (.iconst 2, 1) := by decide +kernel
theorem dL_tick_188 : decode cL_tick 188 = .ok (.iastore, 1) := by decide +kernel
theorem dL_tick_189 : decode cL_tick 189 = .ok (.aload_n 1, 1) := by decide +kernel
theorem dL_tick_190 : decode cL_tick 190 = .ok (.iload 4, 2) := by decide +kernel
theorem dL_tick_192 : decode cL_tick 192 = .ok (.iconst 1, 1) := by decide +kernel
theorem dL_tick_193 : decode cL_tick 193 = .ok (.iadd, 1) := by decide +kernel
theorem dL_tick_194 : decode cL_tick 194 = .ok (.iaload, 1) := by decide +kernel
theorem dL_tick_195 : decode cL_tick 195 = .ok (.iconst 1, 1) := by decide +kernel
theorem dL_tick_196 : decode cL_tick 196 = .ok (.if_icmp .ne 18, 3) := by decide +kernel
theorem dL_tick_199 : decode cL_tick 199 = .ok (.aload_n 1, 1) := by decide +kernel
theorem dL_tick_200 : decode cL_tick 200 = .ok (.iload 4, 2) := by decide +kernel
theorem dL_tick_202 : decode cL_tick 202 = .ok (.iconst 5, 1) := by decide +kernel
theorem dL_tick_203 : decode cL_tick 203 = .ok (.iadd, 1) := by decide +kernel
theorem dL_tick_204 : decode cL_tick 204 = .ok (.aload_n 1, 1) := by decide +kernel
theorem dL_tick_205 : decode cL_tick 205 = .ok (.iload 4, 2) := by decide +kernel
theorem dL_tick_207 : decode cL_tick 207 = .ok (.iconst 4, 1) := by decide +kernel
theorem dL_tick_208 : decode cL_tick 208 = .ok (.iadd, 1) := by decide +kernel
theorem dL_tick_209 : decode cL_tick 209 = .ok (.iaload, 1) := by decide +kernel
theorem dL_tick_210 : decode cL_tick 210 = .ok (.iastore, 1) := by decide +kernel
theorem dL_tick_211 : decode cL_tick 211 = .ok (.goto 19, 3) := by decide +kernel
theorem dL_tick_214 : decode cL_tick 214 = .ok (.aload_n 1, 1) := by decide +kernel
theorem dL_tick_215 : decode cL_tick 215 = .ok (.iload 4, 2) := by decide +kernel
theorem dL_tick_217 : decode cL_tick 217 = .ok (.iconst 4, 1) := by decide +kernel
theorem dL_tick_218 : decode cL_tick 218 = .ok (.iadd, 1) := by decide +kernel
theorem dL_tick_219 : decode cL_tick 219 = .ok (.iaload, 1) := by decide +kernel
theorem dL_tick_220 : decode cL_tick 220 = .ok (.ifCond .eq 10, 3) := by decide +kernel
theorem dL_tick_223 : decode cL_tick 223 = .ok (.aload_n 0, 1) := by decide +kernel
theorem dL_tick_224 : decode cL_tick 224 = .ok (.iconst 5, 1) := by decide +kernel
theorem dL_tick_225 : decode cL_tick 225 = .ok (.dup2, 1) := by decide +kernel
theorem dL_tick_226 : decode cL_tick 226 = .ok (.iaload, 1) := by decide +kernel
theorem dL_tick_227 : decode cL_tick 227 = .ok (.iconst 1, 1) := by decide +kernel
theorem dL_tick_228 : decode cL_tick 228 = .ok (.iadd, 1) := by decide +kernel
theorem dL_tick_229 : decode cL_tick 229 = .ok (.iastore, 1) := by decide +kernel
theorem dL_tick_230 : decode cL_tick 230 = .ok (.aload_n 1, 1) := by decide +kernel
theorem dL_tick_231 : decode cL_tick 231 = .ok (.iload 4, 2) := by decide +kernel
theorem dL_tick_233 : decode cL_tick 233 = .ok (.iconst 4, 1) := by decide +kernel
theorem dL_tick_234 : decode cL_tick 234 = .ok (.iadd, 1) := by decide +kernel
theorem dL_tick_235 : decode cL_tick 235 = .ok (.iconst 0, 1) := by decide +kernel
theorem dL_tick_236 : decode cL_tick 236 = .ok (.iastore, 1) := by decide +kernel
theorem dL_tick_237 : decode cL_tick 237 = .ok (.goto 59, 3) := by decide +kernel
theorem dL_tick_240 : decode cL_tick 240 = .ok (.aload_n 1, 1) := by decide +kernel
theorem dL_tick_241 : decode cL_tick 241 = .ok (.iload 4, 2) := by decide +kernel
theorem dL_tick_243 : decode cL_tick 243 = .ok (.bipush 7, 2) := by decide +kernel
theorem dL_tick_245 : decode cL_tick 245 = .ok (.iadd, 1) := by decide +kernel
theorem dL_tick_246 : decode cL_tick 246 = .ok (.iaload, 1) := by decide +kernel
theorem dL_tick_247 : decode cL_tick 247 = .ok (.iconst 4, 1) := by decide +kernel
theorem dL_tick_248 : decode cL_tick 248 = .ok (.if_icmp .ne 48, 3) := by decide +kernel
theorem dL_tick_251 : decode cL_tick 251 = .ok (.aload_n 1, 1) := by decide +kernel
theorem dL_tick_252 : decode cL_tick 252 = .ok (.iload 4, 2) := by decide +kernel
theorem dL_tick_254 : decode cL_tick 254 = .ok (.bipush 8, 2) := by decide +kernel
theorem dL_tick_256 : decode cL_tick 256 = .ok (.iadd, 1) := by decide +kernel
theorem dL_tick_257 : decode cL_tick 257 = .ok (.dup2, 1) := by decide +kernel
theorem dL_tick_258 : decode cL_tick 258 = .ok (.iaload, 1) := by decide +kernel
theorem dL_tick_259 : decode cL_tick 259 = .ok (.iconst 1, 1) := by decide +kernel
theorem dL_tick_260 : decode cL_tick 260 = .ok (.isub, 1) := by decide +kernel
theorem dL_tick_261 : decode cL_tick 261 = .ok (.dup_x2, 1) := by decide +kernel
theorem dL_tick_262 : decode cL_tick 262 = .ok (.iastore, 1) := by decide +kernel
theorem dL_tick_263 : decode cL_tick 263 = .ok (.ifCond .ne 33, 3) := by decide +kernel
theorem dL_tick_266 : decode cL_tick 266 = .ok (.aload_n 1, 1) := by decide +kernel
theorem dL_tick_267 : decode cL_tick 267 = .ok (.iload 4, 2) := by decide +kernel
theorem dL_tick_269 : decode cL_tick 269 = .ok (.bipush 7, 2) := by decide +kernel
theorem dL_tick_271 : decode cL_tick 271 = .ok (.iadd, 1) := by decide +kernel
theorem dL_tick_272 : decode cL_tick 272 = .ok (.iconst 0, 1) := by decide +kernel
theorem dL_tick_273 : decode cL_tick 273 = .ok (.iastore, 1) := by decide +kernel
theorem dL_tick_274 : decode cL_tick 274 = .ok (.aload_n 1, 1) := by decide +kernel
theorem dL_tick_275 : decode cL_tick 275 = .ok (.iload 4, 2) := by decide +kernel
theorem dL_tick_277 : decode cL_tick 277 = .ok (.iconst 1, 1) := by decide +kernel
theorem dL_tick_278 : decode cL_tick 278 = .ok (.iadd, 1) := by decide +kernel
theorem dL_tick_279 : decode cL_tick 279 = .ok (.iaload, 1) := by decide +kernel
theorem dL_tick_280 : decode cL_tick 280 = .ok (.iconst 1, 1) := by decide +kernel
theorem dL_tick_281 : decode cL_tick 281 = .ok (.if_icmp .ne 15, 3) := by decide +kernel
theorem dL_tick_284 : decode cL_tick 284 = .ok (.aload_n 1, 1) := by decide +kernel
theorem dL_tick_285 : decode cL_tick 285 = .ok (.iload 4, 2) := by decide +kernel
theorem dL_tick_287 : decode cL_tick 287 = .ok (.iconst 4, 1) := by decide +kernel
theorem dL_tick_288 : decode cL_tick 288 = .ok (.iadd, 1) := by decide +kernel
theorem dL_tick_289 : decode cL_tick 289 = .ok (.aload_n 1, 1) := by decide +kernel
theorem dL_tick_290 : decode cL_tick 290 = .ok (.iload 4, 2) := by decide +kernel
theorem dL_tick_292 : decode cL_tick 292 = .ok (.iconst 5, 1) := by decide +kernel
theorem dL_tick_293 : decode cL_tick 293 = .ok (.iadd, 1) := by decide +kernel
theorem dL_tick_294 : decode cL_tick 294 = .ok (.iaload, 1) := by decide +kernel
theorem dL_tick_295 : decode cL_tick 295 = .ok (.iastore, 1) := by decide +kernel
theorem dL_tick_296 : decode cL_tick 296 = .ok (.iinc 3 1, 3) := by decide +kernel
theorem dL_tick_299 : decode cL_tick 299 = .ok (.goto (-241), 3) := by decide +kernel
theorem dL_tick_302 : decode cL_tick 302 = .ok (.iconst 0, 1) := by decide +kernel
theorem dL_tick_303 : decode cL_tick 303 = .ok (.aload_n 0, 1) := by decide +kernel
theorem dL_tick_304 : decode cL_tick 304 = .ok (.aload_n 1, 1) := by decide +kernel
theorem dL_tick_305 : decode cL_tick 305 = .ok (.invokestatic 16, 3) := by decide +kernel
theorem dL_tick_308 : decode cL_tick 308 = .ok (.istore_n 3, 1) := by decide +kernel
theorem dL_tick_309 : decode cL_tick 309 = .ok (.iconst 0, 1) := by decide +kernel
theorem dL_tick_310 : decode cL_tick 310 = .ok (.istore 4, 2) := by decide +kernel
theorem dL_tick_312 : decode cL_tick 312 = .ok (.iload 4, 2) := by decide +kernel
theorem dL_tick_314 : decode cL_tick 314 = .ok (.aload_n 0, 1) := by decide +kernel
theorem dL_tick_315 : decode cL_tick 315 = .ok (.iconst 2, 1) := by decide +kernel
theorem dL_tick_316 : decode cL_tick 316 = .ok (.iaload, 1) := by decide +kernel
theorem dL_tick_317 : decode cL_tick 317 = .ok (.if_icmp .ge 49, 3) := by decide +kernel
theorem dL_tick_320 : decode cL_tick 320 = .ok (.aload_n 0, 1) := by decide +kernel
theorem dL_tick_321 : decode cL_tick 321 = .ok (.iconst 1, 1) := by decide +kernel
theorem dL_tick_322 : decode cL_tick 322 = .ok (.iaload, 1) := by decide +kernel
theorem dL_tick_323 : decode cL_tick 323 = .ok (.iconst 1, 1) := by decide +kernel
theorem dL_tick_324 : decode cL_tick 324 = .ok (.if_icmp .ne 42, 3) := by decide +kernel
theorem dL_tick_327 : decode cL_tick 327 = .ok (.aload_n 1, 1) := by decide +kernel
theorem dL_tick_328 : decode cL_tick 328 = .ok (.bipush 12, 2) := by decide +kernel
theorem dL_tick_330 : decode cL_tick 330 = .ok (.iload 4, 2) := by decide +kernel
theorem dL_tick_332 : decode cL_tick 332 = .ok (.imul, 1) := by decide +kernel
theorem dL_tick_333 : decode cL_tick 333 = .ok (.bipush 7, 2) := by decide +kernel
theorem dL_tick_335 : decode cL_tick 335 = .ok (.iadd, 1) := by decide +kernel
theorem dL_tick_336 : decode cL_tick 336 = .ok (.iaload, 1) := by decide +kernel
theorem dL_tick_337 : decode cL_tick 337 = .ok (.iconst 2, 1) := by decide +kernel
theorem dL_tick_338 : decode cL_tick 338 = .ok (.if_icmp .ne 22, 3) := by decide +kernel
theorem dL_tick_341 : decode cL_tick 341 = .ok (.iload 4, 2) := by decide +kernel
theorem dL_tick_343 : decode cL_tick 343 = .ok (.aload_n 0, 1) := by decide +kernel
theorem dL_tick_344 : decode cL_tick 344 = .ok (.aload_n 1, 1) := by decide +kernel
theorem dL_tick_345 : decode cL_tick 345 = .ok (.invokestatic 20, 3) := by decide +kernel
theorem dL_tick_348 : decode cL_tick 348 = .ok (.iload_n 3, 1) := by decide +kernel
theorem dL_tick_349 : decode cL_tick 349 = .ok (.iand, 1) := by decide +kernel
theorem dL_tick_350 : decode cL_tick 350 = .ok (.ifCond .eq 10, 3) := by decide +kernel
theorem dL_tick_353 : decode cL_tick 353 = .ok (.iload 4, 2) := by decide +kernel
theorem dL_tick_355 : decode cL_tick 355 = .ok (.aload_n 0, 1) := by decide +kernel
theorem dL_tick_356 : decode cL_tick 356 = .ok (.aload_n 1, 1) := by decide +kernel
theorem dL_tick_357 : decode cL_tick 357 = .ok (.invokestatic 23, 3) := by decide +kernel
theorem dL_tick_360 : decode cL_tick 360 = .ok (.iinc 4 1, 3) := by decide +kernel
theorem dL_tick_363 : decode cL_tick 363 = .ok (.goto (-51), 3) := by decide +kernel
theorem dL_tick_366 : decode cL_tick 366 = .ok (.iconst 0, 1) := by decide +kernel
theorem dL_tick_367 : decode cL_tick 367 = .ok (.istore 4, 2) := by decide +kernel
theorem dL_tick_369 : decode cL_tick 369 = .ok (.iconst 1, 1) := by decide +kernel
theorem dL_tick_370 : decode cL_tick 370 = .ok (.istore 5, 2) := by decide +kernel
theorem dL_tick_372 : decode cL_tick 372 = .ok (.iload 5, 2) := by decide +kernel
theorem dL_tick_374 : decode cL_tick 374 = .ok (.ifCond .eq 182, 3) := by decide +kernel
theorem dL_tick_377 : decode cL_tick 377 = .ok (.iconst (-1), 1) := by decide +kernel
theorem dL_tick_378 : decode cL_tick 378 = .ok (.istore 6, 2) := by decide +kernel
theorem dL_tick_380 : decode cL_tick 380 = .ok (.iconst 0, 1) := by decide +kernel
theorem dL_tick_381 : decode cL_tick 381 = .ok (.istore 7, 2) := by decide +kernel
theorem dL_tick_383 : decode cL_tick 383 = .ok (.iload 7, 2) := by decide +kernel
theorem dL_tick_385 : decode cL_tick 385 = .ok (.aload_n 0, 1) := by decide +kernel
theorem dL_tick_386 : decode cL_tick 386 = .ok (.iconst 2, 1) := by decide +kernel
theorem dL_tick_387 : decode cL_tick 387 = .ok (.iaload, 1) := by decide +kernel
theorem dL_tick_388 : decode cL_tick 388 = .ok (.if_icmp .ge 70, 3) := by decide +kernel
theorem dL_tick_391 : decode cL_tick 391 = .ok (.aload_n 1, 1) := by decide +kernel
theorem dL_tick_392 : decode cL_tick 392 = .ok (.bipush 12, 2) := by decide +kernel
theorem dL_tick_394 : decode cL_tick 394 = .ok (.iload 7, 2) := by decide +kernel
theorem dL_tick_396 : decode cL_tick 396 = .ok (.imul, 1) := by decide +kernel
theorem dL_tick_397 : decode cL_tick 397 = .ok (.bipush 7, 2) := by decide +kernel
theorem dL_tick_399 : decode cL_tick 399 = .ok (.iadd, 1) := by decide +kernel
theorem dL_tick_400 : decode cL_tick 400 = .ok (.iaload, 1) := by decide +kernel
theorem dL_tick_401 : decode cL_tick 401 = .ok (.iconst 3, 1) := by decide +kernel
theorem dL_tick_402 : decode cL_tick 402 = .ok (.if_icmp .ne 50, 3) := by decide +kernel
theorem dL_tick_405 : decode cL_tick 405 = .ok (.aload_n 1, 1) := by decide +kernel
theorem dL_tick_406 : decode cL_tick 406 = .ok (.bipush 12, 2) := by decide +kernel
theorem dL_tick_408 : decode cL_tick 408 = .ok (.iload 7, 2) := by decide +kernel
theorem dL_tick_410 : decode cL_tick 410 = .ok (.imul, 1) := by decide +kernel
theorem dL_tick_411 : decode cL_tick 411 = .ok (.bipush 10, 2) := by decide +kernel
theorem dL_tick_413 : decode cL_tick 413 = .ok (.iadd, 1) := by decide +kernel
theorem dL_tick_414 : decode cL_tick 414 = .ok (.iaload, 1) := by decide +kernel
theorem dL_tick_415 : decode cL_tick 415 = .ok (.iload 4, 2) := by decide +kernel
theorem dL_tick_417 : decode cL_tick 417 = .ok (.if_icmp .le 35, 3) := by decide +kernel
theorem dL_tick_420 : decode cL_tick 420 = .ok (.iload 6, 2) := by decide +kernel
theorem dL_tick_422 : decode cL_tick 422 = .ok (.ifCond .lt 26, 3) := by decide +kernel
theorem dL_tick_425 : decode cL_tick 425 = .ok (.aload_n 1, 1) := by decide +kernel
theorem dL_tick_426 : decode cL_tick 426 = .ok (.bipush 12, 2) := by decide +kernel
theorem dL_tick_428 : decode cL_tick 428 = .ok (.iload 7, 2) := by decide +kernel
theorem dL_tick_430 : decode cL_tick 430 = .ok (.imul, 1) := by decide +kernel
theorem dL_tick_431 : decode cL_tick 431 = .ok (.bipush 10, 2) := by decide +kernel
theorem dL_tick_433 : decode cL_tick 433 = .ok (.iadd, 1) := by decide +kernel
theorem dL_tick_434 : decode cL_tick 434 = .ok (.iaload, 1) := by decide +kernel
theorem dL_tick_435 : decode cL_tick 435 = .ok (.aload_n 1, 1) := by decide +kernel
theorem dL_tick_436 : decode cL_tick 436 = .ok (.bipush 12, 2) := by decide +kernel
theorem dL_tick_438 : decode cL_tick 438 = .ok (.iload 6, 2) := by decide +kernel
theorem dL_tick_440 : decode cL_tick 440 = .ok (.imul, 1) := by decide +kernel
theorem dL_tick_441 : decode cL_tick 441 = .ok (.bipush 10, 2) := by decide +kernel
theorem dL_tick_443 : decode cL_tick 443 = .ok (.iadd, 1) := by decide +kernel
theorem dL_tick_444 : decode cL_tick 444 = .ok (.iaload, 1) := by decide +kernel
theorem dL_tick_445 : decode cL_tick 445 = .ok (.if_icmp .ge 7, 3) := by decide +kernel
theorem dL_tick_448 : decode cL_tick 448 = .ok (.iload 7, 2) := by decide +kernel
theorem dL_tick_450 : decode cL_tick 450 = .ok (.istore 6, 2) := by decide +kernel
theorem dL_tick_452 : decode cL_tick 452 = .ok (.iinc 7 1, 3) := by decide +kernel
theorem dL_tick_455 : decode cL_tick 455 = .ok (.goto (-72), 3) := by decide +kernel
theorem dL_tick_458 : decode cL_tick 458 = .ok (.iload 6, 2) := by decide +kernel
theorem dL_tick_460 : decode cL_tick 460 = .ok (.ifCond .lt 7, 3) := by decide +kernel
theorem dL_tick_463 : decode cL_tick 463 = .ok (.iconst 1, 1) := by decide +kernel
theorem dL_tick_464 : decode cL_tick 464 = .ok (.goto 4, 3) := by decide +kernel
theorem dL_tick_467 : decode cL_tick 467 = .ok (.iconst 0, 1) := by decide +kernel
theorem dL_tick_468 : decode cL_tick 468 = .ok (.istore 5, 2) := by decide +kernel
theorem dL_tick_470 : decode cL_tick 470 = .ok (.iload 5, 2) := by decide +kernel
theorem dL_tick_472 : decode cL_tick 472 = .ok (.ifCond .ne 6, 3) := by decide +kernel
theorem dL_tick_475 : decode cL_tick 475 = .ok (.goto (-103), 3) := by decide +kernel
theorem dL_tick_478 : decode cL_tick 478 = .ok (.aload_n 1, 1) := by decide +kernel
theorem dL_tick_479 : decode cL_tick 479 = .ok (.bipush 12, 2) := by decide +kernel
theorem dL_tick_481 : decode cL_tick 481 = .ok (.iload 6, 2) := by decide +kernel
theorem dL_tick_483 : decode cL_tick 483 = .ok (.imul, 1) := by decide +kernel
theorem dL_tick_484 : decode cL_tick 484 = .ok (.bipush 10, 2) := by decide +kernel
theorem dL_tick_486 : decode cL_tick 486 = .ok (.iadd, 1) := by decide +kernel
theorem dL_tick_487 : decode cL_tick 487 = .ok (.iaload, 1) := by decide +kernel
theorem dL_tick_488 : decode cL_tick 488 = .ok (.istore 4, 2) := by decide +kernel
theorem dL_tick_490 : decode cL_tick 490 = .ok (.aload_n 0, 1) := by decide +kernel
theorem dL_tick_491 : decode cL_tick 491 = .ok (.aload_n 1, 1) := by decide +kernel
theorem dL_tick_492 : decode cL_tick 492 = .ok (.invokestatic 27, 3) := by decide +kernel
theorem dL_tick_495 : decode cL_tick 495 = .ok (.istore 7, 2) := by decide +kernel
theorem dL_tick_497 : decode cL_tick 497 = .ok (.iload 7, 2) := by decide +kernel
theorem dL_tick_499 : decode cL_tick 499 = .ok (.ifCond .le 24, 3) := by decide +kernel
theorem dL_tick_502 : decode cL_tick 502 = .ok (.iload 7, 2) := by decide +kernel
theorem dL_tick_504 : decode cL_tick 504 = .ok (.aload_n 1, 1) := by decide +kernel
theorem dL_tick_505 : decode cL_tick 505 = .ok (.bipush 12, 2) := by decide +kernel
theorem dL_tick_507 : decode cL_tick 507 = .ok (.iload 6, 2) := by decide +kernel
theorem dL_tick_509 : decode cL_tick 509 = .ok (.imul, 1) := by decide +kernel
theorem dL_tick_510 : decode cL_tick 510 = .ok (.iconst 3, 1) := by decide +kernel
theorem dL_tick_511 : decode cL_tick 511 = .ok (.iadd, 1) := by decide +kernel
theorem dL_tick_512 : decode cL_tick 512 = .ok (.iaload, 1) := by decide +kernel
theorem dL_tick_513 : decode cL_tick 513 = .ok (.iadd, 1) := by decide +kernel
theorem dL_tick_514 : decode cL_tick 514 = .ok (.aload_n 0, 1) := by decide +kernel
theorem dL_tick_515 : decode cL_tick 515 = .ok (.iconst 0, 1) := by decide +kernel
theorem dL_tick_516 : decode cL_tick 516 = .ok (.iaload, 1) := by decide +kernel
theorem dL_tick_517 : decode cL_tick 517 = .ok (.if_icmp .le 6, 3) := by decide +kernel
theorem dL_tick_520 : decode cL_tick 520 = .ok (.goto (-148), 3) := by decide +kernel
theorem dL_tick_523 : decode cL_tick 523 = .ok (.aload_n 1, 1) := by decide +kernel
theorem dL_tick_524 : decode cL_tick 524 = .ok (.bipush 12, 2) := by decide +kernel
theorem dL_tick_526 : decode cL_tick 526 = .ok (.iload 6, 2) := by decide +kernel
theorem dL_tick_528 : decode cL_tick 528 = .ok (.imul, 1) := by decide +kernel
theorem dL_tick_529 : decode cL_tick 529 = .ok (.bipush 7, 2) := by decide +kernel
theorem dL_tick_531 : decode cL_tick 531 = .ok (.iadd, 1) := by decide +kernel
theorem dL_tick_532 : decode cL_tick 532 = .ok (.iconst 4, 1) := by decide +kernel
theorem dL_tick_533 : decode cL_tick 533 = .ok (.iastore, 1) := by decide +kernel
theorem dL_tick_534 : decode cL_tick 534 = .ok (.aload_n 1, 1) := by decide +kernel
theorem dL_tick_535 : decode cL_tick 535 = .ok (.bipush 12, 2) := by decide +kernel
theorem dL_tick_537 : decode cL_tick 537 = .ok (.iload 6, 2) := by decide +kernel
theorem dL_tick_539 : decode cL_tick 539 = .ok (.imul, 1) := by decide +kernel
theorem dL_tick_540 : decode cL_tick 540 = .ok (.bipush 8, 2) := by decide +kernel
theorem dL_tick_542 : decode cL_tick 542 = .ok (.iadd, 1) := by decide +kernel
theorem dL_tick_543 : decode cL_tick 543 = .ok (.aload_n 1, 1) := by decide +kernel
theorem dL_tick_544 : decode cL_tick 544 = .ok (.bipush 12, 2) := by decide +kernel
theorem dL_tick_546 : decode cL_tick 546 = .ok (.iload 6, 2) := by decide +kernel
theorem dL_tick_548 : decode cL_tick 548 = .ok (.imul, 1) := by decide +kernel
theorem dL_tick_549 : decode cL_tick 549 = .ok (.iconst 2, 1) := by decide +kernel
theorem dL_tick_550 : decode cL_tick 550 = .ok (.iadd, 1) := by decide +kernel
theorem dL_tick_551 : decode cL_tick 551 = .ok (.iaload, 1) := by decide +kernel
theorem dL_tick_552 : decode cL_tick 552 = .ok (.iastore, 1) := by decide +kernel
theorem dL_tick_553 : decode cL_tick 553 = .ok (.goto (-181), 3) := by decide +kernel
theorem dL_tick_556 : decode cL_tick 556 = .ok (.aload_n 0, 1) := by decide +kernel
theorem dL_tick_557 : decode cL_tick 557 = .ok (.iconst 3, 1) := by decide +kernel
theorem dL_tick_558 : decode cL_tick 558 = .ok (.dup2, 1) := by decide +kernel
theorem dL_tick_559 : decode cL_tick 559 = .ok (.iaload, 1) := by decide +kernel
theorem dL_tick_560 : decode cL_tick 560 = .ok (.iconst 1, 1) := by decide +kernel
theorem dL_tick_561 : decode cL_tick 561 = .ok (.iadd, 1) := by decide +kernel
theorem dL_tick_562 : decode cL_tick 562 = .ok (.iastore, 1) := by decide +kernel
theorem dL_tick_563 : decode cL_tick 563 = .ok (.aload_n 0, 1) := by decide +kernel
theorem dL_tick_564 : decode cL_tick 564 = .ok (.bipush 6, 2) := by decide +kernel
theorem dL_tick_566 : decode cL_tick 566 = .ok (.aload_n 0, 1) := by decide +kernel
theorem dL_tick_567 : decode cL_tick 567 = .ok (.aload_n 1, 1) := by decide +kernel
theorem dL_tick_568 : decode cL_tick 568 = .ok (.invokestatic 27, 3) := by decide +kernel
theorem dL_tick_571 : decode cL_tick 571 = .ok (.aload_n 0, 1) := by decide +kernel
theorem dL_tick_572 : decode cL_tick 572 = .ok (.bipush 6, 2) := by decide +kernel
theorem dL_tick_574 : decode cL_tick 574 = .ok (.iaload, 1) := by decide +kernel
theorem dL_tick_575 : decode cL_tick 575 = .ok (.if_icmp .le 11, 3) := by decide +kernel
theorem dL_tick_578 : decode cL_tick 578 = .ok (.aload_n 0, 1) := by decide +kernel
theorem dL_tick_579 : decode cL_tick 579 = .ok (.aload_n 1, 1) := by decide +kernel
theorem dL_tick_580 : decode cL_tick 580 = .ok (.invokestatic 27, 3) := by decide +kernel
theorem dL_tick_583 : decode cL_tick 583 = .ok (.goto 7, 3) := by decide +kernel
theorem dL_tick_586 : decode cL_tick 586 = .ok (.aload_n 0, 1) := by decide +kernel
theorem dL_tick_587 : decode cL_tick 587 = .ok (.bipush 6, 2) := by decide +kernel
theorem dL_tick_589 : decode cL_tick 589 = .ok (.iaload, 1) := by decide +kernel
theorem dL_tick_590 : decode cL_tick 590 = .ok (.iastore, 1) := by decide +kernel
theorem dL_tick_591 : decode cL_tick 591 = .ok (.return_, 1) := by decide +kernel
theorem dL_place_0 : decode cL_place 0 = .ok (.aload_n 2, 1) := by decide +kernel
theorem dL_place_1 : decode cL_place 1 = .ok (.bipush 12, 2) := by decide +kernel
theorem dL_place_3 : decode cL_place 3 = .ok (.iload_n 0, 1) := by decide +kernel
theorem dL_place_4 : decode cL_place 4 = .ok (.imul, 1) := by decide +kernel
theorem dL_place_5 : decode cL_place 5 = .ok (.bipush 7, 2) := by decide +kernel
theorem dL_place_7 : decode cL_place 7 = .ok (.iadd, 1) := by decide +kernel
theorem dL_place_8 : decode cL_place 8 = .ok (.iaload, 1) := by decide +kernel
theorem dL_place_9 : decode cL_place 9 = .ok (.iconst 3, 1) := by decide +kernel
theorem dL_place_10 : decode cL_place 10 = .ok (.if_icmp .eq 6, 3) := by decide +kernel
theorem dL_place_13 : decode cL_place 13 = .ok (.bipush (-6), 2) := by decide +kernel
theorem dL_place_15 : decode cL_place 15 = .ok (.ireturn, 1) := by decide +kernel
theorem dL_place_16 : decode cL_place 16 = .ok (.iconst 0, 1) := by decide +kernel
theorem dL_place_17 : decode cL_place 17 = .ok (.istore_n 3, 1) := by decide +kernel
theorem dL_place_18 : decode cL_place 18 = .ok (.iconst 0, 1) := by decide +kernel
theorem dL_place_19 : decode cL_place 19 = .ok (.istore 4, 2) := by decide +kernel
theorem dL_place_21 : decode cL_place 21 = .ok (.iload 4, 2) := by decide +kernel
theorem dL_place_23 : decode cL_place 23 = .ok (.aload_n 1, 1) := by decide +kernel
theorem dL_place_24 : decode cL_place 24 = .ok (.iconst 2, 1) := by decide +kernel
theorem dL_place_25 : decode cL_place 25 = .ok (.iaload, 1) := by decide +kernel
theorem dL_place_26 : decode cL_place 26 = .ok (.if_icmp .ge 53, 3) := by decide +kernel
theorem dL_place_29 : decode cL_place 29 = .ok (.iload_n 3, 1) := by decide +kernel
theorem dL_place_30 : decode cL_place 30 = .ok (.aload_n 2, 1) := by decide +kernel
theorem dL_place_31 : decode cL_place 31 = .ok (.bipush 12, 2) := by decide +kernel
theorem dL_place_33 : decode cL_place 33 = .ok (.iload 4, 2) := by decide +kernel
theorem dL_place_35 : decode cL_place 35 = .ok (.imul, 1) := by decide +kernel
theorem dL_place_36 : decode cL_place 36 = .ok (.bipush 7, 2) := by decide +kernel
theorem dL_place_38 : decode cL_place 38 = .ok (.iadd, 1) := by decide +kernel
theorem dL_place_39 : decode cL_place 39 = .ok (.iaload, 1) := by decide +kernel
theorem dL_place_40 : decode cL_place 40 = .ok (.iconst 3, 1) := by decide +kernel
theorem dL_place_41 : decode cL_place 41 = .ok (.if_icmp .ne 29, 3) := by decide +kernel
theorem dL_place_44 : decode cL_place 44 = .ok (.aload_n 2, 1) := by decide +kernel
theorem dL_place_45 : decode cL_place 45 = .ok (.bipush 12, 2) := by decide +kernel
theorem dL_place_47 : decode cL_place 47 = .ok (.iload 4, 2) := by decide +kernel
theorem dL_place_49 : decode cL_place 49 = .ok (.imul, 1) := by decide +kernel
theorem dL_place_50 : decode cL_place 50 = .ok (.bipush 10, 2) := by decide +kernel
theorem dL_place_52 : decode cL_place 52 = .ok (.iadd, 1) := by decide +kernel
theorem dL_place_53 : decode cL_place 53 = .ok (.iaload, 1) := by decide +kernel
theorem dL_place_54 : decode cL_place 54 = .ok (.aload_n 2, 1) := by decide +kernel
theorem dL_place_55 : decode cL_place 55 = .ok (.bipush 12, 2) := by decide +kernel
theorem dL_place_57 : decode cL_place 57 = .ok (.iload_n 0, 1) := by decide +kernel
theorem dL_place_58 : decode cL_place 58 = .ok (.imul, 1) := by decide +kernel
theorem dL_place_59 : decode cL_place 59 = .ok (.bipush 10, 2) := by decide +kernel
theorem dL_place_61 : decode cL_place 61 = .ok (.iadd, 1) := by decide +kernel
theorem dL_place_62 : decode cL_place 62 = .ok (.iaload, 1) := by decide +kernel
theorem dL_place_63 : decode cL_place 63 = .ok (.if_icmp .ge 7, 3) := by decide +kernel
theorem dL_place_66 : decode cL_place 66 = .ok (.iconst 1, 1) := by decide +kernel
theorem dL_place_67 : decode cL_place 67 = .ok (.goto 4, 3) := by decide +kernel
theorem dL_place_70 : decode cL_place 70 = .ok (.iconst 0, 1) := by decide +kernel
theorem dL_place_71 : decode cL_place 71 = .ok (.iadd, 1) := by decide +kernel
theorem dL_place_72 : decode cL_place 72 = .ok (.istore_n 3, 1) := by decide +kernel
theorem dL_place_73 : decode cL_place 73 = .ok (.iinc 4 1, 3) := by decide +kernel
theorem dL_place_76 : decode cL_place 76 = .ok (.goto (-55), 3) := by decide +kernel
theorem dL_place_79 : decode cL_place 79 = .ok (.iload_n 3, 1) := by decide +kernel
theorem dL_place_80 : decode cL_place 80 = .ok (.ireturn, 1) := by decide +kernel
theorem dL_same_0 : decode cL_same 0 = .ok (.iconst 0, 1) := by decide +kernel
theorem dL_same_1 : decode cL_same 1 = .ok (.istore_n 3, 1) := by decide +kernel
theorem dL_same_2 : decode cL_same 2 = .ok (.iload_n 3, 1) := by decide +kernel
theorem dL_same_3 : decode cL_same 3 = .ok (.aload_n 1, 1) := by decide +kernel
theorem dL_same_4 : decode cL_same 4 = .ok (.iconst 2, 1) := by decide +kernel
theorem dL_same_5 : decode cL_same 5 = .ok (.iaload, 1) := by decide +kernel
theorem dL_same_6 : decode cL_same 6 = .ok (.if_icmp .ge 254, 3) := by decide +kernel
theorem dL_same_9 : decode cL_same 9 = .ok (.bipush 12, 2) := by decide +kernel
theorem dL_same_11 : decode cL_same 11 = .ok (.iload_n 3, 1) := by decide +kernel
theorem dL_same_12 : decode cL_same 12 = .ok (.imul, 1) := by decide +kernel
theorem dL_same_13 : decode cL_same 13 = .ok (.istore 4, 2) := by decide +kernel
theorem dL_same_15 : decode cL_same 15 = .ok (.iload_n 3, 1) := by decide +kernel
theorem dL_same_16 : decode cL_same 16 = .ok (.aload_n 1, 1) := by decide +kernel
theorem dL_same_17 : decode cL_same 17 = .ok (.aload_n 2, 1) := by decide +kernel
theorem dL_same_18 : decode cL_same 18 = .ok (.invokestatic 31, 3) := by decide +kernel
theorem dL_same_21 : decode cL_same 21 = .ok (.istore 5, 2) := by decide +kernel
theorem dL_same_23 : decode cL_same 23 = .ok (.aload_n 0, 1) := by decide +kernel
theorem dL_same_24 : decode cL_same 24 = .ok (.iload_n 3, 1) := by decide +kernel
theorem dL_same_25 : decode cL_same 25 = .ok (.iconst 0, 1) := by decide +kernel
theorem dL_same_26 : decode cL_same 26 = .ok (.invokevirtual 34, 3) := by decide +kernel
theorem dL_same_29 : decode cL_same 29 = .ok (.aload_n 2, 1) := by decide +kernel
theorem dL_same_30 : decode cL_same 30 = .ok (.iload 4, 2) := by decide +kernel
theorem dL_same_32 : decode cL_same 32 = .ok (.bipush 7, 2) := by decide +kernel
theorem dL_same_34 : decode cL_same 34 = .ok (.iadd, 1) := by decide +kernel
theorem dL_same_35 : decode cL_same 35 = .ok (.iaload, 1) := by decide +kernel
theorem dL_same_36 : decode cL_same 36 = .ok (.if_icmp .ne 216, 3) := by decide +kernel
theorem dL_same_39 : decode cL_same 39 = .ok (.aload_n 0, 1) := by decide +kernel
theorem dL_same_40 : decode cL_same 40 = .ok (.iload_n 3, 1) := by decide +kernel
theorem dL_same_41 : decode cL_same 41 = .ok (.iconst 1, 1) := by decide +kernel
theorem dL_same_42 : decode cL_same 42 = .ok (.invokevirtual 34, 3) := by decide +kernel
theorem dL_same_45 : decode cL_same 45 = .ok (.aload_n 2, 1) := by decide +kernel
theorem dL_same_46 : decode cL_same 46 = .ok (.iload 4, 2) := by decide +kernel
theorem dL_same_48 : decode cL_same 48 = .ok (.iconst 4, 1) := by decide +kernel
theorem dL_same_49 : decode cL_same 49 = .ok (.iadd, 1) := by decide +kernel
theorem dL_same_50 : decode cL_same 50 = .ok (.iaload, 1) := by decide +kernel
theorem dL_same_51 : decode cL_same 51 = .ok (.if_icmp .ne 201, 3) := by decide +kernel
theorem dL_same_54 : decode cL_same 54 = .ok (.aload_n 0, 1) := by decide +kernel
theorem dL_same_55 : decode cL_same 55 = .ok (.iload_n 3, 1) := by decide +kernel
theorem dL_same_56 : decode cL_same 56 = .ok (.iconst 2, 1) := by decide +kernel
theorem dL_same_57 : decode cL_same 57 = .ok (.invokevirtual 34, 3) := by decide +kernel
theorem dL_same_60 : decode cL_same 60 = .ok (.aload_n 2, 1) := by decide +kernel
theorem dL_same_61 : decode cL_same 61 = .ok (.iload 4, 2) := by decide +kernel
theorem dL_same_63 : decode cL_same 63 = .ok (.iconst 5, 1) := by decide +kernel
theorem dL_same_64 : decode cL_same 64 = .ok (.iadd, 1) := by decide +kernel
theorem dL_same_65 : decode cL_same 65 = .ok (.iaload, 1) := by decide +kernel
theorem dL_same_66 : decode cL_same 66 = .ok (.if_icmp .ne 186, 3) := by decide +kernel
theorem dL_same_69 : decode cL_same 69 = .ok (.aload_n 0, 1) := by decide +kernel
theorem dL_same_70 : decode cL_same 70 = .ok (.iload_n 3, 1) := by decide +kernel
theorem dL_same_71 : decode cL_same 71 = .ok (.iconst 3, 1) := by decide +kernel
theorem dL_same_72 : decode cL_same 72 = .ok (.invokevirtual 34, 3) := by decide +kernel
theorem dL_same_75 : decode cL_same 75 = .ok (.aload_n 2, 1) := by decide +kernel
theorem dL_same_76 : decode cL_same 76 = .ok (.iload 4, 2) := by decide +kernel
theorem dL_same_78 : decode cL_same 78 = .ok (.iaload, 1) := by decide +kernel
theorem dL_same_79 : decode cL_same 79 = .ok (.if_icmp .ne 173, 3) := by decide +kernel
theorem dL_same_82 : decode cL_same 82 = .ok (.aload_n 0, 1) := by decide +kernel
theorem dL_same_83 : decode cL_same 83 = .ok (.iload_n 3, 1) := by decide +kernel
theorem dL_same_84 : decode cL_same 84 = .ok (.iconst 4, 1) := by decide +kernel
theorem dL_same_85 : decode cL_same 85 = .ok (.invokevirtual 34, 3) := by decide +kernel
theorem dL_same_88 : decode cL_same 88 = .ok (.aload_n 2, 1) := by decide +kernel
theorem dL_same_89 : decode cL_same 89 = .ok (.iload 4, 2) := by decide +kernel
theorem dL_same_91 : decode cL_same 91 = .ok (.iconst 1, 1) := by decide +kernel
theorem dL_same_92 : decode cL_same 92 = .ok (.iadd, 1) := by decide +kernel
theorem dL_same_93 : decode cL_same 93 = .ok (.iaload, 1) := by decide +kernel
theorem dL_same_94 : decode cL_same 94 = .ok (.if_icmp .ne 158, 3) := by decide +kernel
theorem dL_same_97 : decode cL_same 97 = .ok (.aload_n 0, 1) := by decide +kernel
theorem dL_same_98 : decode cL_same 98 = .ok (.iload_n 3, 1) := by decide +kernel
theorem dL_same_99 : decode cL_same 99 = .ok (.iconst 5, 1) := by decide +kernel
theorem dL_same_100 : decode cL_same 100 = .ok (.invokevirtual 34, 3) := by decide +kernel
theorem dL_same_103 : decode cL_same 103 = .ok (.aload_n 2, 1) := by decide +kernel
theorem dL_same_104 : decode cL_same 104 = .ok (.iload 4, 2) := by decide +kernel
theorem dL_same_106 : decode cL_same 106 = .ok (.iconst 2, 1) := by decide +kernel
theorem dL_same_107 : decode cL_same 107 = .ok (.iadd, 1) := by decide +kernel
theorem dL_same_108 : decode cL_same 108 = .ok (.iaload, 1) := by decide +kernel
theorem dL_same_109 : decode cL_same 109 = .ok (.if_icmp .ne 143, 3) := by decide +kernel
theorem dL_same_112 : decode cL_same 112 = .ok (.aload_n 0, 1) := by decide +kernel
theorem dL_same_113 : decode cL_same 113 = .ok (.iload_n 3, 1) := by decide +kernel
theorem dL_same_114 : decode cL_same 114 = .ok (.bipush 6, 2) := by decide +kernel
theorem dL_same_116 : decode cL_same 116 = .ok (.invokevirtual 34, 3) := by decide +kernel
theorem dL_same_119 : decode cL_same 119 = .ok (.aload_n 2, 1) := by decide +kernel
theorem dL_same_120 : decode cL_same 120 = .ok (.iload 4, 2) := by decide +kernel
theorem dL_same_122 : decode cL_same 122 = .ok (.iconst 3, 1) := by decide +kernel
theorem dL_same_123 : decode cL_same 123 = .ok (.iadd, 1) := by decide +kernel
theorem dL_same_124 : decode cL_same 124 = .ok (.iaload, 1) := by decide +kernel
theorem dL_same_125 : decode cL_same 125 = .ok (.if_icmp .ne 127, 3) := by decide +kernel
theorem dL_same_128 : decode cL_same 128 = .ok (.aload_n 0, 1) := by decide +kernel
theorem dL_same_129 : decode cL_same 129 = .ok (.iload_n 3, 1) := by decide +kernel
theorem dL_same_130 : decode cL_same 130 = .ok (.bipush 7, 2) := by decide +kernel
theorem dL_same_132 : decode cL_same 132 = .ok (.invokevirtual 34, 3) := by decide +kernel
theorem dL_same_135 : decode cL_same 135 = .ok (.aload_n 2, 1) := by decide +kernel
theorem dL_same_136 : decode cL_same 136 = .ok (.iload 4, 2) := by decide +kernel
theorem dL_same_138 : decode cL_same 138 = .ok (.bipush 6, 2) := by decide +kernel
theorem dL_same_140 : decode cL_same 140 = .ok (.iadd, 1) := by decide +kernel
theorem dL_same_141 : decode cL_same 141 = .ok (.iaload, 1) := by decide +kernel
theorem dL_same_142 : decode cL_same 142 = .ok (.if_icmp .ne 110, 3) := by decide +kernel
theorem dL_same_145 : decode cL_same 145 = .ok (.aload_n 0, 1) := by decide +kernel
theorem dL_same_146 : decode cL_same 146 = .ok (.iload_n 3, 1) := by decide +kernel
theorem dL_same_147 : decode cL_same 147 = .ok (.bipush 8, 2) := by decide +kernel
theorem dL_same_149 : decode cL_same 149 = .ok (.invokevirtual 34, 3) := by decide +kernel
theorem dL_same_152 : decode cL_same 152 = .ok (.iload_n 3, 1) := by decide +kernel
theorem dL_same_153 : decode cL_same 153 = .ok (.aload_n 1, 1) := by decide +kernel
theorem dL_same_154 : decode cL_same 154 = .ok (.aload_n 2, 1) := by decide +kernel
theorem dL_same_155 : decode cL_same 155 = .ok (.invokestatic 20, 3) := by decide +kernel
theorem dL_same_158 : decode cL_same 158 = .ok (.if_icmp .ne 94, 3) := by decide +kernel
theorem dL_same_161 : decode cL_same 161 = .ok (.aload_n 0, 1) := by decide +kernel
theorem dL_same_162 : decode cL_same 162 = .ok (.iload_n 3, 1) := by decide +kernel
theorem dL_same_163 : decode cL_same 163 = .ok (.bipush 9, 2) := by decide +kernel
theorem dL_same_165 : decode cL_same 165 = .ok (.invokevirtual 34, 3) := by decide +kernel
theorem dL_same_168 : decode cL_same 168 = .ok (.iload_n 3, 1) := by decide +kernel
theorem dL_same_169 : decode cL_same 169 = .ok (.aload_n 2, 1) := by decide +kernel
theorem dL_same_170 : decode cL_same 170 = .ok (.invokestatic 10, 3) := by decide +kernel
theorem dL_same_173 : decode cL_same 173 = .ok (.if_icmp .ne 79, 3) := by decide +kernel
theorem dL_same_176 : decode cL_same 176 = .ok (.aload_n 0, 1) := by decide +kernel
theorem dL_same_177 : decode cL_same 177 = .ok (.iload_n 3, 1) := by decide +kernel
theorem dL_same_178 : decode cL_same 178 = .ok (.bipush 10, 2) := by decide +kernel
theorem dL_same_180 : decode cL_same 180 = .ok (.invokevirtual 34, 3) := by decide +kernel
theorem dL_same_183 : decode cL_same 183 = .ok (.aload_n 2, 1) := by decide +kernel
theorem dL_same_184 : decode cL_same 184 = .ok (.iload 4, 2) := by decide +kernel
theorem dL_same_186 : decode cL_same 186 = .ok (.bipush 7, 2) := by decide +kernel
theorem dL_same_188 : decode cL_same 188 = .ok (.iadd, 1) := by decide +kernel
theorem dL_same_189 : decode cL_same 189 = .ok (.iaload, 1) := by decide +kernel
theorem dL_same_190 : decode cL_same 190 = .ok (.iconst 4, 1) := by decide +kernel
theorem dL_same_191 : decode cL_same 191 = .ok (.if_icmp .ne 13, 3) := by decide +kernel
theorem dL_same_194 : decode cL_same 194 = .ok (.aload_n 2, 1) := by decide +kernel
theorem dL_same_195 : decode cL_same 195 = .ok (.iload 4, 2) := by decide +kernel
theorem dL_same_197 : decode cL_same 197 = .ok (.bipush 8, 2) := by decide +kernel
theorem dL_same_199 : decode cL_same 199 = .ok (.iadd, 1) := by decide +kernel
theorem dL_same_200 : decode cL_same 200 = .ok (.iaload, 1) := by decide +kernel
theorem dL_same_201 : decode cL_same 201 = .ok (.goto 4, 3) := by decide +kernel
theorem dL_same_204 : decode cL_same 204 = .ok (.iconst 0, 1) := by decide +kernel
theorem dL_same_205 : decode cL_same 205 = .ok (.if_icmp .ne 47, 3) := by decide +kernel
theorem dL_same_208 : decode cL_same 208 = .ok (.aload_n 0, 1) := by decide +kernel
theorem dL_same_209 : decode cL_same 209 = .ok (.iload_n 3, 1) := by decide +kernel
theorem dL_same_210 : decode cL_same 210 = .ok (.bipush 11, 2) := by decide +kernel
theorem dL_same_212 : decode cL_same 212 = .ok (.invokevirtual 34, 3) := by decide +kernel
theorem dL_same_215 : decode cL_same 215 = .ok (.iload 5, 2) := by decide +kernel
theorem dL_same_217 : decode cL_same 217 = .ok (.if_icmp .ne 35, 3) := by decide +kernel
theorem dL_same_220 : decode cL_same 220 = .ok (.aload_n 0, 1) := by decide +kernel
theorem dL_same_221 : decode cL_same 221 = .ok (.iload_n 3, 1) := by decide +kernel
theorem dL_same_222 : decode cL_same 222 = .ok (.bipush 12, 2) := by decide +kernel
theorem dL_same_224 : decode cL_same 224 = .ok (.invokevirtual 34, 3) := by decide +kernel
theorem dL_same_227 : decode cL_same 227 = .ok (.aload_n 2, 1) := by decide +kernel
theorem dL_same_228 : decode cL_same 228 = .ok (.iload 4, 2) := by decide +kernel
theorem dL_same_230 : decode cL_same 230 = .ok (.bipush 9, 2) := by decide +kernel
theorem dL_same_232 : decode cL_same 232 = .ok (.iadd, 1) := by decide +kernel
theorem dL_same_233 : decode cL_same 233 = .ok (.iaload, 1) := by decide +kernel
theorem dL_same_234 : decode cL_same 234 = .ok (.if_icmp .ne 18, 3) := by decide +kernel
theorem dL_same_237 : decode cL_same 237 = .ok (.iload 5, 2) := by decide +kernel
theorem dL_same_239 : decode cL_same 239 = .ok (.ifCond .lt 15, 3) := by decide +kernel
theorem dL_same_242 : decode cL_same 242 = .ok (.aload_n 0, 1) := by decide +kernel
theorem dL_same_243 : decode cL_same 243 = .ok (.iload 5, 2) := by decide +kernel
theorem dL_same_245 : decode cL_same 245 = .ok (.invokevirtual 40, 3) := by decide +kernel
theorem dL_same_248 : decode cL_same 248 = .ok (.iload_n 3, 1) := by decide +kernel
theorem dL_same_249 : decode cL_same 249 = .ok (.if_icmp .eq 5, 3) := by decide +kernel
theorem dL_same_252 : decode cL_same 252 = .ok (.iconst 0, 1) := by decide +kernel
theorem dL_same_253 : decode cL_same 253 = .ok (.ireturn, 1) := by decide +kernel
theorem dL_same_254 : decode cL_same 254 = .ok (.iinc 3 1, 3) := by decide +kernel
theorem dL_same_257 : decode cL_same 257 = .ok (.goto (-255), 3) := by decide +kernel
theorem dL_same_260 : decode cL_same 260 = .ok (.aload_n 0, 1) := by decide +kernel
theorem dL_same_261 : decode cL_same 261 = .ok (.iconst 0, 1) := by decide +kernel
theorem dL_same_262 : decode cL_same 262 = .ok (.invokevirtual 44, 3) := by decide +kernel
theorem dL_same_265 : decode cL_same 265 = .ok (.aload_n 1, 1) := by decide +kernel
theorem dL_same_266 : decode cL_same 266 = .ok (.iconst 2, 1) := by decide +kernel
theorem dL_same_267 : decode cL_same 267 = .ok (.iaload, 1) := by decide +kernel
theorem dL_same_268 : decode cL_same 268 = .ok (.if_icmp .ne 166, 3) := by decide +kernel
theorem dL_same_271 : decode cL_same 271 = .ok (.aload_n 0, 1) := by decide +kernel
theorem dL_same_272 : decode cL_same 272 = .ok (.iconst 1, 1) := by decide +kernel
theorem dL_same_273 : decode cL_same 273 = .ok (.invokevirtual 44, 3) := by decide +kernel
theorem dL_same_276 : decode cL_same 276 = .ok (.iconst 0, 1) := by decide +kernel
theorem dL_same_277 : decode cL_same 277 = .ok (.aload_n 1, 1) := by decide +kernel
theorem dL_same_278 : decode cL_same 278 = .ok (.aload_n 2, 1) := by decide +kernel
theorem dL_same_279 : decode cL_same 279 = .ok (.invokestatic 16, 3) := by decide +kernel
theorem dL_same_282 : decode cL_same 282 = .ok (.if_icmp .ne 152, 3) := by decide +kernel
theorem dL_same_285 : decode cL_same 285 = .ok (.aload_n 0, 1) := by decide +kernel
theorem dL_same_286 : decode cL_same 286 = .ok (.iconst 2, 1) := by decide +kernel
theorem dL_same_287 : decode cL_same 287 = .ok (.invokevirtual 44, 3) := by decide +kernel
theorem dL_same_290 : decode cL_same 290 = .ok (.iconst 2, 1) := by decide +kernel
theorem dL_same_291 : decode cL_same 291 = .ok (.aload_n 1, 1) := by decide +kernel
theorem dL_same_292 : decode cL_same 292 = .ok (.aload_n 2, 1) := by decide +kernel
theorem dL_same_293 : decode cL_same 293 = .ok (.invokestatic 16, 3) := by decide +kernel
theorem dL_same_296 : decode cL_same 296 = .ok (.if_icmp .ne 138, 3) := by decide +kernel
theorem dL_same_299 : decode cL_same 299 = .ok (.aload_n 0, 1) := by decide +kernel
theorem dL_same_300 : decode cL_same 300 = .ok (.iconst 3, 1) := by decide +kernel
theorem dL_same_301 : decode cL_same 301 = .ok (.invokevirtual 44, 3) := by decide +kernel
theorem dL_same_304 : decode cL_same 304 = .ok (.iconst 3, 1) := by decide +kernel
theorem dL_same_305 : decode cL_same 305 = .ok (.aload_n 1, 1) := by decide +kernel
theorem dL_same_306 : decode cL_same 306 = .ok (.aload_n 2, 1) := by decide +kernel
theorem dL_same_307 : decode cL_same 307 = .ok (.invokestatic 16, 3) := by decide +kernel
theorem dL_same_310 : decode cL_same 310 = .ok (.if_icmp .ne 124, 3) := by decide +kernel
theorem dL_same_313 : decode cL_same 313 = .ok (.aload_n 0, 1) := by decide +kernel
theorem dL_same_314 : decode cL_same 314 = .ok (.iconst 4, 1) := by decide +kernel
theorem dL_same_315 : decode cL_same 315 = .ok (.invokevirtual 44, 3) := by decide +kernel
theorem dL_same_318 : decode cL_same 318 = .ok (.iconst 4, 1) := by decide +kernel
theorem dL_same_319 : decode cL_same 319 = .ok (.aload_n 1, 1) := by decide +kernel
theorem dL_same_320 : decode cL_same 320 = .ok (.aload_n 2, 1) := by decide +kernel
theorem dL_same_321 : decode cL_same 321 = .ok (.invokestatic 16, 3) := by decide +kernel
theorem dL_same_324 : decode cL_same 324 = .ok (.if_icmp .ne 110, 3) := by decide +kernel
theorem dL_same_327 : decode cL_same 327 = .ok (.aload_n 0, 1) := by decide +kernel
theorem dL_same_328 : decode cL_same 328 = .ok (.iconst 5, 1) := by decide +kernel
theorem dL_same_329 : decode cL_same 329 = .ok (.invokevirtual 44, 3) := by decide +kernel
theorem dL_same_332 : decode cL_same 332 = .ok (.aload_n 1, 1) := by decide +kernel
theorem dL_same_333 : decode cL_same 333 = .ok (.aload_n 2, 1) := by decide +kernel
theorem dL_same_334 : decode cL_same 334 = .ok (.invokestatic 27, 3) := by decide +kernel
theorem dL_same_337 : decode cL_same 337 = .ok (.if_icmp .ne 97, 3) := by decide +kernel
theorem dL_same_340 : decode cL_same 340 = .ok (.aload_n 0, 1) := by decide +kernel
theorem dL_same_341 : decode cL_same 341 = .ok (.bipush 6, 2) := by decide +kernel
theorem dL_same_343 : decode cL_same 343 = .ok (.invokevirtual 44, 3) := by decide +kernel
theorem dL_same_346 : decode cL_same 346 = .ok (.aload_n 1, 1) := by decide +kernel
theorem dL_same_347 : decode cL_same 347 = .ok (.bipush 6, 2) := by decide +kernel
theorem dL_same_349 : decode cL_same 349 = .ok (.iaload, 1) := by decide +kernel
theorem dL_same_350 : decode cL_same 350 = .ok (.if_icmp .ne 84, 3) := by decide +kernel
theorem dL_same_353 : decode cL_same 353 = .ok (.aload_n 0, 1) := by decide +kernel
theorem dL_same_354 : decode cL_same 354 = .ok (.bipush 7, 2) := by decide +kernel
theorem dL_same_356 : decode cL_same 356 = .ok (.invokevirtual 44, 3) := by decide +kernel
theorem dL_same_359 : decode cL_same 359 = .ok (.aload_n 1, 1) := by decide +kernel
theorem dL_same_360 : decode cL_same 360 = .ok (.iconst 4, 1) := by decide +kernel
theorem dL_same_361 : decode cL_same 361 = .ok (.iaload, 1) := by decide +kernel
theorem dL_same_362 : decode cL_same 362 = .ok (.if_icmp .ne 72, 3) := by decide +kernel
theorem dL_same_365 : decode cL_same 365 = .ok (.aload_n 0, 1) := by decide +kernel
theorem dL_same_366 : decode cL_same 366 = .ok (.bipush 8, 2) := by decide +kernel
theorem dL_same_368 : decode cL_same 368 = .ok (.invokevirtual 44, 3) := by decide +kernel
theorem dL_same_371 : decode cL_same 371 = .ok (.aload_n 1, 1) := by decide +kernel
theorem dL_same_372 : decode cL_same 372 = .ok (.iconst 5, 1) := by decide +kernel
theorem dL_same_373 : decode cL_same 373 = .ok (.iaload, 1) := by decide +kernel
theorem dL_same_374 : decode cL_same 374 = .ok (.if_icmp .ne 60, 3) := by decide +kernel
theorem dL_same_377 : decode cL_same 377 = .ok (.aload_n 0, 1) := by decide +kernel
theorem dL_same_378 : decode cL_same 378 = .ok (.bipush 9, 2) := by decide +kernel
theorem dL_same_380 : decode cL_same 380 = .ok (.invokevirtual 44, 3) := by decide +kernel
theorem dL_same_383 : decode cL_same 383 = .ok (.aload_n 1, 1) := by decide +kernel
theorem dL_same_384 : decode cL_same 384 = .ok (.iconst 3, 1) := by decide +kernel
theorem dL_same_385 : decode cL_same 385 = .ok (.iaload, 1) := by decide +kernel
theorem dL_same_386 : decode cL_same 386 = .ok (.if_icmp .ne 48, 3) := by decide +kernel
theorem dL_same_389 : decode cL_same 389 = .ok (.aload_n 0, 1) := by decide +kernel
theorem dL_same_390 : decode cL_same 390 = .ok (.bipush 10, 2) := by decide +kernel
theorem dL_same_392 : decode cL_same 392 = .ok (.invokevirtual 44, 3) := by decide +kernel
theorem dL_same_395 : decode cL_same 395 = .ok (.aload_n 1, 1) := by decide +kernel
theorem dL_same_396 : decode cL_same 396 = .ok (.iconst 0, 1) := by decide +kernel
theorem dL_same_397 : decode cL_same 397 = .ok (.iaload, 1) := by decide +kernel
theorem dL_same_398 : decode cL_same 398 = .ok (.if_icmp .ne 36, 3) := by decide +kernel
theorem dL_same_401 : decode cL_same 401 = .ok (.aload_n 0, 1) := by decide +kernel
theorem dL_same_402 : decode cL_same 402 = .ok (.bipush 11, 2) := by decide +kernel
theorem dL_same_404 : decode cL_same 404 = .ok (.invokevirtual 44, 3) := by decide +kernel
theorem dL_same_407 : decode cL_same 407 = .ok (.aload_n 1, 1) := by decide +kernel
theorem dL_same_408 : decode cL_same 408 = .ok (.iconst 1, 1) := by decide +kernel
theorem dL_same_409 : decode cL_same 409 = .ok (.iaload, 1) := by decide +kernel
theorem dL_same_410 : decode cL_same 410 = .ok (.if_icmp .ne 24, 3) := by decide +kernel
theorem dL_same_413 : decode cL_same 413 = .ok (.aload_n 0, 1) := by decide +kernel
theorem dL_same_414 : decode cL_same 414 = .ok (.iconst 3, 1) := by decide +kernel
theorem dL_same_415 : decode cL_same 415 = .ok (.aload_n 1, 1) := by decide +kernel
theorem dL_same_416 : decode cL_same 416 = .ok (.aload_n 2, 1) := by decide +kernel
theorem dL_same_417 : decode cL_same 417 = .ok (.invokestatic 16, 3) := by decide +kernel
theorem dL_same_420 : decode cL_same 420 = .ok (.invokestatic 47, 3) := by decide +kernel
theorem dL_same_423 : decode cL_same 423 = .ok (.invokevirtual 40, 3) := by decide +kernel
theorem dL_same_426 : decode cL_same 426 = .ok (.iconst (-1), 1) := by decide +kernel
theorem dL_same_427 : decode cL_same 427 = .ok (.if_icmp .ne 7, 3) := by decide +kernel
theorem dL_same_430 : decode cL_same 430 = .ok (.iconst 1, 1) := by decide +kernel
theorem dL_same_431 : decode cL_same 431 = .ok (.goto 4, 3) := by decide +kernel
theorem dL_same_434 : decode cL_same 434 = .ok (.iconst 0, 1) := by decide +kernel
theorem dL_same_435 : decode cL_same 435 = .ok (.ireturn, 1) := by decide +kernel
theorem dL_copy_0 : decode cL_copy 0 = .ok (.iconst 0, 1) := by decide +kernel
theorem dL_copy_1 : decode cL_copy 1 = .ok (.istore 4, 2) := by decide +kernel
theorem dL_copy_3 : decode cL_copy 3 = .ok (.iload 4, 2) := by decide +kernel
theorem dL_copy_5 : decode cL_copy 5 = .ok (.bipush 8, 2) := by decide +kernel
theorem dL_copy_7 : decode cL_copy 7 = .ok (.if_icmp .ge 17, 3) := by decide +kernel
theorem dL_copy_10 : decode cL_copy 10 = .ok (.aload_n 2, 1) := by decide +kernel
theorem dL_copy_11 : decode cL_copy 11 = .ok (.iload 4, 2) := by decide +kernel
theorem dL_copy_13 : decode cL_copy 13 = .ok (.aload_n 0, 1) := by decide +kernel
theorem dL_copy_14 : decode cL_copy 14 = .ok (.iload 4, 2) := by decide +kernel
theorem dL_copy_16 : decode cL_copy 16 = .ok (.iaload, 1) := by decide +kernel
theorem dL_copy_17 : decode cL_copy 17 = .ok (.iastore, 1) := by decide +kernel
theorem dL_copy_18 : decode cL_copy 18 = .ok (.iinc 4 1, 3) := by decide +kernel
theorem dL_copy_21 : decode cL_copy 21 = .ok (.goto (-18), 3) := by decide +kernel
theorem dL_copy_24 : decode cL_copy 24 = .ok (.iconst 0, 1) := by decide +kernel
theorem dL_copy_25 : decode cL_copy 25 = .ok (.istore 4, 2) := by decide +kernel
theorem dL_copy_27 : decode cL_copy 27 = .ok (.iload 4, 2) := by decide +kernel
theorem dL_copy_29 : decode cL_copy 29 = .ok (.bipush 60, 2) := by decide +kernel
theorem dL_copy_31 : decode cL_copy 31 = .ok (.if_icmp .ge 17, 3) := by decide +kernel
theorem dL_copy_34 : decode cL_copy 34 = .ok (.aload_n 3, 1) := by decide +kernel
theorem dL_copy_35 : decode cL_copy 35 = .ok (.iload 4, 2) := by decide +kernel
theorem dL_copy_37 : decode cL_copy 37 = .ok (.aload_n 1, 1) := by decide +kernel
theorem dL_copy_38 : decode cL_copy 38 = .ok (.iload 4, 2) := by decide +kernel
theorem dL_copy_40 : decode cL_copy 40 = .ok (.iaload, 1) := by decide +kernel
theorem dL_copy_41 : decode cL_copy 41 = .ok (.iastore, 1) := by decide +kernel
theorem dL_copy_42 : decode cL_copy 42 = .ok (.iinc 4 1, 3) := by decide +kernel
theorem dL_copy_45 : decode cL_copy 45 = .ok (.goto (-18), 3) := by decide +kernel
theorem dL_copy_48 : decode cL_copy 48 = .ok (.return_, 1) := by decide +kernel
theorem dL_awake_0 : decode cL_awake 0 = .ok (.aload_n 1, 1) := by decide +kernel
theorem dL_awake_1 : decode cL_awake 1 = .ok (.aload_n 2, 1) := by decide +kernel
theorem dL_awake_2 : decode cL_awake 2 = .ok (.aload_n 3, 1) := by decide +kernel
theorem dL_awake_3 : decode cL_awake 3 = .ok (.aload 4, 2) := by decide +kernel
theorem dL_awake_5 : decode cL_awake 5 = .ok (.invokestatic 50, 3) := by decide +kernel
theorem dL_awake_8 : decode cL_awake 8 = .ok (.aload_n 3, 1) := by decide +kernel
theorem dL_awake_9 : decode cL_awake 9 = .ok (.iconst 0, 1) := by decide +kernel
theorem dL_awake_10 : decode cL_awake 10 = .ok (.iload_n 0, 1) := by decide +kernel
theorem dL_awake_11 : decode cL_awake 11 = .ok (.iastore, 1) := by decide +kernel
theorem dL_awake_12 : decode cL_awake 12 = .ok (.iconst 0, 1) := by decide +kernel
theorem dL_awake_13 : decode cL_awake 13 = .ok (.istore 6, 2) := by decide +kernel
theorem dL_awake_15 : decode cL_awake 15 = .ok (.iload 6, 2) := by decide +kernel
theorem dL_awake_17 : decode cL_awake 17 = .ok (.aload_n 3, 1) := by decide +kernel
theorem dL_awake_18 : decode cL_awake 18 = .ok (.iconst 2, 1) := by decide +kernel
theorem dL_awake_19 : decode cL_awake 19 = .ok (.iaload, 1) := by decide +kernel
theorem dL_awake_20 : decode cL_awake 20 = .ok (.if_icmp .ge 32, 3) := by decide +kernel
theorem dL_awake_23 : decode cL_awake 23 = .ok (.aload 4, 2) := by decide +kernel
theorem dL_awake_25 : decode cL_awake 25 = .ok (.bipush 12, 2) := by decide +kernel
theorem dL_awake_27 : decode cL_awake 27 = .ok (.iload 6, 2) := by decide +kernel
theorem dL_awake_29 : decode cL_awake 29 = .ok (.imul, 1) := by decide +kernel
theorem dL_awake_30 : decode cL_awake 30 = .ok (.bipush 7, 2) := by decide +kernel
theorem dL_awake_32 : decode cL_awake 32 = .ok (.iadd, 1) := by decide +kernel
theorem dL_awake_33 : decode cL_awake 33 = .ok (.iaload, 1) := by decide +kernel
theorem dL_awake_34 : decode cL_awake 34 = .ok (.iconst 2, 1) := by decide +kernel
theorem dL_awake_35 : decode cL_awake 35 = .ok (.if_icmp .ne 11, 3) := by decide +kernel
theorem dL_awake_38 : decode cL_awake 38 = .ok (.iload 6, 2) := by decide +kernel
theorem dL_awake_40 : decode cL_awake 40 = .ok (.aload_n 3, 1) := by decide +kernel
theorem dL_awake_41 : decode cL_awake 41 = .ok (.aload 4, 2) := by decide +kernel
theorem dL_awake_43 : decode cL_awake 43 = .ok (.invokestatic 23, 3) := by decide +kernel
theorem dL_awake_46 : decode cL_awake 46 = .ok (.iinc 6 1, 3) := by decide +kernel
theorem dL_awake_49 : decode cL_awake 49 = .ok (.goto (-34), 3) := by decide +kernel
theorem dL_awake_52 : decode cL_awake 52 = .ok (.iconst 0, 1) := by decide +kernel
theorem dL_awake_53 : decode cL_awake 53 = .ok (.istore 6, 2) := by decide +kernel
theorem dL_awake_55 : decode cL_awake 55 = .ok (.iload 6, 2) := by decide +kernel
theorem dL_awake_57 : decode cL_awake 57 = .ok (.sipush 201, 3) := by decide +kernel
theorem dL_awake_60 : decode cL_awake 60 = .ok (.if_icmp .ge 33, 3) := by decide +kernel
theorem dL_awake_63 : decode cL_awake 63 = .ok (.iconst 0, 1) := by decide +kernel
theorem dL_awake_64 : decode cL_awake 64 = .ok (.aload_n 3, 1) := by decide +kernel
theorem dL_awake_65 : decode cL_awake 65 = .ok (.aload 4, 2) := by decide +kernel
theorem dL_awake_67 : decode cL_awake 67 = .ok (.invokestatic 16, 3) := by decide +kernel
theorem dL_awake_70 : decode cL_awake 70 = .ok (.invokestatic 47, 3) := by decide +kernel
theorem dL_awake_73 : decode cL_awake 73 = .ok (.aload_n 3, 1) := by decide +kernel
theorem dL_awake_74 : decode cL_awake 74 = .ok (.iconst 2, 1) := by decide +kernel
theorem dL_awake_75 : decode cL_awake 75 = .ok (.iaload, 1) := by decide +kernel
theorem dL_awake_76 : decode cL_awake 76 = .ok (.if_icmp .ge 17, 3) := by decide +kernel
theorem dL_awake_79 : decode cL_awake 79 = .ok (.aload_n 3, 1) := by decide +kernel
theorem dL_awake_80 : decode cL_awake 80 = .ok (.aload 4, 2) := by decide +kernel
theorem dL_awake_82 : decode cL_awake 82 = .ok (.aload 5, 2) := by decide +kernel
theorem dL_awake_84 : decode cL_awake 84 = .ok (.invokestatic 54, 3) := by decide +kernel
theorem dL_awake_87 : decode cL_awake 87 = .ok (.iinc 6 1, 3) := by decide +kernel
theorem dL_awake_90 : decode cL_awake 90 = .ok (.goto (-35), 3) := by decide +kernel
theorem dL_awake_93 : decode cL_awake 93 = .ok (.iload 6, 2) := by decide +kernel
theorem dL_awake_95 : decode cL_awake 95 = .ok (.sipush 201, 3) := by decide +kernel
theorem dL_awake_98 : decode cL_awake 98 = .ok (.if_icmp .ge 8, 3) := by decide +kernel
theorem dL_awake_101 : decode cL_awake 101 = .ok (.iload 6, 2) := by decide +kernel
theorem dL_awake_103 : decode cL_awake 103 = .ok (.goto 5, 3) := by decide +kernel
theorem dL_awake_106 : decode cL_awake 106 = .ok (.bipush (-6), 2) := by decide +kernel
theorem dL_awake_108 : decode cL_awake 108 = .ok (.ireturn, 1) := by decide +kernel
theorem dL_would_0 : decode cL_would 0 = .ok (.iconst 1, 1) := by decide +kernel
theorem dL_would_1 : decode cL_would 1 = .ok (.iload_n 1, 1) := by decide +kernel
theorem dL_would_2 : decode cL_would 2 = .ok (.bipush 30, 2) := by decide +kernel
theorem dL_would_4 : decode cL_would 4 = .ok (.invokestatic 58, 3) := by decide +kernel
theorem dL_would_7 : decode cL_would 7 = .ok (.iadd, 1) := by decide +kernel
theorem dL_would_8 : decode cL_would 8 = .ok (.istore 7, 2) := by decide +kernel
theorem dL_would_10 : decode cL_would 10 = .ok (.aload_n 2, 1) := by decide +kernel
theorem dL_would_11 : decode cL_would 11 = .ok (.aload_n 3, 1) := by decide +kernel
theorem dL_would_12 : decode cL_would 12 = .ok (.aload 4, 2) := by decide +kernel
theorem dL_would_14 : decode cL_would 14 = .ok (.aload 5, 2) := by decide +kernel
theorem dL_would_16 : decode cL_would 16 = .ok (.invokestatic 50, 3) := by decide +kernel
theorem dL_would_19 : decode cL_would 19 = .ok (.aload 4, 2) := by decide +kernel
theorem dL_would_21 : decode cL_would 21 = .ok (.bipush 6, 2) := by decide +kernel
theorem dL_would_23 : decode cL_would 23 = .ok (.iconst 0, 1) := by decide +kernel
theorem dL_would_24 : decode cL_would 24 = .ok (.iastore, 1) := by decide +kernel
theorem dL_would_25 : decode cL_would 25 = .ok (.iconst 0, 1) := by decide +kernel
theorem dL_would_26 : decode cL_would 26 = .ok (.istore 8, 2) := by decide +kernel
theorem dL_would_28 : decode cL_would 28 = .ok (.iload 8, 2) := by decide +kernel
theorem dL_would_30 : decode cL_would 30 = .ok (.iload 7, 2) := by decide +kernel
theorem dL_would_32 : decode cL_would 32 = .ok (.if_icmp .ge 18, 3) := by decide +kernel
theorem dL_would_35 : decode cL_would 35 = .ok (.aload 4, 2) := by decide +kernel
theorem dL_would_37 : decode cL_would 37 = .ok (.aload 5, 2) := by decide +kernel
theorem dL_would_39 : decode cL_would 39 = .ok (.aload 6, 2) := by decide +kernel
theorem dL_would_41 : decode cL_would 41 = .ok (.invokestatic 54, 3) := by decide +kernel
theorem dL_would_44 : decode cL_would 44 = .ok (.iinc 8 1, 3) := by decide +kernel
theorem dL_would_47 : decode cL_would 47 = .ok (.goto (-19), 3) := by decide +kernel
theorem dL_would_50 : decode cL_would 50 = .ok (.iconst 0, 1) := by decide +kernel
theorem dL_would_51 : decode cL_would 51 = .ok (.istore 8, 2) := by decide +kernel
theorem dL_would_53 : decode cL_would 53 = .ok (.iconst 0, 1) := by decide +kernel
theorem dL_would_54 : decode cL_would 54 = .ok (.istore 9, 2) := by decide +kernel
theorem dL_would_56 : decode cL_would 56 = .ok (.iload 9, 2) := by decide +kernel
theorem dL_would_58 : decode cL_would 58 = .ok (.aload_n 2, 1) := by decide +kernel
theorem dL_would_59 : decode cL_would 59 = .ok (.iconst 2, 1) := by decide +kernel
theorem dL_would_60 : decode cL_would 60 = .ok (.iaload, 1) := by decide +kernel
theorem dL_would_61 : decode cL_would 61 = .ok (.if_icmp .ge 24, 3) := by decide +kernel
theorem dL_would_64 : decode cL_would 64 = .ok (.iload 8, 2) := by decide +kernel
theorem dL_would_66 : decode cL_would 66 = .ok (.aload 5, 2) := by decide +kernel
theorem dL_would_68 : decode cL_would 68 = .ok (.bipush 12, 2) := by decide +kernel
theorem dL_would_70 : decode cL_would 70 = .ok (.iload 9, 2) := by decide +kernel
theorem dL_would_72 : decode cL_would 72 = .ok (.imul, 1) := by decide +kernel
theorem dL_would_73 : decode cL_would 73 = .ok (.iconst 4, 1) := by decide +kernel
theorem dL_would_74 : decode cL_would 74 = .ok (.iadd, 1) := by decide +kernel
theorem dL_would_75 : decode cL_would 75 = .ok (.iaload, 1) := by decide +kernel
theorem dL_would_76 : decode cL_would 76 = .ok (.iadd, 1) := by decide +kernel
theorem dL_would_77 : decode cL_would 77 = .ok (.istore 8, 2) := by decide +kernel
theorem dL_would_79 : decode cL_would 79 = .ok (.iinc 9 1, 3) := by decide +kernel
theorem dL_would_82 : decode cL_would 82 = .ok (.goto (-26), 3) := by decide +kernel
theorem dL_would_85 : decode cL_would 85 = .ok (.aload_n 0, 1) := by decide +kernel
theorem dL_would_86 : decode cL_would 86 = .ok (.iload 7, 2) := by decide +kernel
theorem dL_would_88 : decode cL_would 88 = .ok (.iconst 0, 1) := by decide +kernel
theorem dL_would_89 : decode cL_would 89 = .ok (.invokevirtual 61, 3) := by decide +kernel
theorem dL_would_92 : decode cL_would 92 = .ok (.aload 4, 2) := by decide +kernel
theorem dL_would_94 : decode cL_would 94 = .ok (.iconst 4, 1) := by decide +kernel
theorem dL_would_95 : decode cL_would 95 = .ok (.iaload, 1) := by decide +kernel
theorem dL_would_96 : decode cL_would 96 = .ok (.aload_n 2, 1) := by decide +kernel
theorem dL_would_97 : decode cL_would 97 = .ok (.iconst 4, 1) := by decide +kernel
theorem dL_would_98 : decode cL_would 98 = .ok (.iaload, 1) := by decide +kernel
theorem dL_would_99 : decode cL_would 99 = .ok (.isub, 1) := by decide +kernel
theorem dL_would_100 : decode cL_would 100 = .ok (.if_icmp .ne 48, 3) := by decide +kernel
theorem dL_would_103 : decode cL_would 103 = .ok (.aload_n 0, 1) := by decide +kernel
theorem dL_would_104 : decode cL_would 104 = .ok (.iload 7, 2) := by decide +kernel
theorem dL_would_106 : decode cL_would 106 = .ok (.iconst 1, 1) := by decide +kernel
theorem dL_would_107 : decode cL_would 107 = .ok (.invokevirtual 61, 3) := by decide +kernel
theorem dL_would_110 : decode cL_would 110 = .ok (.iconst 0, 1) := by decide +kernel
theorem dL_would_111 : decode cL_would 111 = .ok (.aload 4, 2) := by decide +kernel
theorem dL_would_113 : decode cL_would 113 = .ok (.aload 5, 2) := by decide +kernel
theorem dL_would_115 : decode cL_would 115 = .ok (.invokestatic 16, 3) := by decide +kernel
theorem dL_would_118 : decode cL_would 118 = .ok (.if_icmp .ne 30, 3) := by decide +kernel
theorem dL_would_121 : decode cL_would 121 = .ok (.aload_n 0, 1) := by decide +kernel
theorem dL_would_122 : decode cL_would 122 = .ok (.iload 7, 2) := by decide +kernel
theorem dL_would_124 : decode cL_would 124 = .ok (.iconst 2, 1) := by decide +kernel
theorem dL_would_125 : decode cL_would 125 = .ok (.invokevirtual 61, 3) := by decide +kernel
theorem dL_would_128 : decode cL_would 128 = .ok (.aload 4, 2) := by decide +kernel
theorem dL_would_130 : decode cL_would 130 = .ok (.bipush 6, 2) := by decide +kernel
theorem dL_would_132 : decode cL_would 132 = .ok (.iaload, 1) := by decide +kernel
theorem dL_would_133 : decode cL_would 133 = .ok (.if_icmp .ne 15, 3) := by decide +kernel
theorem dL_would_136 : decode cL_would 136 = .ok (.aload_n 0, 1) := by decide +kernel
theorem dL_would_137 : decode cL_would 137 = .ok (.iload 7, 2) := by decide +kernel
theorem dL_would_139 : decode cL_would 139 = .ok (.iconst 3, 1) := by decide +kernel
theorem dL_would_140 : decode cL_would 140 = .ok (.invokevirtual 61, 3) := by decide +kernel
theorem dL_would_143 : decode cL_would 143 = .ok (.iload 8, 2) := by decide +kernel
theorem dL_would_145 : decode cL_would 145 = .ok (.if_icmp .eq 5, 3) := by decide +kernel
theorem dL_would_148 : decode cL_would 148 = .ok (.iconst 0, 1) := by decide +kernel
theorem dL_would_149 : decode cL_would 149 = .ok (.ireturn, 1) := by decide +kernel
theorem dL_would_150 : decode cL_would 150 = .ok (.iconst 0, 1) := by decide +kernel
theorem dL_would_151 : decode cL_would 151 = .ok (.istore 9, 2) := by decide +kernel
theorem dL_would_153 : decode cL_would 153 = .ok (.iconst 0, 1) := by decide +kernel
theorem dL_would_154 : decode cL_would 154 = .ok (.istore 10, 2) := by decide +kernel
theorem dL_would_156 : decode cL_would 156 = .ok (.iload 10, 2) := by decide +kernel
theorem dL_would_158 : decode cL_would 158 = .ok (.aload_n 2, 1) := by decide +kernel
theorem dL_would_159 : decode cL_would 159 = .ok (.iconst 2, 1) := by decide +kernel
theorem dL_would_160 : decode cL_would 160 = .ok (.iaload, 1) := by decide +kernel
theorem dL_would_161 : decode cL_would 161 = .ok (.if_icmp .ge 94, 3) := by decide +kernel
theorem dL_would_164 : decode cL_would 164 = .ok (.aload_n 3, 1) := by decide +kernel
theorem dL_would_165 : decode cL_would 165 = .ok (.bipush 12, 2) := by decide +kernel
theorem dL_would_167 : decode cL_would 167 = .ok (.iload 10, 2) := by decide +kernel
theorem dL_would_169 : decode cL_would 169 = .ok (.imul, 1) := by decide +kernel
theorem dL_would_170 : decode cL_would 170 = .ok (.bipush 7, 2) := by decide +kernel
theorem dL_would_172 : decode cL_would 172 = .ok (.iadd, 1) := by decide +kernel
theorem dL_would_173 : decode cL_would 173 = .ok (.iaload, 1) := by decide +kernel
theorem dL_would_174 : decode cL_would 174 = .ok (.ifCond .eq 6, 3) := by decide +kernel
theorem dL_would_177 : decode cL_would 177 = .ok (.goto 72, 3) := by decide +kernel
theorem dL_would_180 : decode cL_would 180 = .ok (.aload_n 2, 1) := by decide +kernel
theorem dL_would_181 : decode cL_would 181 = .ok (.aload_n 3, 1) := by decide +kernel
theorem dL_would_182 : decode cL_would 182 = .ok (.aload 4, 2) := by decide +kernel
theorem dL_would_184 : decode cL_would 184 = .ok (.aload 5, 2) := by decide +kernel
theorem dL_would_186 : decode cL_would 186 = .ok (.invokestatic 50, 3) := by decide +kernel
theorem dL_would_189 : decode cL_would 189 = .ok (.aload 5, 2) := by decide +kernel
theorem dL_would_191 : decode cL_would 191 = .ok (.bipush 12, 2) := by decide +kernel
theorem dL_would_193 : decode cL_would 193 = .ok (.iload 10, 2) := by decide +kernel
theorem dL_would_195 : decode cL_would 195 = .ok (.imul, 1) := by decide +kernel
theorem dL_would_196 : decode cL_would 196 = .ok (.bipush 7, 2) := by decide +kernel
theorem dL_would_198 : decode cL_would 198 = .ok (.iadd, 1) := by decide +kernel
theorem dL_would_199 : decode cL_would 199 = .ok (.iconst 1, 1) := by decide +kernel
theorem dL_would_200 : decode cL_would 200 = .ok (.iastore, 1) := by decide +kernel
theorem dL_would_201 : decode cL_would 201 = .ok (.iconst 0, 1) := by decide +kernel
theorem dL_would_202 : decode cL_would 202 = .ok (.istore 11, 2) := by decide +kernel
theorem dL_would_204 : decode cL_would 204 = .ok (.iload 11, 2) := by decide +kernel
theorem dL_would_206 : decode cL_would 206 = .ok (.iload 7, 2) := by decide +kernel
theorem dL_would_208 : decode cL_would 208 = .ok (.if_icmp .ge 18, 3) := by decide +kernel
theorem dL_would_211 : decode cL_would 211 = .ok (.aload 4, 2) := by decide +kernel
theorem dL_would_213 : decode cL_would 213 = .ok (.aload 5, 2) := by decide +kernel
theorem dL_would_215 : decode cL_would 215 = .ok (.aload 6, 2) := by decide +kernel
theorem dL_would_217 : decode cL_would 217 = .ok (.invokestatic 54, 3) := by decide +kernel
theorem dL_would_220 : decode cL_would 220 = .ok (.iinc 11 1, 3) := by decide +kernel
theorem dL_would_223 : decode cL_would 223 = .ok (.goto (-19), 3) := by decide +kernel
theorem dL_would_226 : decode cL_would 226 = .ok (.iload 9, 2) := by decide +kernel
theorem dL_would_228 : decode cL_would 228 = .ok (.aload 4, 2) := by decide +kernel
theorem dL_would_230 : decode cL_would 230 = .ok (.iconst 4, 1) := by decide +kernel
theorem dL_would_231 : decode cL_would 231 = .ok (.iaload, 1) := by decide +kernel
theorem dL_would_232 : decode cL_would 232 = .ok (.aload_n 2, 1) := by decide +kernel
theorem dL_would_233 : decode cL_would 233 = .ok (.iconst 4, 1) := by decide +kernel
theorem dL_would_234 : decode cL_would 234 = .ok (.iaload, 1) := by decide +kernel
theorem dL_would_235 : decode cL_would 235 = .ok (.if_icmp .ne 10, 3) := by decide +kernel
theorem dL_would_238 : decode cL_would 238 = .ok (.iconst 1, 1) := by decide +kernel
theorem dL_would_239 : decode cL_would 239 = .ok (.iload 10, 2) := by decide +kernel
theorem dL_would_241 : decode cL_would 241 = .ok (.ishl, 1) := by decide +kernel
theorem dL_would_242 : decode cL_would 242 = .ok (.goto 4, 3) := by decide +kernel
theorem dL_would_245 : decode cL_would 245 = .ok (.iconst 0, 1) := by decide +kernel
theorem dL_would_246 : decode cL_would 246 = .ok (.ior, 1) := by decide +kernel
theorem dL_would_247 : decode cL_would 247 = .ok (.istore 9, 2) := by decide +kernel
theorem dL_would_249 : decode cL_would 249 = .ok (.iinc 10 1, 3) := by decide +kernel
theorem dL_would_252 : decode cL_would 252 = .ok (.goto (-96), 3) := by decide +kernel
theorem dL_would_255 : decode cL_would 255 = .ok (.iload_n 1, 1) := by decide +kernel
theorem dL_would_256 : decode cL_would 256 = .ok (.iconst 5, 1) := by decide +kernel
theorem dL_would_257 : decode cL_would 257 = .ok (.ishr, 1) := by decide +kernel
theorem dL_would_258 : decode cL_would 258 = .ok (.bipush 25, 2) := by decide +kernel
theorem dL_would_260 : decode cL_would 260 = .ok (.invokestatic 58, 3) := by decide +kernel
theorem dL_would_263 : decode cL_would 263 = .ok (.istore 10, 2) := by decide +kernel
theorem dL_would_265 : decode cL_would 265 = .ok (.bipush (-6), 2) := by decide +kernel
theorem dL_would_267 : decode cL_would 267 = .ok (.istore 11, 2) := by decide +kernel
theorem dL_would_269 : decode cL_would 269 = .ok (.bipush 60, 2) := by decide +kernel
theorem dL_would_271 : decode cL_would 271 = .ok (.istore 12, 2) := by decide +kernel
theorem dL_would_273 : decode cL_would 273 = .ok (.iload 12, 2) := by decide +kernel
theorem dL_would_275 : decode cL_would 275 = .ok (.ifCond .le 45, 3) := by decide +kernel
theorem dL_would_278 : decode cL_would 278 = .ok (.iload 12, 2) := by decide +kernel
theorem dL_would_280 : decode cL_would 280 = .ok (.aload_n 2, 1) := by decide +kernel
theorem dL_would_281 : decode cL_would 281 = .ok (.aload_n 3, 1) := by decide +kernel
theorem dL_would_282 : decode cL_would 282 = .ok (.aload 4, 2) := by decide +kernel
theorem dL_would_284 : decode cL_would 284 = .ok (.aload 5, 2) := by decide +kernel
theorem dL_would_286 : decode cL_would 286 = .ok (.aload 6, 2) := by decide +kernel
theorem dL_would_288 : decode cL_would 288 = .ok (.invokestatic 64, 3) := by decide +kernel
theorem dL_would_291 : decode cL_would 291 = .ok (.istore 13, 2) := by decide +kernel
theorem dL_would_293 : decode cL_would 293 = .ok (.iload 13, 2) := by decide +kernel
theorem dL_would_295 : decode cL_would 295 = .ok (.ifCond .lt 15, 3) := by decide +kernel
theorem dL_would_298 : decode cL_would 298 = .ok (.iload 13, 2) := by decide +kernel
theorem dL_would_300 : decode cL_would 300 = .ok (.iload 10, 2) := by decide +kernel
theorem dL_would_302 : decode cL_would 302 = .ok (.if_icmp .gt 8, 3) := by decide +kernel
theorem dL_would_305 : decode cL_would 305 = .ok (.iload 12, 2) := by decide +kernel
theorem dL_would_307 : decode cL_would 307 = .ok (.goto 5, 3) := by decide +kernel
theorem dL_would_310 : decode cL_would 310 = .ok (.iload 11, 2) := by decide +kernel
theorem dL_would_312 : decode cL_would 312 = .ok (.istore 11, 2) := by decide +kernel
theorem dL_would_314 : decode cL_would 314 = .ok (.iinc 12 (-1), 3) := by decide +kernel
theorem dL_would_317 : decode cL_would 317 = .ok (.goto (-44), 3) := by decide +kernel
theorem dL_would_320 : decode cL_would 320 = .ok (.aload_n 0, 1) := by decide +kernel
theorem dL_would_321 : decode cL_would 321 = .ok (.iload 7, 2) := by decide +kernel
theorem dL_would_323 : decode cL_would 323 = .ok (.invokevirtual 68, 3) := by decide +kernel
theorem dL_would_326 : decode cL_would 326 = .ok (.iload 9, 2) := by decide +kernel
theorem dL_would_328 : decode cL_would 328 = .ok (.if_icmp .ne 39, 3) := by decide +kernel
theorem dL_would_331 : decode cL_would 331 = .ok (.aload_n 0, 1) := by decide +kernel
theorem dL_would_332 : decode cL_would 332 = .ok (.invokevirtual 71, 3) := by decide +kernel
theorem dL_would_335 : decode cL_would 335 = .ok (.aload_n 2, 1) := by decide +kernel
theorem dL_would_336 : decode cL_would 336 = .ok (.iconst 0, 1) := by decide +kernel
theorem dL_would_337 : decode cL_would 337 = .ok (.iaload, 1) := by decide +kernel
theorem dL_would_338 : decode cL_would 338 = .ok (.aload_n 2, 1) := by decide +kernel
theorem dL_would_339 : decode cL_would 339 = .ok (.aload_n 3, 1) := by decide +kernel
theorem dL_would_340 : decode cL_would 340 = .ok (.aload 4, 2) := by decide +kernel
theorem dL_would_342 : decode cL_would 342 = .ok (.aload 5, 2) := by decide +kernel
theorem dL_would_344 : decode cL_would 344 = .ok (.aload 6, 2) := by decide +kernel
theorem dL_would_346 : decode cL_would 346 = .ok (.invokestatic 64, 3) := by decide +kernel
theorem dL_would_349 : decode cL_would 349 = .ok (.if_icmp .ne 18, 3) := by decide +kernel
theorem dL_would_352 : decode cL_would 352 = .ok (.aload_n 0, 1) := by decide +kernel
theorem dL_would_353 : decode cL_would 353 = .ok (.iload 10, 2) := by decide +kernel
theorem dL_would_355 : decode cL_would 355 = .ok (.invokevirtual 75, 3) := by decide +kernel
theorem dL_would_358 : decode cL_would 358 = .ok (.iload 11, 2) := by decide +kernel
theorem dL_would_360 : decode cL_would 360 = .ok (.if_icmp .ne 7, 3) := by decide +kernel
theorem dL_would_363 : decode cL_would 363 = .ok (.iconst 1, 1) := by decide +kernel
theorem dL_would_364 : decode cL_would 364 = .ok (.goto 4, 3) := by decide +kernel
theorem dL_would_367 : decode cL_would 367 = .ok (.iconst 0, 1) := by decide +kernel
theorem dL_would_368 : decode cL_would 368 = .ok (.ireturn, 1) := by decide +kernel
theorem dL_law_0 : decode cL_law 0 = .ok (.new 35, 3) := by decide +kernel
theorem dL_law_3 : decode cL_law 3 = .ok (.dup, 1) := by decide +kernel
theorem dL_law_4 : decode cL_law 4 = .ok (.invokespecial 78, 3) := by decide +kernel
theorem dL_law_7 : decode cL_law 7 = .ok (.astore_n 1, 1) := by decide +kernel
theorem dL_law_8 : decode cL_law 8 = .ok (.bipush 8, 2) := by decide +kernel
theorem dL_law_10 : decode cL_law 10 = .ok (.newarray .int, 2) := by decide +kernel
theorem dL_law_12 : decode cL_law 12 = .ok (.astore_n 2, 1) := by decide +kernel
theorem dL_law_13 : decode cL_law 13 = .ok (.bipush 60, 2) := by decide +kernel
theorem dL_law_15 : decode cL_law 15 = .ok (.newarray .int, 2) := by decide +kernel
theorem dL_law_17 : decode cL_law 17 = .ok (.astore_n 3, 1) := by decide +kernel
theorem dL_law_18 : decode cL_law 18 = .ok (.bipush 8, 2) := by decide +kernel
theorem dL_law_20 : decode cL_law 20 = .ok (.newarray .int, 2) := by decide +kernel
theorem dL_law_22 : decode cL_law 22 = .ok (.astore 4, 2) := by decide +kernel
theorem dL_law_24 : decode cL_law 24 = .ok (.bipush 60, 2) := by decide +kernel
theorem dL_law_26 : decode cL_law 26 = .ok (.newarray .int, 2) := by decide +kernel
theorem dL_law_28 : decode cL_law 28 = .ok (.astore 5, 2) := by decide +kernel
theorem dL_law_30 : decode cL_law 30 = .ok (.bipush 16, 2) := by decide +kernel
theorem dL_law_32 : decode cL_law 32 = .ok (.newarray .int, 2) := by decide +kernel
theorem dL_law_34 : decode cL_law 34 = .ok (.astore 6, 2) := by decide +kernel
theorem dL_law_36 : decode cL_law 36 = .ok (.aload_n 2, 1) := by decide +kernel
theorem dL_law_37 : decode cL_law 37 = .ok (.iconst 0, 1) := by decide +kernel
theorem dL_law_38 : decode cL_law 38 = .ok (.bipush 20, 2) := by decide +kernel
theorem dL_law_40 : decode cL_law 40 = .ok (.iastore, 1) := by decide +kernel
theorem dL_law_41 : decode cL_law 41 = .ok (.iconst 0, 1) := by decide +kernel
theorem dL_law_42 : decode cL_law 42 = .ok (.istore 7, 2) := by decide +kernel
theorem dL_law_44 : decode cL_law 44 = .ok (.iload 7, 2) := by decide +kernel
theorem dL_law_46 : decode cL_law 46 = .ok (.bipush 36, 2) := by decide +kernel
theorem dL_law_48 : decode cL_law 48 = .ok (.if_icmp .ge 750, 3) := by decide +kernel
theorem dL_law_51 : decode cL_law 51 = .ok (.aload_n 0, 1) := by decide +kernel
theorem dL_law_52 : decode cL_law 52 = .ok (.iload 7, 2) := by decide +kernel
theorem dL_law_54 : decode cL_law 54 = .ok (.invokestatic 79, 3) := by decide +kernel
theorem dL_law_57 : decode cL_law 57 = .ok (.istore 8, 2) := by decide +kernel
theorem dL_law_59 : decode cL_law 59 = .ok (.iload 7, 2) := by decide +kernel
theorem dL_law_61 : decode cL_law 61 = .ok (.iconst 4, 1) := by decide +kernel
theorem dL_law_62 : decode cL_law 62 = .ok (.if_icmp .ge 7, 3) := by decide +kernel
theorem dL_law_65 : decode cL_law 65 = .ok (.iconst 0, 1) := by decide +kernel
theorem dL_law_66 : decode cL_law 66 = .ok (.goto 10, 3) := by decide +kernel
theorem dL_law_69 : decode cL_law 69 = .ok (.iload 8, 2) := by decide +kernel
theorem dL_law_71 : decode cL_law 71 = .ok (.bipush 14, 2) := by decide +kernel
theorem dL_law_73 : decode cL_law 73 = .ok (.invokestatic 58, 3) := by decide +kernel
theorem dL_law_76 : decode cL_law 76 = .ok (.istore 9, 2) := by decide +kernel
theorem dL_law_78 : decode cL_law 78 = .ok (.aload_n 2, 1) := by decide +kernel
theorem dL_law_79 : decode cL_law 79 = .ok (.iconst 2, 1) := by decide +kernel
theorem dL_law_80 : decode cL_law 80 = .ok (.iaload, 1) := by decide +kernel
theorem dL_law_81 : decode cL_law 81 = .ok (.ifCond .ne 7, 3) := by decide +kernel
theorem dL_law_84 : decode cL_law 84 = .ok (.iconst 0, 1) := by decide +kernel
theorem dL_law_85 : decode cL_law 85 = .ok (.goto 13, 3) := by decide +kernel
theorem dL_law_88 : decode cL_law 88 = .ok (.iload 8, 2) := by decide +kernel
theorem dL_law_90 : decode cL_law 90 = .ok (.iconst 4, 1) := by decide +kernel
theorem dL_law_91 : decode cL_law 91 = .ok (.ishr, 1) := by decide +kernel
theorem dL_law_92 : decode cL_law 92 = .ok (.aload_n 2, 1) := by decide +kernel
theorem dL_law_93 : decode cL_law 93 = .ok (.iconst 2, 1) := by decide +kernel
theorem dL_law_94 : decode cL_law 94 = .ok (.iaload, 1) := by decide +kernel
theorem dL_law_95 : decode cL_law 95 = .ok (.invokestatic 58, 3) := by decide +kernel
theorem dL_law_98 : decode cL_law 98 = .ok (.istore 10, 2) := by decide +kernel
theorem dL_law_100 : decode cL_law 100 = .ok (.bipush 12, 2) := by decide +kernel
theorem dL_law_102 : decode cL_law 102 = .ok (.iload 10, 2) := by decide +kernel
theorem dL_law_104 : decode cL_law 104 = .ok (.imul, 1) := by decide +kernel
theorem dL_law_105 : decode cL_law 105 = .ok (.istore 11, 2) := by decide +kernel
theorem dL_law_107 : decode cL_law 107 = .ok (.iload 9, 2) := by decide +kernel
theorem dL_law_109 : decode cL_law 109 = .ok (.ifCond .ne 164, 3) := by decide +kernel
theorem dL_law_112 : decode cL_law 112 = .ok (.aload_n 2, 1) := by decide +kernel
theorem dL_law_113 : decode cL_law 113 = .ok (.iconst 2, 1) := by decide +kernel
theorem dL_law_114 : decode cL_law 114 = .ok (.iaload, 1) := by decide +kernel
theorem dL_law_115 : decode cL_law 115 = .ok (.iconst 5, 1) := by decide +kernel
theorem dL_law_116 : decode cL_law 116 = .ok (.if_icmp .ge 157, 3) := by decide +kernel
theorem dL_law_119 : decode cL_law 119 = .ok (.bipush 12, 2) := by decide +kernel
theorem dL_law_121 : decode cL_law 121 = .ok (.aload_n 2, 1) := by decide +kernel
theorem dL_law_122 : decode cL_law 122 = .ok (.iconst 2, 1) := by decide +kernel
theorem dL_law_123 : decode cL_law 123 = .ok (.iaload, 1) := by decide +kernel
theorem dL_law_124 : decode cL_law 124 = .ok (.imul, 1) := by decide +kernel
theorem dL_law_125 : decode cL_law 125 = .ok (.istore 12, 2) := by decide +kernel
theorem dL_law_127 : decode cL_law 127 = .ok (.iconst 0, 1) := by decide +kernel
theorem dL_law_128 : decode cL_law 128 = .ok (.istore 13, 2) := by decide +kernel
theorem dL_law_130 : decode cL_law 130 = .ok (.iload 13, 2) := by decide +kernel
theorem dL_law_132 : decode cL_law 132 = .ok (.bipush 12, 2) := by decide +kernel
theorem dL_law_134 : decode cL_law 134 = .ok (.if_icmp .ge 17, 3) := by decide +kernel
theorem dL_law_137 : decode cL_law 137 = .ok (.aload_n 3, 1) := by decide +kernel
theorem dL_law_138 : decode cL_law 138 = .ok (.iload 12, 2) := by decide +kernel
theorem dL_law_140 : decode cL_law 140 = .ok (.iload 13, 2) := by decide +kernel
theorem dL_law_142 : decode cL_law 142 = .ok (.iadd, 1) := by decide +kernel
theorem dL_law_143 : decode cL_law 143 = .ok (.iconst 0, 1) := by decide +kernel
theorem dL_law_144 : decode cL_law 144 = .ok (.iastore, 1) := by decide +kernel
theorem dL_law_145 : decode cL_law 145 = .ok (.iinc 13 1, 3) := by decide +kernel
theorem dL_law_148 : decode cL_law 148 = .ok (.goto (-18), 3) := by decide +kernel
theorem dL_law_151 : decode cL_law 151 = .ok (.aload_n 3, 1) := by decide +kernel
theorem dL_law_152 : decode cL_law 152 = .ok (.iload 12, 2) := by decide +kernel
theorem dL_law_154 : decode cL_law 154 = .ok (.iload 8, 2) := by decide +kernel
theorem dL_law_156 : decode cL_law 156 = .ok (.iconst 4, 1) := by decide +kernel
theorem dL_law_157 : decode cL_law 157 = .ok (.ishr, 1) := by decide +kernel
theorem dL_law_158 : decode cL_law 158 = .ok (.iconst 2, 1) := by decide +kernel
theorem dL_law_159 : decode cL_law 159 = .ok (.invokestatic 58, 3) := by decide +kernel
theorem dL_law_162 : decode cL_law 162 = .ok (.iastore, 1) := by decide +kernel
theorem dL_law_163 : decode cL_law 163 = .ok (.aload_n 3, 1) := by decide +kernel
theorem dL_law_164 : decode cL_law 164 = .ok (.iload 12, 2) := by decide +kernel
theorem dL_law_166 : decode cL_law 166 = .ok (.iconst 1, 1) := by decide +kernel
theorem dL_law_167 : decode cL_law 167 = .ok (.iadd, 1) := by decide +kernel
theorem dL_law_168 : decode cL_law 168 = .ok (.iload 8, 2) := by decide +kernel
theorem dL_law_170 : decode cL_law 170 = .ok (.iconst 5, 1) := by decide +kernel
theorem dL_law_171 : decode cL_law 171 = .ok (.ishr, 1) := by decide +kernel
theorem dL_law_172 : decode cL_law 172 = .ok (.iconst 2, 1) := by decide +kernel
theorem dL_law_173 : decode cL_law 173 = .ok (.invokestatic 58, 3) := by decide +kernel
theorem dL_law_176 : decode cL_law 176 = .ok (.iastore, 1) := by decide +kernel
theorem dL_law_177 : decode cL_law 177 = .ok (.aload_n 3, 1) := by decide +kernel
theorem dL_law_178 : decode cL_law 178 = .ok (.iload 12, 2) := by decide +kernel
theorem dL_law_180 : decode cL_law 180 = .ok (.iconst 2, 1) := by decide +kernel
theorem dL_law_181 : decode cL_law 181 = .ok (.iadd, 1) := by decide +kernel
theorem dL_law_182 : decode cL_law 182 = .ok (.iconst 1, 1) := by decide +kernel
theorem dL_law_183 : decode cL_law 183 = .ok (.iload 8, 2) := by decide +kernel
theorem dL_law_185 : decode cL_law 185 = .ok (.bipush 6, 2) := by decide +kernel
theorem dL_law_187 : decode cL_law 187 = .ok (.ishr, 1) := by decide +kernel
theorem dL_law_188 : decode cL_law 188 = .ok (.bipush 9, 2) := by decide +kernel
theorem dL_law_190 : decode cL_law 190 = .ok (.invokestatic 58, 3) := by decide +kernel
theorem dL_law_193 : decode cL_law 193 = .ok (.iadd, 1) := by decide +kernel
theorem dL_law_194 : decode cL_law 194 = .ok (.iastore, 1) := by decide +kernel
theorem dL_law_195 : decode cL_law 195 = .ok (.aload_n 3, 1) := by decide +kernel
theorem dL_law_196 : decode cL_law 196 = .ok (.iload 12, 2) := by decide +kernel
theorem dL_law_198 : decode cL_law 198 = .ok (.iconst 3, 1) := by decide +kernel
theorem dL_law_199 : decode cL_law 199 = .ok (.iadd, 1) := by decide +kernel
theorem dL_law_200 : decode cL_law 200 = .ok (.iconst 1, 1) := by decide +kernel
theorem dL_law_201 : decode cL_law 201 = .ok (.iload 8, 2) := by decide +kernel
theorem dL_law_203 : decode cL_law 203 = .ok (.bipush 9, 2) := by decide +kernel
theorem dL_law_205 : decode cL_law 205 = .ok (.ishr, 1) := by decide +kernel
theorem dL_law_206 : decode cL_law 206 = .ok (.bipush 20, 2) := by decide +kernel
theorem dL_law_208 : decode cL_law 208 = .ok (.invokestatic 58, 3) := by decide +kernel
theorem dL_law_211 : decode cL_law 211 = .ok (.iadd, 1) := by decide +kernel
theorem dL_law_212 : decode cL_law 212 = .ok (.iastore, 1) := by decide +kernel
theorem dL_law_213 : decode cL_law 213 = .ok (.aload_n 1, 1) := by decide +kernel
theorem dL_law_214 : decode cL_law 214 = .ok (.aload_n 3, 1) := by decide +kernel
theorem dL_law_215 : decode cL_law 215 = .ok (.iload 12, 2) := by decide +kernel
theorem dL_law_217 : decode cL_law 217 = .ok (.iaload, 1) := by decide +kernel
theorem dL_law_218 : decode cL_law 218 = .ok (.iconst 1, 1) := by decide +kernel
theorem dL_law_219 : decode cL_law 219 = .ok (.if_icmp .ne 7, 3) := by decide +kernel
theorem dL_law_222 : decode cL_law 222 = .ok (.iconst 1, 1) := by decide +kernel
theorem dL_law_223 : decode cL_law 223 = .ok (.goto 4, 3) := by decide +kernel
theorem dL_law_226 : decode cL_law 226 = .ok (.iconst 0, 1) := by decide +kernel
theorem dL_law_227 : decode cL_law 227 = .ok (.aload_n 3, 1) := by decide +kernel
theorem dL_law_228 : decode cL_law 228 = .ok (.iload 12, 2) := by decide +kernel
theorem dL_law_230 : decode cL_law 230 = .ok (.iconst 1, 1) := by decide +kernel
theorem dL_law_231 : decode cL_law 231 = .ok (.iadd, 1) := by decide +kernel
theorem dL_law_232 : decode cL_law 232 = .ok (.iaload, 1) := by decide +kernel
theorem dL_law_233 : decode cL_law 233 = .ok (.iconst 1, 1) := by decide +kernel
theorem dL_law_234 : decode cL_law 234 = .ok (.if_icmp .ne 7, 3) := by decide +kernel
theorem dL_law_237 : decode cL_law 237 = .ok (.iconst 1, 1) := by decide +kernel
theorem dL_law_238 : decode cL_law 238 = .ok (.goto 4, 3) := by decide +kernel
theorem dL_law_241 : decode cL_law 241 = .ok (.iconst 0, 1) := by decide +kernel
theorem dL_law_242 : decode cL_law 242 = .ok (.aload_n 3, 1) := by decide +kernel
theorem dL_law_243 : decode cL_law 243 = .ok (.iload 12, 2) := by decide +kernel
theorem dL_law_245 : decode cL_law 245 = .ok (.iconst 2, 1) := by decide +kernel
theorem dL_law_246 : decode cL_law 246 = .ok (.iadd, 1) := by decide +kernel
theorem dL_law_247 : decode cL_law 247 = .ok (.iaload, 1) := by decide +kernel
theorem dL_law_248 : decode cL_law 248 = .ok (.aload_n 3, 1) := by decide +kernel
theorem dL_law_249 : decode cL_law 249 = .ok (.iload 12, 2) := by decide +kernel
theorem dL_law_251 : decode cL_law 251 = .ok (.iconst 3, 1) := by decide +kernel
theorem dL_law_252 : decode cL_law 252 = .ok (.iadd, 1) := by decide +kernel
theorem dL_law_253 : decode cL_law 253 = .ok (.iaload, 1) := by decide +kernel
theorem dL_law_254 : decode cL_law 254 = .ok (.invokevirtual 83, 3) := by decide +kernel
theorem dL_law_257 : decode cL_law 257 = .ok (.aload_n 2, 1) := by decide +kernel
theorem dL_law_258 : decode cL_law 258 = .ok (.iconst 2, 1) := by decide +kernel
theorem dL_law_259 : decode cL_law 259 = .ok (.dup2, 1) := by decide +kernel
theorem dL_law_260 : decode cL_law 260 = .ok (.iaload, 1) := by decide +kernel
theorem dL_law_261 : decode cL_law 261 = .ok (.dup_x2, 1) := by decide +kernel
theorem dL_law_262 : decode cL_law 262 = .ok (.iconst 1, 1) := by decide +kernel
theorem dL_law_263 : decode cL_law 263 = .ok (.iadd, 1) := by decide +kernel
theorem dL_law_264 : decode cL_law 264 = .ok (.iastore, 1) := by decide +kernel
theorem dL_law_265 : decode cL_law 265 = .ok (.if_icmp .eq 5, 3) := by decide +kernel
theorem dL_law_268 : decode cL_law 268 = .ok (.iconst 0, 1) := by decide +kernel
theorem dL_law_269 : decode cL_law 269 = .ok (.ireturn, 1) := by decide +kernel
theorem dL_law_270 : decode cL_law 270 = .ok (.goto 479, 3) := by decide +kernel
theorem dL_law_273 : decode cL_law 273 = .ok (.iload 9, 2) := by decide +kernel
theorem dL_law_275 : decode cL_law 275 = .ok (.iconst 3, 1) := by decide +kernel
theorem dL_law_276 : decode cL_law 276 = .ok (.if_icmp .ge 110, 3) := by decide +kernel
theorem dL_law_279 : decode cL_law 279 = .ok (.iload 8, 2) := by decide +kernel
theorem dL_law_281 : decode cL_law 281 = .ok (.bipush 8, 2) := by decide +kernel
theorem dL_law_283 : decode cL_law 283 = .ok (.ishr, 1) := by decide +kernel
theorem dL_law_284 : decode cL_law 284 = .ok (.aload_n 2, 1) := by decide +kernel
theorem dL_law_285 : decode cL_law 285 = .ok (.iconst 2, 1) := by decide +kernel
theorem dL_law_286 : decode cL_law 286 = .ok (.iaload, 1) := by decide +kernel
theorem dL_law_287 : decode cL_law 287 = .ok (.invokestatic 58, 3) := by decide +kernel
theorem dL_law_290 : decode cL_law 290 = .ok (.istore 12, 2) := by decide +kernel
theorem dL_law_292 : decode cL_law 292 = .ok (.aload_n 3, 1) := by decide +kernel
theorem dL_law_293 : decode cL_law 293 = .ok (.iload 11, 2) := by decide +kernel
theorem dL_law_295 : decode cL_law 295 = .ok (.bipush 6, 2) := by decide +kernel
theorem dL_law_297 : decode cL_law 297 = .ok (.iadd, 1) := by decide +kernel
theorem dL_law_298 : decode cL_law 298 = .ok (.iaload, 1) := by decide +kernel
theorem dL_law_299 : decode cL_law 299 = .ok (.iload 12, 2) := by decide +kernel
theorem dL_law_301 : decode cL_law 301 = .ok (.ishr, 1) := by decide +kernel
theorem dL_law_302 : decode cL_law 302 = .ok (.iconst 1, 1) := by decide +kernel
theorem dL_law_303 : decode cL_law 303 = .ok (.iand, 1) := by decide +kernel
theorem dL_law_304 : decode cL_law 304 = .ok (.iconst 1, 1) := by decide +kernel
theorem dL_law_305 : decode cL_law 305 = .ok (.if_icmp .ne 7, 3) := by decide +kernel
theorem dL_law_308 : decode cL_law 308 = .ok (.iconst 1, 1) := by decide +kernel
theorem dL_law_309 : decode cL_law 309 = .ok (.goto 4, 3) := by decide +kernel
theorem dL_law_312 : decode cL_law 312 = .ok (.iconst 0, 1) := by decide +kernel
theorem dL_law_313 : decode cL_law 313 = .ok (.istore 13, 2) := by decide +kernel
theorem dL_law_315 : decode cL_law 315 = .ok (.aload_n 1, 1) := by decide +kernel
theorem dL_law_316 : decode cL_law 316 = .ok (.iload 10, 2) := by decide +kernel
theorem dL_law_318 : decode cL_law 318 = .ok (.iload 12, 2) := by decide +kernel
theorem dL_law_320 : decode cL_law 320 = .ok (.iload 13, 2) := by decide +kernel
theorem dL_law_322 : decode cL_law 322 = .ok (.ifCond .ne 7, 3) := by decide +kernel
theorem dL_law_325 : decode cL_law 325 = .ok (.iconst 1, 1) := by decide +kernel
theorem dL_law_326 : decode cL_law 326 = .ok (.goto 4, 3) := by decide +kernel
theorem dL_law_329 : decode cL_law 329 = .ok (.iconst 0, 1) := by decide +kernel
theorem dL_law_330 : decode cL_law 330 = .ok (.invokevirtual 87, 3) := by decide +kernel
theorem dL_law_333 : decode cL_law 333 = .ok (.iload 10, 2) := by decide +kernel
theorem dL_law_335 : decode cL_law 335 = .ok (.iload 12, 2) := by decide +kernel
theorem dL_law_337 : decode cL_law 337 = .ok (.if_icmp .ne 8, 3) := by decide +kernel
theorem dL_law_340 : decode cL_law 340 = .ok (.bipush (-2), 2) := by decide +kernel
theorem dL_law_342 : decode cL_law 342 = .ok (.goto 15, 3) := by decide +kernel
theorem dL_law_345 : decode cL_law 345 = .ok (.aload_n 3, 1) := by decide +kernel
theorem dL_law_346 : decode cL_law 346 = .ok (.iload 11, 2) := by decide +kernel
theorem dL_law_348 : decode cL_law 348 = .ok (.bipush 6, 2) := by decide +kernel
theorem dL_law_350 : decode cL_law 350 = .ok (.iadd, 1) := by decide +kernel
theorem dL_law_351 : decode cL_law 351 = .ok (.iaload, 1) := by decide +kernel
theorem dL_law_352 : decode cL_law 352 = .ok (.iconst 1, 1) := by decide +kernel
theorem dL_law_353 : decode cL_law 353 = .ok (.iload 12, 2) := by decide +kernel
theorem dL_law_355 : decode cL_law 355 = .ok (.ishl, 1) := by decide +kernel
theorem dL_law_356 : decode cL_law 356 = .ok (.ixor, 1) := by decide +kernel
theorem dL_law_357 : decode cL_law 357 = .ok (.if_icmp .eq 5, 3) := by decide +kernel
theorem dL_law_360 : decode cL_law 360 = .ok (.iconst 0, 1) := by decide +kernel
theorem dL_law_361 : decode cL_law 361 = .ok (.ireturn, 1) := by decide +kernel
theorem dL_law_362 : decode cL_law 362 = .ok (.iload 10, 2) := by decide +kernel
theorem dL_law_364 : decode cL_law 364 = .ok (.iload 12, 2) := by decide +kernel
theorem dL_law_366 : decode cL_law 366 = .ok (.if_icmp .eq 17, 3) := by decide +kernel
theorem dL_law_369 : decode cL_law 369 = .ok (.aload_n 3, 1) := by decide +kernel
theorem dL_law_370 : decode cL_law 370 = .ok (.iload 11, 2) := by decide +kernel
theorem dL_law_372 : decode cL_law 372 = .ok (.bipush 6, 2) := by decide +kernel
theorem dL_law_374 : decode cL_law 374 = .ok (.iadd, 1) := by decide +kernel
theorem dL_law_375 : decode cL_law 375 = .ok (.dup2, 1) := by decide +kernel
theorem dL_law_376 : decode cL_law 376 = .ok (.iaload, 1) := by decide +kernel
theorem dL_law_377 : decode cL_law 377 = .ok (.iconst 1, 1) := by decide +kernel
theorem dL_law_378 : decode cL_law 378 = .ok (.iload 12, 2) := by decide +kernel
theorem dL_law_380 : decode cL_law 380 = .ok (.ishl, 1) := by decide +kernel
theorem dL_law_381 : decode cL_law 381 = .ok (.ixor, 1) := by decide +kernel
theorem dL_law_382 : decode cL_law 382 = .ok (.iastore, 1) := by decide +kernel
theorem dL_law_383 : decode cL_law 383 = .ok (.goto 366, 3) := by decide +kernel
theorem dL_law_386 : decode cL_law 386 = .ok (.iload 9, 2) := by decide +kernel
theorem dL_law_388 : decode cL_law 388 = .ok (.iconst 3, 1) := by decide +kernel
theorem dL_law_389 : decode cL_law 389 = .ok (.if_icmp .ne 80, 3) := by decide +kernel
theorem dL_law_392 : decode cL_law 392 = .ok (.iload 8, 2) := by decide +kernel
theorem dL_law_394 : decode cL_law 394 = .ok (.bipush 8, 2) := by decide +kernel
theorem dL_law_396 : decode cL_law 396 = .ok (.ishr, 1) := by decide +kernel
theorem dL_law_397 : decode cL_law 397 = .ok (.sipush 256, 3) := by decide +kernel
theorem dL_law_400 : decode cL_law 400 = .ok (.invokestatic 58, 3) := by decide +kernel
theorem dL_law_403 : decode cL_law 403 = .ok (.istore 12, 2) := by decide +kernel
theorem dL_law_405 : decode cL_law 405 = .ok (.aload_n 1, 1) := by decide +kernel
theorem dL_law_406 : decode cL_law 406 = .ok (.iload 10, 2) := by decide +kernel
theorem dL_law_408 : decode cL_law 408 = .ok (.iload 12, 2) := by decide +kernel
theorem dL_law_410 : decode cL_law 410 = .ok (.invokevirtual 91, 3) := by decide +kernel
theorem dL_law_413 : decode cL_law 413 = .ok (.aload_n 3, 1) := by decide +kernel
theorem dL_law_414 : decode cL_law 414 = .ok (.iload 11, 2) := by decide +kernel
theorem dL_law_416 : decode cL_law 416 = .ok (.bipush 7, 2) := by decide +kernel
theorem dL_law_418 : decode cL_law 418 = .ok (.iadd, 1) := by decide +kernel
theorem dL_law_419 : decode cL_law 419 = .ok (.iaload, 1) := by decide +kernel
theorem dL_law_420 : decode cL_law 420 = .ok (.ifCond .ne 12, 3) := by decide +kernel
theorem dL_law_423 : decode cL_law 423 = .ok (.aload_n 3, 1) := by decide +kernel
theorem dL_law_424 : decode cL_law 424 = .ok (.iload 11, 2) := by decide +kernel
theorem dL_law_426 : decode cL_law 426 = .ok (.iconst 4, 1) := by decide +kernel
theorem dL_law_427 : decode cL_law 427 = .ok (.iadd, 1) := by decide +kernel
theorem dL_law_428 : decode cL_law 428 = .ok (.iaload, 1) := by decide +kernel
theorem dL_law_429 : decode cL_law 429 = .ok (.goto 5, 3) := by decide +kernel
theorem dL_law_432 : decode cL_law 432 = .ok (.bipush (-5), 2) := by decide +kernel
theorem dL_law_434 : decode cL_law 434 = .ok (.if_icmp .eq 5, 3) := by decide +kernel
theorem dL_law_437 : decode cL_law 437 = .ok (.iconst 0, 1) := by decide +kernel
theorem dL_law_438 : decode cL_law 438 = .ok (.ireturn, 1) := by decide +kernel
theorem dL_law_439 : decode cL_law 439 = .ok (.aload_n 3, 1) := by decide +kernel
theorem dL_law_440 : decode cL_law 440 = .ok (.iload 11, 2) := by decide +kernel
theorem dL_law_442 : decode cL_law 442 = .ok (.iconst 4, 1) := by decide +kernel
theorem dL_law_443 : decode cL_law 443 = .ok (.iadd, 1) := by decide +kernel
theorem dL_law_444 : decode cL_law 444 = .ok (.aload_n 3, 1) := by decide +kernel
theorem dL_law_445 : decode cL_law 445 = .ok (.iload 11, 2) := by decide +kernel
theorem dL_law_447 : decode cL_law 447 = .ok (.bipush 7, 2) := by decide +kernel
theorem dL_law_449 : decode cL_law 449 = .ok (.iadd, 1) := by decide +kernel
theorem dL_law_450 : decode cL_law 450 = .ok (.iaload, 1) := by decide +kernel
theorem dL_law_451 : decode cL_law 451 = .ok (.ifCond .ne 8, 3) := by decide +kernel
theorem dL_law_454 : decode cL_law 454 = .ok (.iload 12, 2) := by decide +kernel
theorem dL_law_456 : decode cL_law 456 = .ok (.goto 9, 3) := by decide +kernel
theorem dL_law_459 : decode cL_law 459 = .ok (.aload_n 3, 1) := by decide +kernel
theorem dL_law_460 : decode cL_law 460 = .ok (.iload 11, 2) := by decide +kernel
theorem dL_law_462 : decode cL_law 462 = .ok (.iconst 4, 1) := by decide +kernel
theorem dL_law_463 : decode cL_law 463 = .ok (.iadd, 1) := by decide +kernel
theorem dL_law_464 : decode cL_law 464 = .ok (.iaload, 1) := by decide +kernel
theorem dL_law_465 : decode cL_law 465 = .ok (.iastore, 1) := by decide +kernel
theorem dL_law_466 : decode cL_law 466 = .ok (.goto 283, 3) := by decide +kernel
theorem dL_law_469 : decode cL_law 469 = .ok (.iload 9, 2) := by decide +kernel
theorem dL_law_471 : decode cL_law 471 = .ok (.bipush 7, 2) := by decide +kernel
theorem dL_law_473 : decode cL_law 473 = .ok (.if_icmp .ge 74, 3) := by decide +kernel
theorem dL_law_476 : decode cL_law 476 = .ok (.aload_n 3, 1) := by decide +kernel
theorem dL_law_477 : decode cL_law 477 = .ok (.iload 11, 2) := by decide +kernel
theorem dL_law_479 : decode cL_law 479 = .ok (.bipush 7, 2) := by decide +kernel
theorem dL_law_481 : decode cL_law 481 = .ok (.iadd, 1) := by decide +kernel
theorem dL_law_482 : decode cL_law 482 = .ok (.iaload, 1) := by decide +kernel
theorem dL_law_483 : decode cL_law 483 = .ok (.ifCond .ne 7, 3) := by decide +kernel
theorem dL_law_486 : decode cL_law 486 = .ok (.iconst 1, 1) := by decide +kernel
theorem dL_law_487 : decode cL_law 487 = .ok (.goto 4, 3) := by decide +kernel
theorem dL_law_490 : decode cL_law 490 = .ok (.iconst 0, 1) := by decide +kernel
theorem dL_law_491 : decode cL_law 491 = .ok (.istore 12, 2) := by decide +kernel
theorem dL_law_493 : decode cL_law 493 = .ok (.iload 12, 2) := by decide +kernel
theorem dL_law_495 : decode cL_law 495 = .ok (.ifCond .eq 11, 3) := by decide +kernel
theorem dL_law_498 : decode cL_law 498 = .ok (.aload_n 3, 1) := by decide +kernel
theorem dL_law_499 : decode cL_law 499 = .ok (.iload 11, 2) := by decide +kernel
theorem dL_law_501 : decode cL_law 501 = .ok (.bipush 7, 2) := by decide +kernel
theorem dL_law_503 : decode cL_law 503 = .ok (.iadd, 1) := by decide +kernel
theorem dL_law_504 : decode cL_law 504 = .ok (.iconst 1, 1) := by decide +kernel
theorem dL_law_505 : decode cL_law 505 = .ok (.iastore, 1) := by decide +kernel
theorem dL_law_506 : decode cL_law 506 = .ok (.aload_n 1, 1) := by decide +kernel
theorem dL_law_507 : decode cL_law 507 = .ok (.iload 10, 2) := by decide +kernel
theorem dL_law_509 : decode cL_law 509 = .ok (.invokevirtual 94, 3) := by decide +kernel
theorem dL_law_512 : decode cL_law 512 = .ok (.iload 12, 2) := by decide +kernel
theorem dL_law_514 : decode cL_law 514 = .ok (.ifCond .eq 23, 3) := by decide +kernel
theorem dL_law_517 : decode cL_law 517 = .ok (.iload 10, 2) := by decide +kernel
theorem dL_law_519 : decode cL_law 519 = .ok (.aload_n 2, 1) := by decide +kernel
theorem dL_law_520 : decode cL_law 520 = .ok (.aload_n 3, 1) := by decide +kernel
theorem dL_law_521 : decode cL_law 521 = .ok (.invokestatic 20, 3) := by decide +kernel
theorem dL_law_524 : decode cL_law 524 = .ok (.iconst 0, 1) := by decide +kernel
theorem dL_law_525 : decode cL_law 525 = .ok (.aload_n 2, 1) := by decide +kernel
theorem dL_law_526 : decode cL_law 526 = .ok (.aload_n 3, 1) := by decide +kernel
theorem dL_law_527 : decode cL_law 527 = .ok (.invokestatic 16, 3) := by decide +kernel
theorem dL_law_530 : decode cL_law 530 = .ok (.iand, 1) := by decide +kernel
theorem dL_law_531 : decode cL_law 531 = .ok (.invokestatic 47, 3) := by decide +kernel
theorem dL_law_534 : decode cL_law 534 = .ok (.goto 5, 3) := by decide +kernel
theorem dL_law_537 : decode cL_law 537 = .ok (.bipush (-5), 2) := by decide +kernel
theorem dL_law_539 : decode cL_law 539 = .ok (.if_icmp .eq 5, 3) := by decide +kernel
theorem dL_law_542 : decode cL_law 542 = .ok (.iconst 0, 1) := by decide +kernel
theorem dL_law_543 : decode cL_law 543 = .ok (.ireturn, 1) := by decide +kernel
theorem dL_law_544 : decode cL_law 544 = .ok (.goto 205, 3) := by decide +kernel
theorem dL_law_547 : decode cL_law 547 = .ok (.iload 9, 2) := by decide +kernel
theorem dL_law_549 : decode cL_law 549 = .ok (.bipush 10, 2) := by decide +kernel
theorem dL_law_551 : decode cL_law 551 = .ok (.if_icmp .ge 66, 3) := by decide +kernel
theorem dL_law_554 : decode cL_law 554 = .ok (.aload_n 3, 1) := by decide +kernel
theorem dL_law_555 : decode cL_law 555 = .ok (.iload 11, 2) := by decide +kernel
theorem dL_law_557 : decode cL_law 557 = .ok (.bipush 7, 2) := by decide +kernel
theorem dL_law_559 : decode cL_law 559 = .ok (.iadd, 1) := by decide +kernel
theorem dL_law_560 : decode cL_law 560 = .ok (.iaload, 1) := by decide +kernel
theorem dL_law_561 : decode cL_law 561 = .ok (.iconst 2, 1) := by decide +kernel
theorem dL_law_562 : decode cL_law 562 = .ok (.if_icmp .ne 7, 3) := by decide +kernel
theorem dL_law_565 : decode cL_law 565 = .ok (.iconst 1, 1) := by decide +kernel
theorem dL_law_566 : decode cL_law 566 = .ok (.goto 4, 3) := by decide +kernel
theorem dL_law_569 : decode cL_law 569 = .ok (.iconst 0, 1) := by decide +kernel
theorem dL_law_570 : decode cL_law 570 = .ok (.istore 12, 2) := by decide +kernel
theorem dL_law_572 : decode cL_law 572 = .ok (.iload 12, 2) := by decide +kernel
theorem dL_law_574 : decode cL_law 574 = .ok (.ifCond .eq 10, 3) := by decide +kernel
theorem dL_law_577 : decode cL_law 577 = .ok (.iload 10, 2) := by decide +kernel
theorem dL_law_579 : decode cL_law 579 = .ok (.aload_n 2, 1) := by decide +kernel
theorem dL_law_580 : decode cL_law 580 = .ok (.aload_n 3, 1) := by decide +kernel
theorem dL_law_581 : decode cL_law 581 = .ok (.invokestatic 23, 3) := by decide +kernel
theorem dL_law_584 : decode cL_law 584 = .ok (.aload_n 1, 1) := by decide +kernel
theorem dL_law_585 : decode cL_law 585 = .ok (.iload 10, 2) := by decide +kernel
theorem dL_law_587 : decode cL_law 587 = .ok (.invokevirtual 97, 3) := by decide +kernel
theorem dL_law_590 : decode cL_law 590 = .ok (.iload 12, 2) := by decide +kernel
theorem dL_law_592 : decode cL_law 592 = .ok (.ifCond .eq 15, 3) := by decide +kernel
theorem dL_law_595 : decode cL_law 595 = .ok (.iconst 3, 1) := by decide +kernel
theorem dL_law_596 : decode cL_law 596 = .ok (.aload_n 2, 1) := by decide +kernel
theorem dL_law_597 : decode cL_law 597 = .ok (.aload_n 3, 1) := by decide +kernel
theorem dL_law_598 : decode cL_law 598 = .ok (.invokestatic 16, 3) := by decide +kernel
theorem dL_law_601 : decode cL_law 601 = .ok (.invokestatic 47, 3) := by decide +kernel
theorem dL_law_604 : decode cL_law 604 = .ok (.goto 5, 3) := by decide +kernel
theorem dL_law_607 : decode cL_law 607 = .ok (.bipush (-5), 2) := by decide +kernel
theorem dL_law_609 : decode cL_law 609 = .ok (.if_icmp .eq 5, 3) := by decide +kernel
theorem dL_law_612 : decode cL_law 612 = .ok (.iconst 0, 1) := by decide +kernel
theorem dL_law_613 : decode cL_law 613 = .ok (.ireturn, 1) := by decide +kernel
theorem dL_law_614 : decode cL_law 614 = .ok (.goto 135, 3) := by decide +kernel
theorem dL_law_617 : decode cL_law 617 = .ok (.iload 9, 2) := by decide +kernel
theorem dL_law_619 : decode cL_law 619 = .ok (.bipush 10, 2) := by decide +kernel
theorem dL_law_621 : decode cL_law 621 = .ok (.if_icmp .ne 70, 3) := by decide +kernel
theorem dL_law_624 : decode cL_law 624 = .ok (.iload 8, 2) := by decide +kernel
theorem dL_law_626 : decode cL_law 626 = .ok (.iconst 5, 1) := by decide +kernel
theorem dL_law_627 : decode cL_law 627 = .ok (.ishr, 1) := by decide +kernel
theorem dL_law_628 : decode cL_law 628 = .ok (.iconst 2, 1) := by decide +kernel
theorem dL_law_629 : decode cL_law 629 = .ok (.invokestatic 58, 3) := by decide +kernel
theorem dL_law_632 : decode cL_law 632 = .ok (.istore 12, 2) := by decide +kernel
theorem dL_law_634 : decode cL_law 634 = .ok (.iload 12, 2) := by decide +kernel
theorem dL_law_636 : decode cL_law 636 = .ok (.ifCond .ne 18, 3) := by decide +kernel
theorem dL_law_639 : decode cL_law 639 = .ok (.iconst 1, 1) := by decide +kernel
theorem dL_law_640 : decode cL_law 640 = .ok (.iload 8, 2) := by decide +kernel
theorem dL_law_642 : decode cL_law 642 = .ok (.bipush 7, 2) := by decide +kernel
theorem dL_law_644 : decode cL_law 644 = .ok (.ishr, 1) := by decide +kernel
theorem dL_law_645 : decode cL_law 645 = .ok (.bipush 60, 2) := by decide +kernel
theorem dL_law_647 : decode cL_law 647 = .ok (.invokestatic 58, 3) := by decide +kernel
theorem dL_law_650 : decode cL_law 650 = .ok (.iadd, 1) := by decide +kernel
theorem dL_law_651 : decode cL_law 651 = .ok (.goto 12, 3) := by decide +kernel
theorem dL_law_654 : decode cL_law 654 = .ok (.iload 8, 2) := by decide +kernel
theorem dL_law_656 : decode cL_law 656 = .ok (.bipush 7, 2) := by decide +kernel
theorem dL_law_658 : decode cL_law 658 = .ok (.ishr, 1) := by decide +kernel
theorem dL_law_659 : decode cL_law 659 = .ok (.iconst 2, 1) := by decide +kernel
theorem dL_law_660 : decode cL_law 660 = .ok (.invokestatic 58, 3) := by decide +kernel
theorem dL_law_663 : decode cL_law 663 = .ok (.istore 13, 2) := by decide +kernel
theorem dL_law_665 : decode cL_law 665 = .ok (.aload_n 1, 1) := by decide +kernel
theorem dL_law_666 : decode cL_law 666 = .ok (.iload 12, 2) := by decide +kernel
theorem dL_law_668 : decode cL_law 668 = .ok (.iload 13, 2) := by decide +kernel
theorem dL_law_670 : decode cL_law 670 = .ok (.invokevirtual 100, 3) := by decide +kernel
theorem dL_law_673 : decode cL_law 673 = .ok (.aload_n 2, 1) := by decide +kernel
theorem dL_law_674 : decode cL_law 674 = .ok (.iload 12, 2) := by decide +kernel
theorem dL_law_676 : decode cL_law 676 = .ok (.iaload, 1) := by decide +kernel
theorem dL_law_677 : decode cL_law 677 = .ok (.if_icmp .eq 5, 3) := by decide +kernel
theorem dL_law_680 : decode cL_law 680 = .ok (.iconst 0, 1) := by decide +kernel
theorem dL_law_681 : decode cL_law 681 = .ok (.ireturn, 1) := by decide +kernel
theorem dL_law_682 : decode cL_law 682 = .ok (.aload_n 2, 1) := by decide +kernel
theorem dL_law_683 : decode cL_law 683 = .ok (.iload 12, 2) := by decide +kernel
theorem dL_law_685 : decode cL_law 685 = .ok (.iload 13, 2) := by decide +kernel
theorem dL_law_687 : decode cL_law 687 = .ok (.iastore, 1) := by decide +kernel
theorem dL_law_688 : decode cL_law 688 = .ok (.goto 61, 3) := by decide +kernel
theorem dL_law_691 : decode cL_law 691 = .ok (.iconst 1, 1) := by decide +kernel
theorem dL_law_692 : decode cL_law 692 = .ok (.iload 8, 2) := by decide +kernel
theorem dL_law_694 : decode cL_law 694 = .ok (.bipush 6, 2) := by decide +kernel
theorem dL_law_696 : decode cL_law 696 = .ok (.ishr, 1) := by decide +kernel
theorem dL_law_697 : decode cL_law 697 = .ok (.iconst 5, 1) := by decide +kernel
theorem dL_law_698 : decode cL_law 698 = .ok (.invokestatic 58, 3) := by decide +kernel
theorem dL_law_701 : decode cL_law 701 = .ok (.iadd, 1) := by decide +kernel
theorem dL_law_702 : decode cL_law 702 = .ok (.istore 12, 2) := by decide +kernel
theorem dL_law_704 : decode cL_law 704 = .ok (.aload_n 2, 1) := by decide +kernel
theorem dL_law_705 : decode cL_law 705 = .ok (.iconst 4, 1) := by decide +kernel
theorem dL_law_706 : decode cL_law 706 = .ok (.iaload, 1) := by decide +kernel
theorem dL_law_707 : decode cL_law 707 = .ok (.istore 13, 2) := by decide +kernel
theorem dL_law_709 : decode cL_law 709 = .ok (.iconst 0, 1) := by decide +kernel
theorem dL_law_710 : decode cL_law 710 = .ok (.istore 14, 2) := by decide +kernel
theorem dL_law_712 : decode cL_law 712 = .ok (.iload 14, 2) := by decide +kernel
theorem dL_law_714 : decode cL_law 714 = .ok (.iload 12, 2) := by decide +kernel
theorem dL_law_716 : decode cL_law 716 = .ok (.if_icmp .ge 16, 3) := by decide +kernel
theorem dL_law_719 : decode cL_law 719 = .ok (.aload_n 2, 1) := by decide +kernel
theorem dL_law_720 : decode cL_law 720 = .ok (.aload_n 3, 1) := by decide +kernel
theorem dL_law_721 : decode cL_law 721 = .ok (.aload 6, 2) := by decide +kernel
theorem dL_law_723 : decode cL_law 723 = .ok (.invokestatic 54, 3) := by decide +kernel
theorem dL_law_726 : decode cL_law 726 = .ok (.iinc 14 1, 3) := by decide +kernel
theorem dL_law_729 : decode cL_law 729 = .ok (.goto (-17), 3) := by decide +kernel
theorem dL_law_732 : decode cL_law 732 = .ok (.aload_n 1, 1) := by decide +kernel
theorem dL_law_733 : decode cL_law 733 = .ok (.iload 12, 2) := by decide +kernel
theorem dL_law_735 : decode cL_law 735 = .ok (.invokevirtual 102, 3) := by decide +kernel
theorem dL_law_738 : decode cL_law 738 = .ok (.aload_n 2, 1) := by decide +kernel
theorem dL_law_739 : decode cL_law 739 = .ok (.iconst 4, 1) := by decide +kernel
theorem dL_law_740 : decode cL_law 740 = .ok (.iaload, 1) := by decide +kernel
theorem dL_law_741 : decode cL_law 741 = .ok (.iload 13, 2) := by decide +kernel
theorem dL_law_743 : decode cL_law 743 = .ok (.isub, 1) := by decide +kernel
theorem dL_law_744 : decode cL_law 744 = .ok (.if_icmp .eq 5, 3) := by decide +kernel
theorem dL_law_747 : decode cL_law 747 = .ok (.iconst 0, 1) := by decide +kernel
theorem dL_law_748 : decode cL_law 748 = .ok (.ireturn, 1) := by decide +kernel
theorem dL_law_749 : decode cL_law 749 = .ok (.aload_n 1, 1) := by decide +kernel
theorem dL_law_750 : decode cL_law 750 = .ok (.aload_n 2, 1) := by decide +kernel
theorem dL_law_751 : decode cL_law 751 = .ok (.aload_n 3, 1) := by decide +kernel
theorem dL_law_752 : decode cL_law 752 = .ok (.invokestatic 105, 3) := by decide +kernel
theorem dL_law_755 : decode cL_law 755 = .ok (.ifCond .eq 35, 3) := by decide +kernel
theorem dL_law_758 : decode cL_law 758 = .ok (.iload 8, 2) := by decide +kernel
theorem dL_law_760 : decode cL_law 760 = .ok (.bipush 13, 2) := by decide +kernel
theorem dL_law_762 : decode cL_law 762 = .ok (.ishr, 1) := by decide +kernel
theorem dL_law_763 : decode cL_law 763 = .ok (.bipush 6, 2) := by decide +kernel
theorem dL_law_765 : decode cL_law 765 = .ok (.invokestatic 58, 3) := by decide +kernel
theorem dL_law_768 : decode cL_law 768 = .ok (.ifCond .ne 24, 3) := by decide +kernel
theorem dL_law_771 : decode cL_law 771 = .ok (.aload_n 1, 1) := by decide +kernel
theorem dL_law_772 : decode cL_law 772 = .ok (.iload 8, 2) := by decide +kernel
theorem dL_law_774 : decode cL_law 774 = .ok (.iconst 3, 1) := by decide +kernel
theorem dL_law_775 : decode cL_law 775 = .ok (.ishr, 1) := by decide +kernel
theorem dL_law_776 : decode cL_law 776 = .ok (.aload_n 2, 1) := by decide +kernel
theorem dL_law_777 : decode cL_law 777 = .ok (.aload_n 3, 1) := by decide +kernel
theorem dL_law_778 : decode cL_law 778 = .ok (.aload 4, 2) := by decide +kernel
theorem dL_law_780 : decode cL_law 780 = .ok (.aload 5, 2) := by decide +kernel
theorem dL_law_782 : decode cL_law 782 = .ok (.aload 6, 2) := by decide +kernel
theorem dL_law_784 : decode cL_law 784 = .ok (.invokestatic 109, 3) := by decide +kernel
theorem dL_law_787 : decode cL_law 787 = .ok (.ifCond .ne 5, 3) := by decide +kernel
theorem dL_law_790 : decode cL_law 790 = .ok (.iconst 0, 1) := by decide +kernel
theorem dL_law_791 : decode cL_law 791 = .ok (.ireturn, 1) := by decide +kernel
theorem dL_law_792 : decode cL_law 792 = .ok (.iinc 7 1, 3) := by decide +kernel
theorem dL_law_795 : decode cL_law 795 = .ok (.goto (-751), 3) := by decide +kernel
theorem dL_law_798 : decode cL_law 798 = .ok (.iconst 1, 1) := by decide +kernel
theorem dL_law_799 : decode cL_law 799 = .ok (.ireturn, 1) := by decide +kernel
