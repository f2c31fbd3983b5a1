theorem dX0_init_0 : decode cX0_init 0 = .ok (.aload_n 0, 1) := by decide +kernel
theorem dX0_init_1 : decode cX0_init 1 = .ok (.invokespecial 3, 3) := by decide +kernel
theorem dX0_init_4 : decode cX0_init 4 = .ok (.aload_n 0, 1) := by decide +kernel
theorem dX0_init_5 : decode cX0_init 5 = .ok (.bipush 8, 2) := by decide +kernel
theorem dX0_init_7 : decode cX0_init 7 = .ok (.newarray .int, 2) := by decide +kernel
theorem dX0_init_9 : decode cX0_init 9 = .ok (.putfield 9, 3) := by decide +kernel
theorem dX0_init_12 : decode cX0_init 12 = .ok (.aload_n 0, 1) := by decide +kernel
theorem dX0_init_13 : decode cX0_init 13 = .ok (.bipush 8, 2) := by decide +kernel
theorem dX0_init_15 : decode cX0_init 15 = .ok (.newarray .int, 2) := by decide +kernel
theorem dX0_init_17 : decode cX0_init 17 = .ok (.putfield 15, 3) := by decide +kernel
theorem dX0_init_20 : decode cX0_init 20 = .ok (.aload_n 0, 1) := by decide +kernel
theorem dX0_init_21 : decode cX0_init 21 = .ok (.bipush 8, 2) := by decide +kernel
theorem dX0_init_23 : decode cX0_init 23 = .ok (.newarray .int, 2) := by decide +kernel
theorem dX0_init_25 : decode cX0_init 25 = .ok (.putfield 18, 3) := by decide +kernel
theorem dX0_init_28 : decode cX0_init 28 = .ok (.aload_n 0, 1) := by decide +kernel
theorem dX0_init_29 : decode cX0_init 29 = .ok (.bipush 8, 2) := by decide +kernel
theorem dX0_init_31 : decode cX0_init 31 = .ok (.newarray .int, 2) := by decide +kernel
theorem dX0_init_33 : decode cX0_init 33 = .ok (.putfield 21, 3) := by decide +kernel
theorem dX0_init_36 : decode cX0_init 36 = .ok (.aload_n 0, 1) := by decide +kernel
theorem dX0_init_37 : decode cX0_init 37 = .ok (.bipush 8, 2) := by decide +kernel
theorem dX0_init_39 : decode cX0_init 39 = .ok (.newarray .int, 2) := by decide +kernel
theorem dX0_init_41 : decode cX0_init 41 = .ok (.putfield 24, 3) := by decide +kernel
theorem dX0_init_44 : decode cX0_init 44 = .ok (.aload_n 0, 1) := by decide +kernel
theorem dX0_init_45 : decode cX0_init 45 = .ok (.bipush 8, 2) := by decide +kernel
theorem dX0_init_47 : decode cX0_init 47 = .ok (.newarray .int, 2) := by decide +kernel
theorem dX0_init_49 : decode cX0_init 49 = .ok (.putfield 27, 3) := by decide +kernel
theorem dX0_init_52 : decode cX0_init 52 = .ok (.aload_n 0, 1) := by decide +kernel
theorem dX0_init_53 : decode cX0_init 53 = .ok (.bipush 8, 2) := by decide +kernel
theorem dX0_init_55 : decode cX0_init 55 = .ok (.newarray .int, 2) := by decide +kernel
theorem dX0_init_57 : decode cX0_init 57 = .ok (.putfield 30, 3) := by decide +kernel
theorem dX0_init_60 : decode cX0_init 60 = .ok (.aload_n 0, 1) := by decide +kernel
theorem dX0_init_61 : decode cX0_init 61 = .ok (.bipush 8, 2) := by decide +kernel
theorem dX0_init_63 : decode cX0_init 63 = .ok (.newarray .int, 2) := by decide +kernel
theorem dX0_init_65 : decode cX0_init 65 = .ok (.putfield 33, 3) := by decide +kernel
theorem dX0_init_68 : decode cX0_init 68 = .ok (.aload_n 0, 1) := by decide +kernel
theorem dX0_init_69 : decode cX0_init 69 = .ok (.bipush 8, 2) := by decide +kernel
theorem dX0_init_71 : decode cX0_init 71 = .ok (.newarray .int, 2) := by decide +kernel
theorem dX0_init_73 : decode cX0_init 73 = .ok (.putfield 36, 3) := by decide +kernel
theorem dX0_init_76 : decode cX0_init 76 = .ok (.aload_n 0, 1) := by decide +kernel
theorem dX0_init_77 : decode cX0_init 77 = .ok (.bipush 8, 2) := by decide +kernel
theorem dX0_init_79 : decode cX0_init 79 = .ok (.newarray .int, 2) := by decide +kernel
theorem dX0_init_81 : decode cX0_init 81 = .ok (.putfield 39, 3) := by decide +kernel
theorem dX0_init_84 : decode cX0_init 84 = .ok (.aload_n 0, 1) := by decide +kernel
theorem dX0_init_85 : decode cX0_init 85 = .ok (.bipush 20, 2) := by decide +kernel
theorem dX0_init_87 : decode cX0_init 87 = .ok (.putfield 42, 3) := by decide +kernel
theorem dX0_init_90 : decode cX0_init 90 = .ok (.aload_n 0, 1) := by decide +kernel
theorem dX0_init_91 : decode cX0_init 91 = .ok (.iconst 0, 1) := by decide +kernel
theorem dX0_init_92 : decode cX0_init 92 = .ok (.putfield 46, 3) := by decide +kernel
theorem dX0_init_95 : decode cX0_init 95 = .ok (.aload_n 0, 1) := by decide +kernel
theorem dX0_init_96 : decode cX0_init 96 = .ok (.invokevirtual 49, 3) := by decide +kernel
theorem dX0_init_99 : decode cX0_init 99 = .ok (.return_, 1) := by decide +kernel
theorem dX0_clear_0 : decode cX0_clear 0 = .ok (.aload_n 0, 1) := by decide +kernel
theorem dX0_clear_1 : decode cX0_clear 1 = .ok (.iconst 0, 1) := by decide +kernel
theorem dX0_clear_2 : decode cX0_clear 2 = .ok (.putfield 52, 3) := by decide +kernel
theorem dX0_clear_5 : decode cX0_clear 5 = .ok (.aload_n 0, 1) := by decide +kernel
theorem dX0_clear_6 : decode cX0_clear 6 = .ok (.iconst 0, 1) := by decide +kernel
theorem dX0_clear_7 : decode cX0_clear 7 = .ok (.putfield 55, 3) := by decide +kernel
theorem dX0_clear_10 : decode cX0_clear 10 = .ok (.aload_n 0, 1) := by decide +kernel
theorem dX0_clear_11 : decode cX0_clear 11 = .ok (.iconst 0, 1) := by decide +kernel
theorem dX0_clear_12 : decode cX0_clear 12 = .ok (.putfield 58, 3) := by decide +kernel
theorem dX0_clear_15 : decode cX0_clear 15 = .ok (.aload_n 0, 1) := by decide +kernel
theorem dX0_clear_16 : decode cX0_clear 16 = .ok (.iconst 0, 1) := by decide +kernel
theorem dX0_clear_17 : decode cX0_clear 17 = .ok (.putfield 61, 3) := by decide +kernel
theorem dX0_clear_20 : decode cX0_clear 20 = .ok (.aload_n 0, 1) := by decide +kernel
theorem dX0_clear_21 : decode cX0_clear 21 = .ok (.iconst 0, 1) := by decide +kernel
theorem dX0_clear_22 : decode cX0_clear 22 = .ok (.putfield 64, 3) := by decide +kernel
theorem dX0_clear_25 : decode cX0_clear 25 = .ok (.aload_n 0, 1) := by decide +kernel
theorem dX0_clear_26 : decode cX0_clear 26 = .ok (.iconst 0, 1) := by decide +kernel
theorem dX0_clear_27 : decode cX0_clear 27 = .ok (.putfield 67, 3) := by decide +kernel
theorem dX0_clear_30 : decode cX0_clear 30 = .ok (.aload_n 0, 1) := by decide +kernel
theorem dX0_clear_31 : decode cX0_clear 31 = .ok (.iconst 0, 1) := by decide +kernel
theorem dX0_clear_32 : decode cX0_clear 32 = .ok (.putfield 70, 3) := by decide +kernel
theorem dX0_clear_35 : decode cX0_clear 35 = .ok (.iconst 0, 1) := by decide +kernel
theorem dX0_clear_36 : decode cX0_clear 36 = .ok (.istore_n 1, 1) := by decide +kernel
theorem dX0_clear_37 : decode cX0_clear 37 = .ok (.iload_n 1, 1) := by decide +kernel
theorem dX0_clear_38 : decode cX0_clear 38 = .ok (.bipush 8, 2) := by decide +kernel
theorem dX0_clear_40 : decode cX0_clear 40 = .ok (.if_icmp .ge 72, 3) := by decide +kernel
theorem dX0_clear_43 : decode cX0_clear 43 = .ok (.aload_n 0, 1) := by decide +kernel
theorem dX0_clear_44 : decode cX0_clear 44 = .ok (.getfield 9, 3) := by decide +kernel
theorem dX0_clear_47 : decode cX0_clear 47 = .ok (.iload_n 1, 1) := by decide +kernel
theorem dX0_clear_48 : decode cX0_clear 48 = .ok (.iconst 0, 1) := by decide +kernel
theorem dX0_clear_49 : decode cX0_clear 49 = .ok (.iastore, 1) := by decide +kernel
theorem dX0_clear_50 : decode cX0_clear 50 = .ok (.aload_n 0, 1) := by decide +kernel
theorem dX0_clear_51 : decode cX0_clear 51 = .ok (.getfield 15, 3) := by decide +kernel
theorem dX0_clear_54 : decode cX0_clear 54 = .ok (.iload_n 1, 1) := by decide +kernel
theorem dX0_clear_55 : decode cX0_clear 55 = .ok (.iconst 0, 1) := by decide +kernel
theorem dX0_clear_56 : decode cX0_clear 56 = .ok (.iastore, 1) := by decide +kernel
theorem dX0_clear_57 : decode cX0_clear 57 = .ok (.aload_n 0, 1) := by decide +kernel
theorem dX0_clear_58 : decode cX0_clear 58 = .ok (.getfield 18, 3) := by decide +kernel
theorem dX0_clear_61 : decode cX0_clear 61 = .ok (.iload_n 1, 1) := by decide +kernel
theorem dX0_clear_62 : decode cX0_clear 62 = .ok (.iconst 0, 1) := by decide +kernel
theorem dX0_clear_63 : decode cX0_clear 63 = .ok (.iastore, 1) := by decide +kernel
theorem dX0_clear_64 : decode cX0_clear 64 = .ok (.aload_n 0, 1) := by decide +kernel
theorem dX0_clear_65 : decode cX0_clear 65 = .ok (.getfield 21, 3) := by decide +kernel
theorem dX0_clear_68 : decode cX0_clear 68 = .ok (.iload_n 1, 1) := by decide +kernel
theorem dX0_clear_69 : decode cX0_clear 69 = .ok (.iconst (-1), 1) := by decide +kernel
theorem dX0_clear_70 : decode cX0_clear 70 = .ok (.iastore, 1) := by decide +kernel
theorem dX0_clear_71 : decode cX0_clear 71 = .ok (.aload_n 0, 1) := by decide +kernel
theorem dX0_clear_72 : decode cX0_clear 72 = .ok (.getfield 24, 3) := by decide +kernel
theorem dX0_clear_75 : decode cX0_clear 75 = .ok (.iload_n 1, 1) := by decide +kernel
theorem dX0_clear_76 : decode cX0_clear 76 = .ok (.iconst 0, 1) := by decide +kernel
theorem dX0_clear_77 : decode cX0_clear 77 = .ok (.iastore, 1) := by decide +kernel
theorem dX0_clear_78 : decode cX0_clear 78 = .ok (.aload_n 0, 1) := by decide +kernel
theorem dX0_clear_79 : decode cX0_clear 79 = .ok (.getfield 27, 3) := by decide +kernel
theorem dX0_clear_82 : decode cX0_clear 82 = .ok (.iload_n 1, 1) := by decide +kernel
theorem dX0_clear_83 : decode cX0_clear 83 = .ok (.iconst 0, 1) := by decide +kernel
theorem dX0_clear_84 : decode cX0_clear 84 = .ok (.iastore, 1) := by decide +kernel
theorem dX0_clear_85 : decode cX0_clear 85 = .ok (.aload_n 0, 1) := by decide +kernel
theorem dX0_clear_86 : decode cX0_clear 86 = .ok (.getfield 30, 3) := by decide +kernel
theorem dX0_clear_89 : decode cX0_clear 89 = .ok (.iload_n 1, 1) := by decide +kernel
theorem dX0_clear_90 : decode cX0_clear 90 = .ok (.iconst 0, 1) := by decide +kernel
theorem dX0_clear_91 : decode cX0_clear 91 = .ok (.iastore, 1) := by decide +kernel
theorem dX0_clear_92 : decode cX0_clear 92 = .ok (.aload_n 0, 1) := by decide +kernel
theorem dX0_clear_93 : decode cX0_clear 93 = .ok (.getfield 33, 3) := by decide +kernel
theorem dX0_clear_96 : decode cX0_clear 96 = .ok (.iload_n 1, 1) := by decide +kernel
theorem dX0_clear_97 : decode cX0_clear 97 = .ok (.iconst 0, 1) := by decide +kernel
theorem dX0_clear_98 : decode cX0_clear 98 = .ok (.iastore, 1) := by decide +kernel
theorem dX0_clear_99 : decode cX0_clear 99 = .ok (.aload_n 0, 1) := by decide +kernel
theorem dX0_clear_100 : decode cX0_clear 100 = .ok (.getfield 36, 3) := by decide +kernel
theorem dX0_clear_103 : decode cX0_clear 103 = .ok (.iload_n 1, 1) := by decide +kernel
theorem dX0_clear_104 : decode cX0_clear 104 = .ok (.iconst 0, 1) := by decide +kernel
theorem dX0_clear_105 : decode cX0_clear 105 = .ok (.iastore, 1) := by decide +kernel
theorem dX0_clear_106 : decode cX0_clear 106 = .ok (.iinc 1 1, 3) := by decide +kernel
theorem dX0_clear_109 : decode cX0_clear 109 = .ok (.goto (-72), 3) := by decide +kernel
theorem dX0_clear_112 : decode cX0_clear 112 = .ok (.return_, 1) := by decide +kernel
theorem dX0_copyFrom_0 : decode cX0_copyFrom 0 = .ok (.aload_n 0, 1) := by decide +kernel
theorem dX0_copyFrom_1 : decode cX0_copyFrom 1 = .ok (.aload_n 1, 1) := by decide +kernel
theorem dX0_copyFrom_2 : decode cX0_copyFrom 2 = .ok (.getfield 52, 3) := by decide +kernel
theorem dX0_copyFrom_5 : decode cX0_copyFrom 5 = .ok (.putfield 52, 3) := by decide +kernel
theorem dX0_copyFrom_8 : decode cX0_copyFrom 8 = .ok (.aload_n 0, 1) := by decide +kernel
theorem dX0_copyFrom_9 : decode cX0_copyFrom 9 = .ok (.aload_n 1, 1) := by decide +kernel
theorem dX0_copyFrom_10 : decode cX0_copyFrom 10 = .ok (.getfield 55, 3) := by decide +kernel
theorem dX0_copyFrom_13 : decode cX0_copyFrom 13 = .ok (.putfield 55, 3) := by decide +kernel
theorem dX0_copyFrom_16 : decode cX0_copyFrom 16 = .ok (.aload_n 0, 1) := by decide +kernel
theorem dX0_copyFrom_17 : decode cX0_copyFrom 17 = .ok (.aload_n 1, 1) := by decide +kernel
theorem dX0_copyFrom_18 : decode cX0_copyFrom 18 = .ok (.getfield 58, 3) := by decide +kernel
theorem dX0_copyFrom_21 : decode cX0_copyFrom 21 = .ok (.putfield 58, 3) := by decide +kernel
theorem dX0_copyFrom_24 : decode cX0_copyFrom 24 = .ok (.aload_n 0, 1) := by decide +kernel
theorem dX0_copyFrom_25 : decode cX0_copyFrom 25 = .ok (.aload_n 1, 1) := by decide +kernel
theorem dX0_copyFrom_26 : decode cX0_copyFrom 26 = .ok (.getfield 61, 3) := by decide +kernel
theorem dX0_copyFrom_29 : decode cX0_copyFrom 29 = .ok (.putfield 61, 3) := by decide +kernel
theorem dX0_copyFrom_32 : decode cX0_copyFrom 32 = .ok (.aload_n 0, 1) := by decide +kernel
theorem dX0_copyFrom_33 : decode cX0_copyFrom 33 = .ok (.aload_n 1, 1) := by decide +kernel
theorem dX0_copyFrom_34 : decode cX0_copyFrom 34 = .ok (.getfield 42, 3) := by decide +kernel
theorem dX0_copyFrom_37 : decode cX0_copyFrom 37 = .ok (.putfield 42, 3) := by decide +kernel
theorem dX0_copyFrom_40 : decode cX0_copyFrom 40 = .ok (.aload_n 0, 1) := by decide +kernel
theorem dX0_copyFrom_41 : decode cX0_copyFrom 41 = .ok (.aload_n 1, 1) := by decide +kernel
theorem dX0_copyFrom_42 : decode cX0_copyFrom 42 = .ok (.getfield 46, 3) := by decide +kernel
theorem dX0_copyFrom_45 : decode cX0_copyFrom 45 = .ok (.putfield 46, 3) := by decide +kernel
theorem dX0_copyFrom_48 : decode cX0_copyFrom 48 = .ok (.aload_n 0, 1) := by decide +kernel
theorem dX0_copyFrom_49 : decode cX0_copyFrom 49 = .ok (.aload_n 1, 1) := by decide +kernel
theorem dX0_copyFrom_50 : decode cX0_copyFrom 50 = .ok (.getfield 64, 3) := by decide +kernel
theorem dX0_copyFrom_53 : decode cX0_copyFrom 53 = .ok (.putfield 64, 3) := by decide +kernel
theorem dX0_copyFrom_56 : decode cX0_copyFrom 56 = .ok (.aload_n 0, 1) := by decide +kernel
theorem dX0_copyFrom_57 : decode cX0_copyFrom 57 = .ok (.aload_n 1, 1) := by decide +kernel
theorem dX0_copyFrom_58 : decode cX0_copyFrom 58 = .ok (.getfield 67, 3) := by decide +kernel
theorem dX0_copyFrom_61 : decode cX0_copyFrom 61 = .ok (.putfield 67, 3) := by decide +kernel
theorem dX0_copyFrom_64 : decode cX0_copyFrom 64 = .ok (.aload_n 0, 1) := by decide +kernel
theorem dX0_copyFrom_65 : decode cX0_copyFrom 65 = .ok (.aload_n 1, 1) := by decide +kernel
theorem dX0_copyFrom_66 : decode cX0_copyFrom 66 = .ok (.getfield 70, 3) := by decide +kernel
theorem dX0_copyFrom_69 : decode cX0_copyFrom 69 = .ok (.putfield 70, 3) := by decide +kernel
theorem dX0_copyFrom_72 : decode cX0_copyFrom 72 = .ok (.iconst 0, 1) := by decide +kernel
theorem dX0_copyFrom_73 : decode cX0_copyFrom 73 = .ok (.istore_n 2, 1) := by decide +kernel
theorem dX0_copyFrom_74 : decode cX0_copyFrom 74 = .ok (.iload_n 2, 1) := by decide +kernel
theorem dX0_copyFrom_75 : decode cX0_copyFrom 75 = .ok (.bipush 8, 2) := by decide +kernel
theorem dX0_copyFrom_77 : decode cX0_copyFrom 77 = .ok (.if_icmp .ge 117, 3) := by decide +kernel
theorem dX0_copyFrom_80 : decode cX0_copyFrom 80 = .ok (.aload_n 0, 1) := by decide +kernel
theorem dX0_copyFrom_81 : decode cX0_copyFrom 81 = .ok (.getfield 9, 3) := by decide +kernel
theorem dX0_copyFrom_84 : decode cX0_copyFrom 84 = .ok (.iload_n 2, 1) := by decide +kernel
theorem dX0_copyFrom_85 : decode cX0_copyFrom 85 = .ok (.aload_n 1, 1) := by decide +kernel
theorem dX0_copyFrom_86 : decode cX0_copyFrom 86 = .ok (.getfield 9, 3) := by decide +kernel
theorem dX0_copyFrom_89 : decode cX0_copyFrom 89 = .ok (.iload_n 2, 1) := by decide +kernel
theorem dX0_copyFrom_90 : decode cX0_copyFrom 90 = .ok (.iaload, 1) := by decide +kernel
theorem dX0_copyFrom_91 : decode cX0_copyFrom 91 = .ok (.iastore, 1) := by decide +kernel
theorem dX0_copyFrom_92 : decode cX0_copyFrom 92 = .ok (.aload_n 0, 1) := by decide +kernel
theorem dX0_copyFrom_93 : decode cX0_copyFrom 93 = .ok (.getfield 15, 3) := by decide +kernel
theorem dX0_copyFrom_96 : decode cX0_copyFrom 96 = .ok (.iload_n 2, 1) := by decide +kernel
theorem dX0_copyFrom_97 : decode cX0_copyFrom 97 = .ok (.aload_n 1, 1) := by decide +kernel
theorem dX0_copyFrom_98 : decode cX0_copyFrom 98 = .ok (.getfield 15, 3) := by decide +kernel
theorem dX0_copyFrom_101 : decode cX0_copyFrom 101 = .ok (.iload_n 2, 1) := by decide +kernel
theorem dX0_copyFrom_102 : decode cX0_copyFrom 102 = .ok (.iaload, 1) := by decide +kernel
theorem dX0_copyFrom_103 : decode cX0_copyFrom 103 = .ok (.iastore, 1) := by decide +kernel
theorem dX0_copyFrom_104 : decode cX0_copyFrom 104 = .ok (.aload_n 0, 1) := by decide +kernel
theorem dX0_copyFrom_105 : decode cX0_copyFrom 105 = .ok (.getfield 18, 3) := by decide +kernel
theorem dX0_copyFrom_108 : decode cX0_copyFrom 108 = .ok (.iload_n 2, 1) := by decide +kernel
theorem dX0_copyFrom_109 : decode cX0_copyFrom 109 = .ok (.aload_n 1, 1) := by decide +kernel
theorem dX0_copyFrom_110 : decode cX0_copyFrom 110 = .ok (.getfield 18, 3) := by decide +kernel
theorem dX0_copyFrom_113 : decode cX0_copyFrom 113 = .ok (.iload_n 2, 1) := by decide +kernel
theorem dX0_copyFrom_114 : decode cX0_copyFrom 114 = .ok (.iaload, 1) := by decide +kernel
theorem dX0_copyFrom_115 : decode cX0_copyFrom 115 = .ok (.iastore, 1) := by decide +kernel
theorem dX0_copyFrom_116 : decode cX0_copyFrom 116 = .ok (.aload_n 0, 1) := by decide +kernel
theorem dX0_copyFrom_117 : decode cX0_copyFrom 117 = .ok (.getfield 21, 3) := by decide +kernel
theorem dX0_copyFrom_120 : decode cX0_copyFrom 120 = .ok (.iload_n 2, 1) := by decide +kernel
theorem dX0_copyFrom_121 : decode cX0_copyFrom 121 = .ok (.aload_n 1, 1) := by decide +kernel
theorem dX0_copyFrom_122 : decode cX0_copyFrom 122 = .ok (.getfield 21, 3) := by decide +kernel
theorem dX0_copyFrom_125 : decode cX0_copyFrom 125 = .ok (.iload_n 2, 1) := by decide +kernel
theorem dX0_copyFrom_126 : decode cX0_copyFrom 126 = .ok (.iaload, 1) := by decide +kernel
theorem dX0_copyFrom_127 : decode cX0_copyFrom 127 = .ok (.iastore, 1) := by decide +kernel
theorem dX0_copyFrom_128 : decode cX0_copyFrom 128 = .ok (.aload_n 0, 1) := by decide +kernel
theorem dX0_copyFrom_129 : decode cX0_copyFrom 129 = .ok (.getfield 24, 3) := by decide +kernel
theorem dX0_copyFrom_132 : decode cX0_copyFrom 132 = .ok (.iload_n 2, 1) := by decide +kernel
theorem dX0_copyFrom_133 : decode cX0_copyFrom 133 = .ok (.aload_n 1, 1) := by decide +kernel
theorem dX0_copyFrom_134 : decode cX0_copyFrom 134 = .ok (.getfield 24, 3) := by decide +kernel
theorem dX0_copyFrom_137 : decode cX0_copyFrom 137 = .ok (.iload_n 2, 1) := by decide +kernel
theorem dX0_copyFrom_138 : decode cX0_copyFrom 138 = .ok (.iaload, 1) := by decide +kernel
theorem dX0_copyFrom_139 : decode cX0_copyFrom 139 = .ok (.iastore, 1) := by decide +kernel
theorem dX0_copyFrom_140 : decode cX0_copyFrom 140 = .ok (.aload_n 0, 1) := by decide +kernel
theorem dX0_copyFrom_141 : decode cX0_copyFrom 141 = .ok (.getfield 27, 3) := by decide +kernel
theorem dX0_copyFrom_144 : decode cX0_copyFrom 144 = .ok (.iload_n 2, 1) := by decide +kernel
theorem dX0_copyFrom_145 : decode cX0_copyFrom 145 = .ok (.aload_n 1, 1) := by decide +kernel
theorem dX0_copyFrom_146 : decode cX0_copyFrom 146 = .ok (.getfield 27, 3) := by decide +kernel
theorem dX0_copyFrom_149 : decode cX0_copyFrom 149 = .ok (.iload_n 2, 1) := by decide +kernel
theorem dX0_copyFrom_150 : decode cX0_copyFrom 150 = .ok (.iaload, 1) := by decide +kernel
theorem dX0_copyFrom_151 : decode cX0_copyFrom 151 = .ok (.iastore, 1) := by decide +kernel
theorem dX0_copyFrom_152 : decode cX0_copyFrom 152 = .ok (.aload_n 0, 1) := by decide +kernel
theorem dX0_copyFrom_153 : decode cX0_copyFrom 153 = .ok (.getfield 30, 3) := by decide +kernel
theorem dX0_copyFrom_156 : decode cX0_copyFrom 156 = .ok (.iload_n 2, 1) := by decide +kernel
theorem dX0_copyFrom_157 : decode cX0_copyFrom 157 = .ok (.aload_n 1, 1) := by decide +kernel
theorem dX0_copyFrom_158 : decode cX0_copyFrom 158 = .ok (.getfield 30, 3) := by decide +kernel
theorem dX0_copyFrom_161 : decode cX0_copyFrom 161 = .ok (.iload_n 2, 1) := by decide +kernel
theorem dX0_copyFrom_162 : decode cX0_copyFrom 162 = .ok (.iaload, 1) := by decide +kernel
theorem dX0_copyFrom_163 : decode cX0_copyFrom 163 = .ok (.iastore, 1) := by decide +kernel
theorem dX0_copyFrom_164 : decode cX0_copyFrom 164 = .ok (.aload_n 0, 1) := by decide +kernel
theorem dX0_copyFrom_165 : decode cX0_copyFrom 165 = .ok (.getfield 33, 3) := by decide +kernel
theorem dX0_copyFrom_168 : decode cX0_copyFrom 168 = .ok (.iload_n 2, 1) := by decide +kernel
theorem dX0_copyFrom_169 : decode cX0_copyFrom 169 = .ok (.aload_n 1, 1) := by decide +kernel
theorem dX0_copyFrom_170 : decode cX0_copyFrom 170 = .ok (.getfield 33, 3) := by decide +kernel
theorem dX0_copyFrom_173 : decode cX0_copyFrom 173 = .ok (.iload_n 2, 1) := by decide +kernel
theorem dX0_copyFrom_174 : decode cX0_copyFrom 174 = .ok (.iaload, 1) := by decide +kernel
theorem dX0_copyFrom_175 : decode cX0_copyFrom 175 = .ok (.iastore, 1) := by decide +kernel
theorem dX0_copyFrom_176 : decode cX0_copyFrom 176 = .ok (.aload_n 0, 1) := by decide +kernel
theorem dX0_copyFrom_177 : decode cX0_copyFrom 177 = .ok (.getfield 36, 3) := by decide +kernel
theorem dX0_copyFrom_180 : decode cX0_copyFrom 180 = .ok (.iload_n 2, 1) := by decide +kernel
theorem dX0_copyFrom_181 : decode cX0_copyFrom 181 = .ok (.aload_n 1, 1) := by decide +kernel
theorem dX0_copyFrom_182 : decode cX0_copyFrom 182 = .ok (.getfield 36, 3) := by decide +kernel
theorem dX0_copyFrom_185 : decode cX0_copyFrom 185 = .ok (.iload_n 2, 1) := by decide +kernel
theorem dX0_copyFrom_186 : decode cX0_copyFrom 186 = .ok (.iaload, 1) := by decide +kernel
theorem dX0_copyFrom_187 : decode cX0_copyFrom 187 = .ok (.iastore, 1) := by decide +kernel
theorem dX0_copyFrom_188 : decode cX0_copyFrom 188 = .ok (.iinc 2 1, 3) := by decide +kernel
theorem dX0_copyFrom_191 : decode cX0_copyFrom 191 = .ok (.goto (-117), 3) := by decide +kernel
theorem dX0_copyFrom_194 : decode cX0_copyFrom 194 = .ok (.return_, 1) := by decide +kernel
theorem dX0_isPlace_0 : decode cX0_isPlace 0 = .ok (.iload_n 0, 1) := by decide +kernel
theorem dX0_isPlace_1 : decode cX0_isPlace 1 = .ok (.ifCond .lt 13, 3) := by decide +kernel
theorem dX0_isPlace_4 : decode cX0_isPlace 4 = .ok (.iload_n 0, 1) := by decide +kernel
theorem dX0_isPlace_5 : decode cX0_isPlace 5 = .ok (.bipush 8, 2) := by decide +kernel
theorem dX0_isPlace_7 : decode cX0_isPlace 7 = .ok (.if_icmp .ge 7, 3) := by decide +kernel
theorem dX0_isPlace_10 : decode cX0_isPlace 10 = .ok (.iconst 1, 1) := by decide +kernel
theorem dX0_isPlace_11 : decode cX0_isPlace 11 = .ok (.goto 4, 3) := by decide +kernel
theorem dX0_isPlace_14 : decode cX0_isPlace 14 = .ok (.iconst 0, 1) := by decide +kernel
theorem dX0_isPlace_15 : decode cX0_isPlace 15 = .ok (.ireturn, 1) := by decide +kernel
theorem dX0_has_0 : decode cX0_has 0 = .ok (.iload_n 1, 1) := by decide +kernel
theorem dX0_has_1 : decode cX0_has 1 = .ok (.invokestatic 73, 3) := by decide +kernel
theorem dX0_has_4 : decode cX0_has 4 = .ok (.ifCond .eq 15, 3) := by decide +kernel
theorem dX0_has_7 : decode cX0_has 7 = .ok (.iload_n 1, 1) := by decide +kernel
theorem dX0_has_8 : decode cX0_has 8 = .ok (.aload_n 0, 1) := by decide +kernel
theorem dX0_has_9 : decode cX0_has 9 = .ok (.getfield 52, 3) := by decide +kernel
theorem dX0_has_12 : decode cX0_has 12 = .ok (.if_icmp .ge 7, 3) := by decide +kernel
theorem dX0_has_15 : decode cX0_has 15 = .ok (.iconst 1, 1) := by decide +kernel
theorem dX0_has_16 : decode cX0_has 16 = .ok (.goto 4, 3) := by decide +kernel
theorem dX0_has_19 : decode cX0_has 19 = .ok (.iconst 0, 1) := by decide +kernel
theorem dX0_has_20 : decode cX0_has 20 = .ok (.ireturn, 1) := by decide +kernel
theorem dX0_addIsland_0 : decode cX0_addIsland 0 = .ok (.aload_n 0, 1) := by decide +kernel
theorem dX0_addIsland_1 : decode cX0_addIsland 1 = .ok (.getfield 52, 3) := by decide +kernel
theorem dX0_addIsland_4 : decode cX0_addIsland 4 = .ok (.istore 6, 2) := by decide +kernel
theorem dX0_addIsland_6 : decode cX0_addIsland 6 = .ok (.iload 6, 2) := by decide +kernel
theorem dX0_addIsland_8 : decode cX0_addIsland 8 = .ok (.invokestatic 73, 3) := by decide +kernel
theorem dX0_addIsland_11 : decode cX0_addIsland 11 = .ok (.ifCond .ne 4, 3) := by decide +kernel
theorem dX0_addIsland_14 : decode cX0_addIsland 14 = .ok (.return_, 1) := by decide +kernel
theorem dX0_addIsland_15 : decode cX0_addIsland 15 = .ok (.aload_n 0, 1) := by decide +kernel
theorem dX0_addIsland_16 : decode cX0_addIsland 16 = .ok (.dup, 1) := by decide +kernel
theorem dX0_addIsland_17 : decode cX0_addIsland 17 = .ok (.getfield 52, 3) := by decide +kernel
theorem dX0_addIsland_20 : decode cX0_addIsland 20 = .ok (.iconst 1, 1) := by decide +kernel
theorem dX0_addIsland_21 : decode cX0_addIsland 21 = .ok (.iadd, 1) := by decide +kernel
theorem dX0_addIsland_22 : decode cX0_addIsland 22 = .ok (.putfield 52, 3) := by decide +kernel
theorem dX0_addIsland_25 : decode cX0_addIsland 25 = .ok (.iload_n 1, 1) := by decide +kernel
theorem dX0_addIsland_26 : decode cX0_addIsland 26 = .ok (.ifCond .eq 16, 3) := by decide +kernel
theorem dX0_addIsland_29 : decode cX0_addIsland 29 = .ok (.aload_n 0, 1) := by decide +kernel
theorem dX0_addIsland_30 : decode cX0_addIsland 30 = .ok (.dup, 1) := by decide +kernel
theorem dX0_addIsland_31 : decode cX0_addIsland 31 = .ok (.getfield 55, 3) := by decide +kernel
theorem dX0_addIsland_34 : decode cX0_addIsland 34 = .ok (.iconst 1, 1) := by decide +kernel
theorem dX0_addIsland_35 : decode cX0_addIsland 35 = .ok (.iload 6, 2) := by decide +kernel
theorem dX0_addIsland_37 : decode cX0_addIsland 37 = .ok (.ishl, 1) := by decide +kernel
theorem dX0_addIsland_38 : decode cX0_addIsland 38 = .ok (.ior, 1) := by decide +kernel
theorem dX0_addIsland_39 : decode cX0_addIsland 39 = .ok (.putfield 55, 3) := by decide +kernel
theorem dX0_addIsland_42 : decode cX0_addIsland 42 = .ok (.iload_n 2, 1) := by decide +kernel
theorem dX0_addIsland_43 : decode cX0_addIsland 43 = .ok (.ifCond .eq 16, 3) := by decide +kernel
theorem dX0_addIsland_46 : decode cX0_addIsland 46 = .ok (.aload_n 0, 1) := by decide +kernel
theorem dX0_addIsland_47 : decode cX0_addIsland 47 = .ok (.dup, 1) := by decide +kernel
theorem dX0_addIsland_48 : decode cX0_addIsland 48 = .ok (.getfield 58, 3) := by decide +kernel
theorem dX0_addIsland_51 : decode cX0_addIsland 51 = .ok (.iconst 1, 1) := by decide +kernel
theorem dX0_addIsland_52 : decode cX0_addIsland 52 = .ok (.iload 6, 2) := by decide +kernel
theorem dX0_addIsland_54 : decode cX0_addIsland 54 = .ok (.ishl, 1) := by decide +kernel
theorem dX0_addIsland_55 : decode cX0_addIsland 55 = .ok (.ior, 1) := by decide +kernel
theorem dX0_addIsland_56 : decode cX0_addIsland 56 = .ok (.putfield 58, 3) := by decide +kernel
theorem dX0_addIsland_59 : decode cX0_addIsland 59 = .ok (.aload_n 0, 1) := by decide +kernel
theorem dX0_addIsland_60 : decode cX0_addIsland 60 = .ok (.getfield 9, 3) := by decide +kernel
theorem dX0_addIsland_63 : decode cX0_addIsland 63 = .ok (.iload 6, 2) := by decide +kernel
theorem dX0_addIsland_65 : decode cX0_addIsland 65 = .ok (.iload_n 3, 1) := by decide +kernel
theorem dX0_addIsland_66 : decode cX0_addIsland 66 = .ok (.iastore, 1) := by decide +kernel
theorem dX0_addIsland_67 : decode cX0_addIsland 67 = .ok (.aload_n 0, 1) := by decide +kernel
theorem dX0_addIsland_68 : decode cX0_addIsland 68 = .ok (.getfield 15, 3) := by decide +kernel
theorem dX0_addIsland_71 : decode cX0_addIsland 71 = .ok (.iload 6, 2) := by decide +kernel
theorem dX0_addIsland_73 : decode cX0_addIsland 73 = .ok (.iload 4, 2) := by decide +kernel
theorem dX0_addIsland_75 : decode cX0_addIsland 75 = .ok (.iastore, 1) := by decide +kernel
theorem dX0_addIsland_76 : decode cX0_addIsland 76 = .ok (.aload_n 0, 1) := by decide +kernel
theorem dX0_addIsland_77 : decode cX0_addIsland 77 = .ok (.getfield 18, 3) := by decide +kernel
theorem dX0_addIsland_80 : decode cX0_addIsland 80 = .ok (.iload 6, 2) := by decide +kernel
theorem dX0_addIsland_82 : decode cX0_addIsland 82 = .ok (.iload 5, 2) := by decide +kernel
theorem dX0_addIsland_84 : decode cX0_addIsland 84 = .ok (.iastore, 1) := by decide +kernel
theorem dX0_addIsland_85 : decode cX0_addIsland 85 = .ok (.aload_n 0, 1) := by decide +kernel
theorem dX0_addIsland_86 : decode cX0_addIsland 86 = .ok (.getfield 21, 3) := by decide +kernel
theorem dX0_addIsland_89 : decode cX0_addIsland 89 = .ok (.iload 6, 2) := by decide +kernel
theorem dX0_addIsland_91 : decode cX0_addIsland 91 = .ok (.iconst 0, 1) := by decide +kernel
theorem dX0_addIsland_92 : decode cX0_addIsland 92 = .ok (.iastore, 1) := by decide +kernel
theorem dX0_addIsland_93 : decode cX0_addIsland 93 = .ok (.return_, 1) := by decide +kernel
theorem dX0_islandsThatAre_0 : decode cX0_islandsThatAre 0 = .ok (.iconst 0, 1) := by decide +kernel
theorem dX0_islandsThatAre_1 : decode cX0_islandsThatAre 1 = .ok (.istore_n 2, 1) := by decide +kernel
theorem dX0_islandsThatAre_2 : decode cX0_islandsThatAre 2 = .ok (.iconst 0, 1) := by decide +kernel
theorem dX0_islandsThatAre_3 : decode cX0_islandsThatAre 3 = .ok (.istore_n 3, 1) := by decide +kernel
theorem dX0_islandsThatAre_4 : decode cX0_islandsThatAre 4 = .ok (.iload_n 3, 1) := by decide +kernel
theorem dX0_islandsThatAre_5 : decode cX0_islandsThatAre 5 = .ok (.bipush 8, 2) := by decide +kernel
theorem dX0_islandsThatAre_7 : decode cX0_islandsThatAre 7 = .ok (.if_icmp .ge 25, 3) := by decide +kernel
theorem dX0_islandsThatAre_10 : decode cX0_islandsThatAre 10 = .ok (.aload_n 0, 1) := by decide +kernel
theorem dX0_islandsThatAre_11 : decode cX0_islandsThatAre 11 = .ok (.getfield 21, 3) := by decide +kernel
theorem dX0_islandsThatAre_14 : decode cX0_islandsThatAre 14 = .ok (.iload_n 3, 1) := by decide +kernel
theorem dX0_islandsThatAre_15 : decode cX0_islandsThatAre 15 = .ok (.iaload, 1) := by decide +kernel
theorem dX0_islandsThatAre_16 : decode cX0_islandsThatAre 16 = .ok (.iload_n 1, 1) := by decide +kernel
theorem dX0_islandsThatAre_17 : decode cX0_islandsThatAre 17 = .ok (.if_icmp .ne 9, 3) := by decide +kernel
theorem dX0_islandsThatAre_20 : decode cX0_islandsThatAre 20 = .ok (.iload_n 2, 1) := by decide +kernel
theorem dX0_islandsThatAre_21 : decode cX0_islandsThatAre 21 = .ok (.iconst 1, 1) := by decide +kernel
theorem dX0_islandsThatAre_22 : decode cX0_islandsThatAre 22 = .ok (.iload_n 3, 1) := by decide +kernel
theorem dX0_islandsThatAre_23 : decode cX0_islandsThatAre 23 = .ok (.ishl, 1) := by decide +kernel
theorem dX0_islandsThatAre_24 : decode cX0_islandsThatAre 24 = .ok (.ior, 1) := by decide +kernel
theorem dX0_islandsThatAre_25 : decode cX0_islandsThatAre 25 = .ok (.istore_n 2, 1) := by decide +kernel
theorem dX0_islandsThatAre_26 : decode cX0_islandsThatAre 26 = .ok (.iinc 3 1, 3) := by decide +kernel
theorem dX0_islandsThatAre_29 : decode cX0_islandsThatAre 29 = .ok (.goto (-25), 3) := by decide +kernel
theorem dX0_islandsThatAre_32 : decode cX0_islandsThatAre 32 = .ok (.iload_n 2, 1) := by decide +kernel
theorem dX0_islandsThatAre_33 : decode cX0_islandsThatAre 33 = .ok (.ireturn, 1) := by decide +kernel
theorem dX0_readersOf_0 : decode cX0_readersOf 0 = .ok (.iconst 0, 1) := by decide +kernel
theorem dX0_readersOf_1 : decode cX0_readersOf 1 = .ok (.istore_n 2, 1) := by decide +kernel
theorem dX0_readersOf_2 : decode cX0_readersOf 2 = .ok (.iconst 0, 1) := by decide +kernel
theorem dX0_readersOf_3 : decode cX0_readersOf 3 = .ok (.istore_n 3, 1) := by decide +kernel
theorem dX0_readersOf_4 : decode cX0_readersOf 4 = .ok (.iload_n 3, 1) := by decide +kernel
theorem dX0_readersOf_5 : decode cX0_readersOf 5 = .ok (.bipush 8, 2) := by decide +kernel
theorem dX0_readersOf_7 : decode cX0_readersOf 7 = .ok (.if_icmp .ge 28, 3) := by decide +kernel
theorem dX0_readersOf_10 : decode cX0_readersOf 10 = .ok (.aload_n 0, 1) := by decide +kernel
theorem dX0_readersOf_11 : decode cX0_readersOf 11 = .ok (.getfield 18, 3) := by decide +kernel
theorem dX0_readersOf_14 : decode cX0_readersOf 14 = .ok (.iload_n 3, 1) := by decide +kernel
theorem dX0_readersOf_15 : decode cX0_readersOf 15 = .ok (.iaload, 1) := by decide +kernel
theorem dX0_readersOf_16 : decode cX0_readersOf 16 = .ok (.iload_n 1, 1) := by decide +kernel
theorem dX0_readersOf_17 : decode cX0_readersOf 17 = .ok (.invokestatic 77, 3) := by decide +kernel
theorem dX0_readersOf_20 : decode cX0_readersOf 20 = .ok (.ifCond .eq 9, 3) := by decide +kernel
theorem dX0_readersOf_23 : decode cX0_readersOf 23 = .ok (.iload_n 2, 1) := by decide +kernel
theorem dX0_readersOf_24 : decode cX0_readersOf 24 = .ok (.iconst 1, 1) := by decide +kernel
theorem dX0_readersOf_25 : decode cX0_readersOf 25 = .ok (.iload_n 3, 1) := by decide +kernel
theorem dX0_readersOf_26 : decode cX0_readersOf 26 = .ok (.ishl, 1) := by decide +kernel
theorem dX0_readersOf_27 : decode cX0_readersOf 27 = .ok (.ior, 1) := by decide +kernel
theorem dX0_readersOf_28 : decode cX0_readersOf 28 = .ok (.istore_n 2, 1) := by decide +kernel
theorem dX0_readersOf_29 : decode cX0_readersOf 29 = .ok (.iinc 3 1, 3) := by decide +kernel
theorem dX0_readersOf_32 : decode cX0_readersOf 32 = .ok (.goto (-28), 3) := by decide +kernel
theorem dX0_readersOf_35 : decode cX0_readersOf 35 = .ok (.iload_n 2, 1) := by decide +kernel
theorem dX0_readersOf_36 : decode cX0_readersOf 36 = .ok (.ireturn, 1) := by decide +kernel
theorem dX0_isHeard_0 : decode cX0_isHeard 0 = .ok (.iload_n 1, 1) := by decide +kernel
theorem dX0_isHeard_1 : decode cX0_isHeard 1 = .ok (.invokestatic 73, 3) := by decide +kernel
theorem dX0_isHeard_4 : decode cX0_isHeard 4 = .ok (.ifCond .eq 26, 3) := by decide +kernel
theorem dX0_isHeard_7 : decode cX0_isHeard 7 = .ok (.aload_n 0, 1) := by decide +kernel
theorem dX0_isHeard_8 : decode cX0_isHeard 8 = .ok (.getfield 21, 3) := by decide +kernel
theorem dX0_isHeard_11 : decode cX0_isHeard 11 = .ok (.iload_n 1, 1) := by decide +kernel
theorem dX0_isHeard_12 : decode cX0_isHeard 12 = .ok (.iaload, 1) := by decide +kernel
theorem dX0_isHeard_13 : decode cX0_isHeard 13 = .ok (.ifCond .eq 13, 3) := by decide +kernel
theorem dX0_isHeard_16 : decode cX0_isHeard 16 = .ok (.aload_n 0, 1) := by decide +kernel
theorem dX0_isHeard_17 : decode cX0_isHeard 17 = .ok (.getfield 21, 3) := by decide +kernel
theorem dX0_isHeard_20 : decode cX0_isHeard 20 = .ok (.iload_n 1, 1) := by decide +kernel
theorem dX0_isHeard_21 : decode cX0_isHeard 21 = .ok (.iaload, 1) := by decide +kernel
theorem dX0_isHeard_22 : decode cX0_isHeard 22 = .ok (.iconst 1, 1) := by decide +kernel
theorem dX0_isHeard_23 : decode cX0_isHeard 23 = .ok (.if_icmp .ne 7, 3) := by decide +kernel
theorem dX0_isHeard_26 : decode cX0_isHeard 26 = .ok (.iconst 1, 1) := by decide +kernel
theorem dX0_isHeard_27 : decode cX0_isHeard 27 = .ok (.goto 4, 3) := by decide +kernel
theorem dX0_isHeard_30 : decode cX0_isHeard 30 = .ok (.iconst 0, 1) := by decide +kernel
theorem dX0_isHeard_31 : decode cX0_isHeard 31 = .ok (.ireturn, 1) := by decide +kernel
theorem dX0_whatTells_0 : decode cX0_whatTells 0 = .ok (.iload_n 1, 1) := by decide +kernel
theorem dX0_whatTells_1 : decode cX0_whatTells 1 = .ok (.invokestatic 73, 3) := by decide +kernel
theorem dX0_whatTells_4 : decode cX0_whatTells 4 = .ok (.ifCond .ne 5, 3) := by decide +kernel
theorem dX0_whatTells_7 : decode cX0_whatTells 7 = .ok (.iconst 0, 1) := by decide +kernel
theorem dX0_whatTells_8 : decode cX0_whatTells 8 = .ok (.ireturn, 1) := by decide +kernel
theorem dX0_whatTells_9 : decode cX0_whatTells 9 = .ok (.aload_n 0, 1) := by decide +kernel
theorem dX0_whatTells_10 : decode cX0_whatTells 10 = .ok (.iload_n 1, 1) := by decide +kernel
theorem dX0_whatTells_11 : decode cX0_whatTells 11 = .ok (.invokevirtual 81, 3) := by decide +kernel
theorem dX0_whatTells_14 : decode cX0_whatTells 14 = .ok (.ifCond .eq 10, 3) := by decide +kernel
theorem dX0_whatTells_17 : decode cX0_whatTells 17 = .ok (.aload_n 0, 1) := by decide +kernel
theorem dX0_whatTells_18 : decode cX0_whatTells 18 = .ok (.getfield 24, 3) := by decide +kernel
theorem dX0_whatTells_21 : decode cX0_whatTells 21 = .ok (.iload_n 1, 1) := by decide +kernel
theorem dX0_whatTells_22 : decode cX0_whatTells 22 = .ok (.iaload, 1) := by decide +kernel
theorem dX0_whatTells_23 : decode cX0_whatTells 23 = .ok (.ireturn, 1) := by decide +kernel
theorem dX0_whatTells_24 : decode cX0_whatTells 24 = .ok (.aload_n 0, 1) := by decide +kernel
theorem dX0_whatTells_25 : decode cX0_whatTells 25 = .ok (.getfield 55, 3) := by decide +kernel
theorem dX0_whatTells_28 : decode cX0_whatTells 28 = .ok (.iload_n 1, 1) := by decide +kernel
theorem dX0_whatTells_29 : decode cX0_whatTells 29 = .ok (.invokestatic 77, 3) := by decide +kernel
theorem dX0_whatTells_32 : decode cX0_whatTells 32 = .ok (.ifCond .eq 7, 3) := by decide +kernel
theorem dX0_whatTells_35 : decode cX0_whatTells 35 = .ok (.iconst 0, 1) := by decide +kernel
theorem dX0_whatTells_36 : decode cX0_whatTells 36 = .ok (.goto 6, 3) := by decide +kernel
theorem dX0_whatTells_39 : decode cX0_whatTells 39 = .ok (.sipush 255, 3) := by decide +kernel
theorem dX0_whatTells_42 : decode cX0_whatTells 42 = .ok (.ireturn, 1) := by decide +kernel
theorem dX0_islandInQueue_0 : decode cX0_islandInQueue 0 = .ok (.iload_n 1, 1) := by decide +kernel
theorem dX0_islandInQueue_1 : decode cX0_islandInQueue 1 = .ok (.invokestatic 73, 3) := by decide +kernel
theorem dX0_islandInQueue_4 : decode cX0_islandInQueue 4 = .ok (.ifCond .eq 20, 3) := by decide +kernel
theorem dX0_islandInQueue_7 : decode cX0_islandInQueue 7 = .ok (.iload_n 1, 1) := by decide +kernel
theorem dX0_islandInQueue_8 : decode cX0_islandInQueue 8 = .ok (.aload_n 0, 1) := by decide +kernel
theorem dX0_islandInQueue_9 : decode cX0_islandInQueue 9 = .ok (.getfield 61, 3) := by decide +kernel
theorem dX0_islandInQueue_12 : decode cX0_islandInQueue 12 = .ok (.if_icmp .ge 12, 3) := by decide +kernel
theorem dX0_islandInQueue_15 : decode cX0_islandInQueue 15 = .ok (.aload_n 0, 1) := by decide +kernel
theorem dX0_islandInQueue_16 : decode cX0_islandInQueue 16 = .ok (.getfield 36, 3) := by decide +kernel
theorem dX0_islandInQueue_19 : decode cX0_islandInQueue 19 = .ok (.iload_n 1, 1) := by decide +kernel
theorem dX0_islandInQueue_20 : decode cX0_islandInQueue 20 = .ok (.iaload, 1) := by decide +kernel
theorem dX0_islandInQueue_21 : decode cX0_islandInQueue 21 = .ok (.goto 4, 3) := by decide +kernel
theorem dX0_islandInQueue_24 : decode cX0_islandInQueue 24 = .ok (.iconst (-1), 1) := by decide +kernel
theorem dX0_islandInQueue_25 : decode cX0_islandInQueue 25 = .ok (.ireturn, 1) := by decide +kernel
theorem dX0_placeInQueue_0 : decode cX0_placeInQueue 0 = .ok (.iconst 0, 1) := by decide +kernel
theorem dX0_placeInQueue_1 : decode cX0_placeInQueue 1 = .ok (.istore_n 2, 1) := by decide +kernel
theorem dX0_placeInQueue_2 : decode cX0_placeInQueue 2 = .ok (.iload_n 2, 1) := by decide +kernel
theorem dX0_placeInQueue_3 : decode cX0_placeInQueue 3 = .ok (.bipush 8, 2) := by decide +kernel
theorem dX0_placeInQueue_5 : decode cX0_placeInQueue 5 = .ok (.if_icmp .ge 29, 3) := by decide +kernel
theorem dX0_placeInQueue_8 : decode cX0_placeInQueue 8 = .ok (.iload_n 2, 1) := by decide +kernel
theorem dX0_placeInQueue_9 : decode cX0_placeInQueue 9 = .ok (.aload_n 0, 1) := by decide +kernel
theorem dX0_placeInQueue_10 : decode cX0_placeInQueue 10 = .ok (.getfield 61, 3) := by decide +kernel
theorem dX0_placeInQueue_13 : decode cX0_placeInQueue 13 = .ok (.if_icmp .ge 21, 3) := by decide +kernel
theorem dX0_placeInQueue_16 : decode cX0_placeInQueue 16 = .ok (.aload_n 0, 1) := by decide +kernel
theorem dX0_placeInQueue_17 : decode cX0_placeInQueue 17 = .ok (.getfield 36, 3) := by decide +kernel
theorem dX0_placeInQueue_20 : decode cX0_placeInQueue 20 = .ok (.iload_n 2, 1) := by decide +kernel
theorem dX0_placeInQueue_21 : decode cX0_placeInQueue 21 = .ok (.iaload, 1) := by decide +kernel
theorem dX0_placeInQueue_22 : decode cX0_placeInQueue 22 = .ok (.iload_n 1, 1) := by decide +kernel
theorem dX0_placeInQueue_23 : decode cX0_placeInQueue 23 = .ok (.if_icmp .ne 5, 3) := by decide +kernel
theorem dX0_placeInQueue_26 : decode cX0_placeInQueue 26 = .ok (.iload_n 2, 1) := by decide +kernel
theorem dX0_placeInQueue_27 : decode cX0_placeInQueue 27 = .ok (.ireturn, 1) := by decide +kernel
theorem dX0_placeInQueue_28 : decode cX0_placeInQueue 28 = .ok (.iinc 2 1, 3) := by decide +kernel
theorem dX0_placeInQueue_31 : decode cX0_placeInQueue 31 = .ok (.goto (-29), 3) := by decide +kernel
theorem dX0_placeInQueue_34 : decode cX0_placeInQueue 34 = .ok (.bipush (-6), 2) := by decide +kernel
theorem dX0_placeInQueue_36 : decode cX0_placeInQueue 36 = .ok (.ireturn, 1) := by decide +kernel
theorem dX0_risingLoad_0 : decode cX0_risingLoad 0 = .ok (.iconst 0, 1) := by decide +kernel
theorem dX0_risingLoad_1 : decode cX0_risingLoad 1 = .ok (.istore_n 1, 1) := by decide +kernel
theorem dX0_risingLoad_2 : decode cX0_risingLoad 2 = .ok (.iconst 0, 1) := by decide +kernel
theorem dX0_risingLoad_3 : decode cX0_risingLoad 3 = .ok (.istore_n 2, 1) := by decide +kernel
theorem dX0_risingLoad_4 : decode cX0_risingLoad 4 = .ok (.iload_n 2, 1) := by decide +kernel
theorem dX0_risingLoad_5 : decode cX0_risingLoad 5 = .ok (.bipush 8, 2) := by decide +kernel
theorem dX0_risingLoad_7 : decode cX0_risingLoad 7 = .ok (.if_icmp .ge 28, 3) := by decide +kernel
theorem dX0_risingLoad_10 : decode cX0_risingLoad 10 = .ok (.aload_n 0, 1) := by decide +kernel
theorem dX0_risingLoad_11 : decode cX0_risingLoad 11 = .ok (.getfield 21, 3) := by decide +kernel
theorem dX0_risingLoad_14 : decode cX0_risingLoad 14 = .ok (.iload_n 2, 1) := by decide +kernel
theorem dX0_risingLoad_15 : decode cX0_risingLoad 15 = .ok (.iaload, 1) := by decide +kernel
theorem dX0_risingLoad_16 : decode cX0_risingLoad 16 = .ok (.iconst 4, 1) := by decide +kernel
theorem dX0_risingLoad_17 : decode cX0_risingLoad 17 = .ok (.if_icmp .ne 12, 3) := by decide +kernel
theorem dX0_risingLoad_20 : decode cX0_risingLoad 20 = .ok (.iload_n 1, 1) := by decide +kernel
theorem dX0_risingLoad_21 : decode cX0_risingLoad 21 = .ok (.aload_n 0, 1) := by decide +kernel
theorem dX0_risingLoad_22 : decode cX0_risingLoad 22 = .ok (.getfield 15, 3) := by decide +kernel
theorem dX0_risingLoad_25 : decode cX0_risingLoad 25 = .ok (.iload_n 2, 1) := by decide +kernel
theorem dX0_risingLoad_26 : decode cX0_risingLoad 26 = .ok (.iaload, 1) := by decide +kernel
theorem dX0_risingLoad_27 : decode cX0_risingLoad 27 = .ok (.iadd, 1) := by decide +kernel
theorem dX0_risingLoad_28 : decode cX0_risingLoad 28 = .ok (.istore_n 1, 1) := by decide +kernel
theorem dX0_risingLoad_29 : decode cX0_risingLoad 29 = .ok (.iinc 2 1, 3) := by decide +kernel
theorem dX0_risingLoad_32 : decode cX0_risingLoad 32 = .ok (.goto (-28), 3) := by decide +kernel
theorem dX0_risingLoad_35 : decode cX0_risingLoad 35 = .ok (.iload_n 1, 1) := by decide +kernel
theorem dX0_risingLoad_36 : decode cX0_risingLoad 36 = .ok (.ireturn, 1) := by decide +kernel
theorem dX0_noiseSoFar_0 : decode cX0_noiseSoFar 0 = .ok (.iconst 0, 1) := by decide +kernel
theorem dX0_noiseSoFar_1 : decode cX0_noiseSoFar 1 = .ok (.istore_n 1, 1) := by decide +kernel
theorem dX0_noiseSoFar_2 : decode cX0_noiseSoFar 2 = .ok (.iconst 0, 1) := by decide +kernel
theorem dX0_noiseSoFar_3 : decode cX0_noiseSoFar 3 = .ok (.istore_n 2, 1) := by decide +kernel
theorem dX0_noiseSoFar_4 : decode cX0_noiseSoFar 4 = .ok (.iload_n 2, 1) := by decide +kernel
theorem dX0_noiseSoFar_5 : decode cX0_noiseSoFar 5 = .ok (.bipush 8, 2) := by decide +kernel
theorem dX0_noiseSoFar_7 : decode cX0_noiseSoFar 7 = .ok (.if_icmp .ge 18, 3) := by decide +kernel
theorem dX0_noiseSoFar_10 : decode cX0_noiseSoFar 10 = .ok (.iload_n 1, 1) := by decide +kernel
theorem dX0_noiseSoFar_11 : decode cX0_noiseSoFar 11 = .ok (.aload_n 0, 1) := by decide +kernel
theorem dX0_noiseSoFar_12 : decode cX0_noiseSoFar 12 = .ok (.getfield 33, 3) := by decide +kernel
theorem dX0_noiseSoFar_15 : decode cX0_noiseSoFar 15 = .ok (.iload_n 2, 1) := by decide +kernel
theorem dX0_noiseSoFar_16 : decode cX0_noiseSoFar 16 = .ok (.iaload, 1) := by decide +kernel
theorem dX0_noiseSoFar_17 : decode cX0_noiseSoFar 17 = .ok (.iadd, 1) := by decide +kernel
theorem dX0_noiseSoFar_18 : decode cX0_noiseSoFar 18 = .ok (.istore_n 1, 1) := by decide +kernel
theorem dX0_noiseSoFar_19 : decode cX0_noiseSoFar 19 = .ok (.iinc 2 1, 3) := by decide +kernel
theorem dX0_noiseSoFar_22 : decode cX0_noiseSoFar 22 = .ok (.goto (-18), 3) := by decide +kernel
theorem dX0_noiseSoFar_25 : decode cX0_noiseSoFar 25 = .ok (.iload_n 1, 1) := by decide +kernel
theorem dX0_noiseSoFar_26 : decode cX0_noiseSoFar 26 = .ok (.ireturn, 1) := by decide +kernel
theorem dX0_sumOfValues_0 : decode cX0_sumOfValues 0 = .ok (.iconst 0, 1) := by decide +kernel
theorem dX0_sumOfValues_1 : decode cX0_sumOfValues 1 = .ok (.istore_n 1, 1) := by decide +kernel
theorem dX0_sumOfValues_2 : decode cX0_sumOfValues 2 = .ok (.iconst 0, 1) := by decide +kernel
theorem dX0_sumOfValues_3 : decode cX0_sumOfValues 3 = .ok (.istore_n 2, 1) := by decide +kernel
theorem dX0_sumOfValues_4 : decode cX0_sumOfValues 4 = .ok (.iload_n 2, 1) := by decide +kernel
theorem dX0_sumOfValues_5 : decode cX0_sumOfValues 5 = .ok (.bipush 8, 2) := by decide +kernel
theorem dX0_sumOfValues_7 : decode cX0_sumOfValues 7 = .ok (.if_icmp .ge 18, 3) := by decide +kernel
theorem dX0_sumOfValues_10 : decode cX0_sumOfValues 10 = .ok (.iload_n 1, 1) := by decide +kernel
theorem dX0_sumOfValues_11 : decode cX0_sumOfValues 11 = .ok (.aload_n 0, 1) := by decide +kernel
theorem dX0_sumOfValues_12 : decode cX0_sumOfValues 12 = .ok (.getfield 24, 3) := by decide +kernel
theorem dX0_sumOfValues_15 : decode cX0_sumOfValues 15 = .ok (.iload_n 2, 1) := by decide +kernel
theorem dX0_sumOfValues_16 : decode cX0_sumOfValues 16 = .ok (.iaload, 1) := by decide +kernel
theorem dX0_sumOfValues_17 : decode cX0_sumOfValues 17 = .ok (.iadd, 1) := by decide +kernel
theorem dX0_sumOfValues_18 : decode cX0_sumOfValues 18 = .ok (.istore_n 1, 1) := by decide +kernel
theorem dX0_sumOfValues_19 : decode cX0_sumOfValues 19 = .ok (.iinc 2 1, 3) := by decide +kernel
theorem dX0_sumOfValues_22 : decode cX0_sumOfValues 22 = .ok (.goto (-18), 3) := by decide +kernel
theorem dX0_sumOfValues_25 : decode cX0_sumOfValues 25 = .ok (.iload_n 1, 1) := by decide +kernel
theorem dX0_sumOfValues_26 : decode cX0_sumOfValues 26 = .ok (.ireturn, 1) := by decide +kernel
theorem dX0_areAllAwake_0 : decode cX0_areAllAwake 0 = .ok (.aload_n 0, 1) := by decide +kernel
theorem dX0_areAllAwake_1 : decode cX0_areAllAwake 1 = .ok (.iconst 0, 1) := by decide +kernel
theorem dX0_areAllAwake_2 : decode cX0_areAllAwake 2 = .ok (.invokevirtual 84, 3) := by decide +kernel
theorem dX0_areAllAwake_5 : decode cX0_areAllAwake 5 = .ok (.invokestatic 88, 3) := by decide +kernel
theorem dX0_areAllAwake_8 : decode cX0_areAllAwake 8 = .ok (.aload_n 0, 1) := by decide +kernel
theorem dX0_areAllAwake_9 : decode cX0_areAllAwake 9 = .ok (.getfield 52, 3) := by decide +kernel
theorem dX0_areAllAwake_12 : decode cX0_areAllAwake 12 = .ok (.if_icmp .ne 7, 3) := by decide +kernel
theorem dX0_areAllAwake_15 : decode cX0_areAllAwake 15 = .ok (.iconst 1, 1) := by decide +kernel
theorem dX0_areAllAwake_16 : decode cX0_areAllAwake 16 = .ok (.goto 4, 3) := by decide +kernel
theorem dX0_areAllAwake_19 : decode cX0_areAllAwake 19 = .ok (.iconst 0, 1) := by decide +kernel
theorem dX0_areAllAwake_20 : decode cX0_areAllAwake 20 = .ok (.ireturn, 1) := by decide +kernel
theorem dX0_isAtRest_0 : decode cX0_isAtRest 0 = .ok (.iconst 0, 1) := by decide +kernel
theorem dX0_isAtRest_1 : decode cX0_isAtRest 1 = .ok (.istore_n 1, 1) := by decide +kernel
theorem dX0_isAtRest_2 : decode cX0_isAtRest 2 = .ok (.iload_n 1, 1) := by decide +kernel
theorem dX0_isAtRest_3 : decode cX0_isAtRest 3 = .ok (.bipush 8, 2) := by decide +kernel
theorem dX0_isAtRest_5 : decode cX0_isAtRest 5 = .ok (.if_icmp .ge 41, 3) := by decide +kernel
theorem dX0_isAtRest_8 : decode cX0_isAtRest 8 = .ok (.aload_n 0, 1) := by decide +kernel
theorem dX0_isAtRest_9 : decode cX0_isAtRest 9 = .ok (.getfield 21, 3) := by decide +kernel
theorem dX0_isAtRest_12 : decode cX0_isAtRest 12 = .ok (.iload_n 1, 1) := by decide +kernel
theorem dX0_isAtRest_13 : decode cX0_isAtRest 13 = .ok (.iaload, 1) := by decide +kernel
theorem dX0_isAtRest_14 : decode cX0_isAtRest 14 = .ok (.iconst 1, 1) := by decide +kernel
theorem dX0_isAtRest_15 : decode cX0_isAtRest 15 = .ok (.if_icmp .eq 23, 3) := by decide +kernel
theorem dX0_isAtRest_18 : decode cX0_isAtRest 18 = .ok (.aload_n 0, 1) := by decide +kernel
theorem dX0_isAtRest_19 : decode cX0_isAtRest 19 = .ok (.getfield 21, 3) := by decide +kernel
theorem dX0_isAtRest_22 : decode cX0_isAtRest 22 = .ok (.iload_n 1, 1) := by decide +kernel
theorem dX0_isAtRest_23 : decode cX0_isAtRest 23 = .ok (.iaload, 1) := by decide +kernel
theorem dX0_isAtRest_24 : decode cX0_isAtRest 24 = .ok (.iconst 3, 1) := by decide +kernel
theorem dX0_isAtRest_25 : decode cX0_isAtRest 25 = .ok (.if_icmp .eq 13, 3) := by decide +kernel
theorem dX0_isAtRest_28 : decode cX0_isAtRest 28 = .ok (.aload_n 0, 1) := by decide +kernel
theorem dX0_isAtRest_29 : decode cX0_isAtRest 29 = .ok (.getfield 21, 3) := by decide +kernel
theorem dX0_isAtRest_32 : decode cX0_isAtRest 32 = .ok (.iload_n 1, 1) := by decide +kernel
theorem dX0_isAtRest_33 : decode cX0_isAtRest 33 = .ok (.iaload, 1) := by decide +kernel
theorem dX0_isAtRest_34 : decode cX0_isAtRest 34 = .ok (.iconst 4, 1) := by decide +kernel
theorem dX0_isAtRest_35 : decode cX0_isAtRest 35 = .ok (.if_icmp .ne 5, 3) := by decide +kernel
theorem dX0_isAtRest_38 : decode cX0_isAtRest 38 = .ok (.iconst 0, 1) := by decide +kernel
theorem dX0_isAtRest_39 : decode cX0_isAtRest 39 = .ok (.ireturn, 1) := by decide +kernel
theorem dX0_isAtRest_40 : decode cX0_isAtRest 40 = .ok (.iinc 1 1, 3) := by decide +kernel
theorem dX0_isAtRest_43 : decode cX0_isAtRest 43 = .ok (.goto (-41), 3) := by decide +kernel
theorem dX0_isAtRest_46 : decode cX0_isAtRest 46 = .ok (.iconst 1, 1) := by decide +kernel
theorem dX0_isAtRest_47 : decode cX0_isAtRest 47 = .ok (.ireturn, 1) := by decide +kernel
theorem dX0_orderToWake_0 : decode cX0_orderToWake 0 = .ok (.iload_n 1, 1) := by decide +kernel
theorem dX0_orderToWake_1 : decode cX0_orderToWake 1 = .ok (.invokestatic 73, 3) := by decide +kernel
theorem dX0_orderToWake_4 : decode cX0_orderToWake 4 = .ok (.ifCond .eq 40, 3) := by decide +kernel
theorem dX0_orderToWake_7 : decode cX0_orderToWake 7 = .ok (.aload_n 0, 1) := by decide +kernel
theorem dX0_orderToWake_8 : decode cX0_orderToWake 8 = .ok (.getfield 61, 3) := by decide +kernel
theorem dX0_orderToWake_11 : decode cX0_orderToWake 11 = .ok (.invokestatic 73, 3) := by decide +kernel
theorem dX0_orderToWake_14 : decode cX0_orderToWake 14 = .ok (.ifCond .eq 30, 3) := by decide +kernel
theorem dX0_orderToWake_17 : decode cX0_orderToWake 17 = .ok (.aload_n 0, 1) := by decide +kernel
theorem dX0_orderToWake_18 : decode cX0_orderToWake 18 = .ok (.getfield 21, 3) := by decide +kernel
theorem dX0_orderToWake_21 : decode cX0_orderToWake 21 = .ok (.iload_n 1, 1) := by decide +kernel
theorem dX0_orderToWake_22 : decode cX0_orderToWake 22 = .ok (.iconst 3, 1) := by decide +kernel
theorem dX0_orderToWake_23 : decode cX0_orderToWake 23 = .ok (.iastore, 1) := by decide +kernel
theorem dX0_orderToWake_24 : decode cX0_orderToWake 24 = .ok (.aload_n 0, 1) := by decide +kernel
theorem dX0_orderToWake_25 : decode cX0_orderToWake 25 = .ok (.getfield 36, 3) := by decide +kernel
theorem dX0_orderToWake_28 : decode cX0_orderToWake 28 = .ok (.aload_n 0, 1) := by decide +kernel
theorem dX0_orderToWake_29 : decode cX0_orderToWake 29 = .ok (.getfield 61, 3) := by decide +kernel
theorem dX0_orderToWake_32 : decode cX0_orderToWake 32 = .ok (.iload_n 1, 1) := by decide +kernel
theorem dX0_orderToWake_33 : decode cX0_orderToWake 33 = .ok (.iastore, 1) := by decide +kernel
theorem dX0_orderToWake_34 : decode cX0_orderToWake 34 = .ok (.aload_n 0, 1) := by decide +kernel
theorem dX0_orderToWake_35 : decode cX0_orderToWake 35 = .ok (.dup, 1) := by decide +kernel
theorem dX0_orderToWake_36 : decode cX0_orderToWake 36 = .ok (.getfield 61, 3) := by decide +kernel
theorem dX0_orderToWake_39 : decode cX0_orderToWake 39 = .ok (.iconst 1, 1) := by decide +kernel
theorem dX0_orderToWake_40 : decode cX0_orderToWake 40 = .ok (.iadd, 1) := by decide +kernel
theorem dX0_orderToWake_41 : decode cX0_orderToWake 41 = .ok (.putfield 61, 3) := by decide +kernel
theorem dX0_orderToWake_44 : decode cX0_orderToWake 44 = .ok (.return_, 1) := by decide +kernel
theorem dX0_orderSleepersToWake_0 : decode cX0_orderSleepersToWake 0 = .ok (.iconst 0, 1) := by decide +kernel
theorem dX0_orderSleepersToWake_1 : decode cX0_orderSleepersToWake 1 = .ok (.istore_n 1, 1) := by decide +kernel
theorem dX0_orderSleepersToWake_2 : decode cX0_orderSleepersToWake 2 = .ok (.iload_n 1, 1) := by decide +kernel
theorem dX0_orderSleepersToWake_3 : decode cX0_orderSleepersToWake 3 = .ok (.bipush 8, 2) := by decide +kernel
theorem dX0_orderSleepersToWake_5 : decode cX0_orderSleepersToWake 5 = .ok (.if_icmp .ge 24, 3) := by decide +kernel
theorem dX0_orderSleepersToWake_8 : decode cX0_orderSleepersToWake 8 = .ok (.aload_n 0, 1) := by decide +kernel
theorem dX0_orderSleepersToWake_9 : decode cX0_orderSleepersToWake 9 = .ok (.getfield 21, 3) := by decide +kernel
theorem dX0_orderSleepersToWake_12 : decode cX0_orderSleepersToWake 12 = .ok (.iload_n 1, 1) := by decide +kernel
theorem dX0_orderSleepersToWake_13 : decode cX0_orderSleepersToWake 13 = .ok (.iaload, 1) := by decide +kernel
theorem dX0_orderSleepersToWake_14 : decode cX0_orderSleepersToWake 14 = .ok (.iconst 2, 1) := by decide +kernel
theorem dX0_orderSleepersToWake_15 : decode cX0_orderSleepersToWake 15 = .ok (.if_icmp .ne 8, 3) := by decide +kernel
theorem dX0_orderSleepersToWake_18 : decode cX0_orderSleepersToWake 18 = .ok (.aload_n 0, 1) := by decide +kernel
theorem dX0_orderSleepersToWake_19 : decode cX0_orderSleepersToWake 19 = .ok (.iload_n 1, 1) := by decide +kernel
theorem dX0_orderSleepersToWake_20 : decode cX0_orderSleepersToWake 20 = .ok (.invokevirtual 93, 3) := by decide +kernel
theorem dX0_orderSleepersToWake_23 : decode cX0_orderSleepersToWake 23 = .ok (.iinc 1 1, 3) := by decide +kernel
theorem dX0_orderSleepersToWake_26 : decode cX0_orderSleepersToWake 26 = .ok (.goto (-24), 3) := by decide +kernel
theorem dX0_orderSleepersToWake_29 : decode cX0_orderSleepersToWake 29 = .ok (.return_, 1) := by decide +kernel
theorem dX0_letPass_0 : decode cX0_letPass 0 = .ok (.iconst 0, 1) := by decide +kernel
theorem dX0_letPass_1 : decode cX0_letPass 1 = .ok (.istore_n 2, 1) := by decide +kernel
theorem dX0_letPass_2 : decode cX0_letPass 2 = .ok (.iload_n 2, 1) := by decide +kernel
theorem dX0_letPass_3 : decode cX0_letPass 3 = .ok (.iload_n 1, 1) := by decide +kernel
theorem dX0_letPass_4 : decode cX0_letPass 4 = .ok (.if_icmp .ge 42, 3) := by decide +kernel
theorem dX0_letPass_7 : decode cX0_letPass 7 = .ok (.aload_n 0, 1) := by decide +kernel
theorem dX0_letPass_8 : decode cX0_letPass 8 = .ok (.invokevirtual 97, 3) := by decide +kernel
theorem dX0_letPass_11 : decode cX0_letPass 11 = .ok (.aload_n 0, 1) := by decide +kernel
theorem dX0_letPass_12 : decode cX0_letPass 12 = .ok (.invokevirtual 100, 3) := by decide +kernel
theorem dX0_letPass_15 : decode cX0_letPass 15 = .ok (.aload_n 0, 1) := by decide +kernel
theorem dX0_letPass_16 : decode cX0_letPass 16 = .ok (.dup, 1) := by decide +kernel
theorem dX0_letPass_17 : decode cX0_letPass 17 = .ok (.getfield 64, 3) := by decide +kernel
theorem dX0_letPass_20 : decode cX0_letPass 20 = .ok (.iconst 1, 1) := by decide +kernel
theorem dX0_letPass_21 : decode cX0_letPass 21 = .ok (.iadd, 1) := by decide +kernel
theorem dX0_letPass_22 : decode cX0_letPass 22 = .ok (.putfield 64, 3) := by decide +kernel
theorem dX0_letPass_25 : decode cX0_letPass 25 = .ok (.aload_n 0, 1) := by decide +kernel
theorem dX0_letPass_26 : decode cX0_letPass 26 = .ok (.aload_n 0, 1) := by decide +kernel
theorem dX0_letPass_27 : decode cX0_letPass 27 = .ok (.getfield 70, 3) := by decide +kernel
theorem dX0_letPass_30 : decode cX0_letPass 30 = .ok (.aload_n 0, 1) := by decide +kernel
theorem dX0_letPass_31 : decode cX0_letPass 31 = .ok (.invokevirtual 103, 3) := by decide +kernel
theorem dX0_letPass_34 : decode cX0_letPass 34 = .ok (.invokestatic 107, 3) := by decide +kernel
theorem dX0_letPass_37 : decode cX0_letPass 37 = .ok (.putfield 70, 3) := by decide +kernel
theorem dX0_letPass_40 : decode cX0_letPass 40 = .ok (.iinc 2 1, 3) := by decide +kernel
theorem dX0_letPass_43 : decode cX0_letPass 43 = .ok (.goto (-41), 3) := by decide +kernel
theorem dX0_letPass_46 : decode cX0_letPass 46 = .ok (.return_, 1) := by decide +kernel
theorem dX0_readOneAnother_0 : decode cX0_readOneAnother 0 = .ok (.iconst 0, 1) := by decide +kernel
theorem dX0_readOneAnother_1 : decode cX0_readOneAnother 1 = .ok (.istore_n 1, 1) := by decide +kernel
theorem dX0_readOneAnother_2 : decode cX0_readOneAnother 2 = .ok (.iconst 0, 1) := by decide +kernel
theorem dX0_readOneAnother_3 : decode cX0_readOneAnother 3 = .ok (.istore_n 2, 1) := by decide +kernel
theorem dX0_readOneAnother_4 : decode cX0_readOneAnother 4 = .ok (.iload_n 2, 1) := by decide +kernel
theorem dX0_readOneAnother_5 : decode cX0_readOneAnother 5 = .ok (.bipush 8, 2) := by decide +kernel
theorem dX0_readOneAnother_7 : decode cX0_readOneAnother 7 = .ok (.if_icmp .ge 45, 3) := by decide +kernel
theorem dX0_readOneAnother_10 : decode cX0_readOneAnother 10 = .ok (.aload_n 0, 1) := by decide +kernel
theorem dX0_readOneAnother_11 : decode cX0_readOneAnother 11 = .ok (.getfield 39, 3) := by decide +kernel
theorem dX0_readOneAnother_14 : decode cX0_readOneAnother 14 = .ok (.iload_n 2, 1) := by decide +kernel
theorem dX0_readOneAnother_15 : decode cX0_readOneAnother 15 = .ok (.aload_n 0, 1) := by decide +kernel
theorem dX0_readOneAnother_16 : decode cX0_readOneAnother 16 = .ok (.iload_n 2, 1) := by decide +kernel
theorem dX0_readOneAnother_17 : decode cX0_readOneAnother 17 = .ok (.invokevirtual 113, 3) := by decide +kernel
theorem dX0_readOneAnother_20 : decode cX0_readOneAnother 20 = .ok (.iastore, 1) := by decide +kernel
theorem dX0_readOneAnother_21 : decode cX0_readOneAnother 21 = .ok (.aload_n 0, 1) := by decide +kernel
theorem dX0_readOneAnother_22 : decode cX0_readOneAnother 22 = .ok (.iload_n 2, 1) := by decide +kernel
theorem dX0_readOneAnother_23 : decode cX0_readOneAnother 23 = .ok (.invokevirtual 81, 3) := by decide +kernel
theorem dX0_readOneAnother_26 : decode cX0_readOneAnother 26 = .ok (.ifCond .ne 20, 3) := by decide +kernel
theorem dX0_readOneAnother_29 : decode cX0_readOneAnother 29 = .ok (.aload_n 0, 1) := by decide +kernel
theorem dX0_readOneAnother_30 : decode cX0_readOneAnother 30 = .ok (.getfield 55, 3) := by decide +kernel
theorem dX0_readOneAnother_33 : decode cX0_readOneAnother 33 = .ok (.iload_n 2, 1) := by decide +kernel
theorem dX0_readOneAnother_34 : decode cX0_readOneAnother 34 = .ok (.invokestatic 77, 3) := by decide +kernel
theorem dX0_readOneAnother_37 : decode cX0_readOneAnother 37 = .ok (.ifCond .ne 9, 3) := by decide +kernel
theorem dX0_readOneAnother_40 : decode cX0_readOneAnother 40 = .ok (.iload_n 1, 1) := by decide +kernel
theorem dX0_readOneAnother_41 : decode cX0_readOneAnother 41 = .ok (.iconst 1, 1) := by decide +kernel
theorem dX0_readOneAnother_42 : decode cX0_readOneAnother 42 = .ok (.iload_n 2, 1) := by decide +kernel
theorem dX0_readOneAnother_43 : decode cX0_readOneAnother 43 = .ok (.ishl, 1) := by decide +kernel
theorem dX0_readOneAnother_44 : decode cX0_readOneAnother 44 = .ok (.ior, 1) := by decide +kernel
theorem dX0_readOneAnother_45 : decode cX0_readOneAnother 45 = .ok (.istore_n 1, 1) := by decide +kernel
theorem dX0_readOneAnother_46 : decode cX0_readOneAnother 46 = .ok (.iinc 2 1, 3) := by decide +kernel
theorem dX0_readOneAnother_49 : decode cX0_readOneAnother 49 = .ok (.goto (-45), 3) := by decide +kernel
theorem dX0_readOneAnother_52 : decode cX0_readOneAnother 52 = .ok (.iconst 0, 1) := by decide +kernel
theorem dX0_readOneAnother_53 : decode cX0_readOneAnother 53 = .ok (.istore_n 2, 1) := by decide +kernel
theorem dX0_readOneAnother_54 : decode cX0_readOneAnother 54 = .ok (.iload_n 2, 1) := by decide +kernel
theorem dX0_readOneAnother_55 : decode cX0_readOneAnother 55 = .ok (.bipush 8, 2) := by decide +kernel
theorem dX0_readOneAnother_57 : decode cX0_readOneAnother 57 = .ok (.if_icmp .ge 65, 3) := by decide +kernel
theorem dX0_readOneAnother_60 : decode cX0_readOneAnother 60 = .ok (.aload_n 0, 1) := by decide +kernel
theorem dX0_readOneAnother_61 : decode cX0_readOneAnother 61 = .ok (.getfield 21, 3) := by decide +kernel
theorem dX0_readOneAnother_64 : decode cX0_readOneAnother 64 = .ok (.iload_n 2, 1) := by decide +kernel
theorem dX0_readOneAnother_65 : decode cX0_readOneAnother 65 = .ok (.iaload, 1) := by decide +kernel
theorem dX0_readOneAnother_66 : decode cX0_readOneAnother 66 = .ok (.ifCond .ne 50, 3) := by decide +kernel
theorem dX0_readOneAnother_69 : decode cX0_readOneAnother 69 = .ok (.aload_n 0, 1) := by decide +kernel
theorem dX0_readOneAnother_70 : decode cX0_readOneAnother 70 = .ok (.getfield 24, 3) := by decide +kernel
theorem dX0_readOneAnother_73 : decode cX0_readOneAnother 73 = .ok (.iload_n 2, 1) := by decide +kernel
theorem dX0_readOneAnother_74 : decode cX0_readOneAnother 74 = .ok (.aload_n 0, 1) := by decide +kernel
theorem dX0_readOneAnother_75 : decode cX0_readOneAnother 75 = .ok (.getfield 24, 3) := by decide +kernel
theorem dX0_readOneAnother_78 : decode cX0_readOneAnother 78 = .ok (.iload_n 2, 1) := by decide +kernel
theorem dX0_readOneAnother_79 : decode cX0_readOneAnother 79 = .ok (.iaload, 1) := by decide +kernel
theorem dX0_readOneAnother_80 : decode cX0_readOneAnother 80 = .ok (.aload_n 0, 1) := by decide +kernel
theorem dX0_readOneAnother_81 : decode cX0_readOneAnother 81 = .ok (.aload_n 0, 1) := by decide +kernel
theorem dX0_readOneAnother_82 : decode cX0_readOneAnother 82 = .ok (.getfield 18, 3) := by decide +kernel
theorem dX0_readOneAnother_85 : decode cX0_readOneAnother 85 = .ok (.iload_n 2, 1) := by decide +kernel
theorem dX0_readOneAnother_86 : decode cX0_readOneAnother 86 = .ok (.iaload, 1) := by decide +kernel
theorem dX0_readOneAnother_87 : decode cX0_readOneAnother 87 = .ok (.invokevirtual 116, 3) := by decide +kernel
theorem dX0_readOneAnother_90 : decode cX0_readOneAnother 90 = .ok (.iadd, 1) := by decide +kernel
theorem dX0_readOneAnother_91 : decode cX0_readOneAnother 91 = .ok (.sipush 255, 3) := by decide +kernel
theorem dX0_readOneAnother_94 : decode cX0_readOneAnother 94 = .ok (.iand, 1) := by decide +kernel
theorem dX0_readOneAnother_95 : decode cX0_readOneAnother 95 = .ok (.iastore, 1) := by decide +kernel
theorem dX0_readOneAnother_96 : decode cX0_readOneAnother 96 = .ok (.aload_n 0, 1) := by decide +kernel
theorem dX0_readOneAnother_97 : decode cX0_readOneAnother 97 = .ok (.getfield 33, 3) := by decide +kernel
theorem dX0_readOneAnother_100 : decode cX0_readOneAnother 100 = .ok (.iload_n 2, 1) := by decide +kernel
theorem dX0_readOneAnother_101 : decode cX0_readOneAnother 101 = .ok (.dup2, 1) := by decide +kernel
theorem dX0_readOneAnother_102 : decode cX0_readOneAnother 102 = .ok (.iaload, 1) := by decide +kernel
theorem dX0_readOneAnother_103 : decode cX0_readOneAnother 103 = .ok (.aload_n 0, 1) := by decide +kernel
theorem dX0_readOneAnother_104 : decode cX0_readOneAnother 104 = .ok (.getfield 18, 3) := by decide +kernel
theorem dX0_readOneAnother_107 : decode cX0_readOneAnother 107 = .ok (.iload_n 2, 1) := by decide +kernel
theorem dX0_readOneAnother_108 : decode cX0_readOneAnother 108 = .ok (.iaload, 1) := by decide +kernel
theorem dX0_readOneAnother_109 : decode cX0_readOneAnother 109 = .ok (.iload_n 1, 1) := by decide +kernel
theorem dX0_readOneAnother_110 : decode cX0_readOneAnother 110 = .ok (.iand, 1) := by decide +kernel
theorem dX0_readOneAnother_111 : decode cX0_readOneAnother 111 = .ok (.invokestatic 88, 3) := by decide +kernel
theorem dX0_readOneAnother_114 : decode cX0_readOneAnother 114 = .ok (.iadd, 1) := by decide +kernel
theorem dX0_readOneAnother_115 : decode cX0_readOneAnother 115 = .ok (.iastore, 1) := by decide +kernel
theorem dX0_readOneAnother_116 : decode cX0_readOneAnother 116 = .ok (.iinc 2 1, 3) := by decide +kernel
theorem dX0_readOneAnother_119 : decode cX0_readOneAnother 119 = .ok (.goto (-65), 3) := by decide +kernel
theorem dX0_readOneAnother_122 : decode cX0_readOneAnother 122 = .ok (.return_, 1) := by decide +kernel
theorem dX0_sumTold_0 : decode cX0_sumTold 0 = .ok (.iconst 0, 1) := by decide +kernel
theorem dX0_sumTold_1 : decode cX0_sumTold 1 = .ok (.istore_n 2, 1) := by decide +kernel
theorem dX0_sumTold_2 : decode cX0_sumTold 2 = .ok (.iconst 0, 1) := by decide +kernel
theorem dX0_sumTold_3 : decode cX0_sumTold 3 = .ok (.istore_n 3, 1) := by decide +kernel
theorem dX0_sumTold_4 : decode cX0_sumTold 4 = .ok (.iload_n 3, 1) := by decide +kernel
theorem dX0_sumTold_5 : decode cX0_sumTold 5 = .ok (.bipush 8, 2) := by decide +kernel
theorem dX0_sumTold_7 : decode cX0_sumTold 7 = .ok (.if_icmp .ge 26, 3) := by decide +kernel
theorem dX0_sumTold_10 : decode cX0_sumTold 10 = .ok (.iload_n 1, 1) := by decide +kernel
theorem dX0_sumTold_11 : decode cX0_sumTold 11 = .ok (.iload_n 3, 1) := by decide +kernel
theorem dX0_sumTold_12 : decode cX0_sumTold 12 = .ok (.invokestatic 77, 3) := by decide +kernel
theorem dX0_sumTold_15 : decode cX0_sumTold 15 = .ok (.ifCond .eq 12, 3) := by decide +kernel
theorem dX0_sumTold_18 : decode cX0_sumTold 18 = .ok (.iload_n 2, 1) := by decide +kernel
theorem dX0_sumTold_19 : decode cX0_sumTold 19 = .ok (.aload_n 0, 1) := by decide +kernel
theorem dX0_sumTold_20 : decode cX0_sumTold 20 = .ok (.getfield 39, 3) := by decide +kernel
theorem dX0_sumTold_23 : decode cX0_sumTold 23 = .ok (.iload_n 3, 1) := by decide +kernel
theorem dX0_sumTold_24 : decode cX0_sumTold 24 = .ok (.iaload, 1) := by decide +kernel
theorem dX0_sumTold_25 : decode cX0_sumTold 25 = .ok (.iadd, 1) := by decide +kernel
theorem dX0_sumTold_26 : decode cX0_sumTold 26 = .ok (.istore_n 2, 1) := by decide +kernel
theorem dX0_sumTold_27 : decode cX0_sumTold 27 = .ok (.iinc 3 1, 3) := by decide +kernel
theorem dX0_sumTold_30 : decode cX0_sumTold 30 = .ok (.goto (-26), 3) := by decide +kernel
theorem dX0_sumTold_33 : decode cX0_sumTold 33 = .ok (.iload_n 2, 1) := by decide +kernel
theorem dX0_sumTold_34 : decode cX0_sumTold 34 = .ok (.ireturn, 1) := by decide +kernel
theorem dX0_moveOn_0 : decode cX0_moveOn 0 = .ok (.aload_n 0, 1) := by decide +kernel
theorem dX0_moveOn_1 : decode cX0_moveOn 1 = .ok (.invokevirtual 119, 3) := by decide +kernel
theorem dX0_moveOn_4 : decode cX0_moveOn 4 = .ok (.aload_n 0, 1) := by decide +kernel
theorem dX0_moveOn_5 : decode cX0_moveOn 5 = .ok (.invokevirtual 122, 3) := by decide +kernel
theorem dX0_moveOn_8 : decode cX0_moveOn 8 = .ok (.aload_n 0, 1) := by decide +kernel
theorem dX0_moveOn_9 : decode cX0_moveOn 9 = .ok (.getfield 46, 3) := by decide +kernel
theorem dX0_moveOn_12 : decode cX0_moveOn 12 = .ok (.iconst 1, 1) := by decide +kernel
theorem dX0_moveOn_13 : decode cX0_moveOn 13 = .ok (.if_icmp .ne 7, 3) := by decide +kernel
theorem dX0_moveOn_16 : decode cX0_moveOn 16 = .ok (.aload_n 0, 1) := by decide +kernel
theorem dX0_moveOn_17 : decode cX0_moveOn 17 = .ok (.invokevirtual 125, 3) := by decide +kernel
theorem dX0_moveOn_20 : decode cX0_moveOn 20 = .ok (.aload_n 0, 1) := by decide +kernel
theorem dX0_moveOn_21 : decode cX0_moveOn 21 = .ok (.invokevirtual 128, 3) := by decide +kernel
theorem dX0_moveOn_24 : decode cX0_moveOn 24 = .ok (.return_, 1) := by decide +kernel
theorem dX0_endFalling_0 : decode cX0_endFalling 0 = .ok (.iconst 0, 1) := by decide +kernel
theorem dX0_endFalling_1 : decode cX0_endFalling 1 = .ok (.istore_n 1, 1) := by decide +kernel
theorem dX0_endFalling_2 : decode cX0_endFalling 2 = .ok (.iload_n 1, 1) := by decide +kernel
theorem dX0_endFalling_3 : decode cX0_endFalling 3 = .ok (.bipush 8, 2) := by decide +kernel
theorem dX0_endFalling_5 : decode cX0_endFalling 5 = .ok (.if_icmp .ge 31, 3) := by decide +kernel
theorem dX0_endFalling_8 : decode cX0_endFalling 8 = .ok (.aload_n 0, 1) := by decide +kernel
theorem dX0_endFalling_9 : decode cX0_endFalling 9 = .ok (.getfield 21, 3) := by decide +kernel
theorem dX0_endFalling_12 : decode cX0_endFalling 12 = .ok (.iload_n 1, 1) := by decide +kernel
theorem dX0_endFalling_13 : decode cX0_endFalling 13 = .ok (.iaload, 1) := by decide +kernel
theorem dX0_endFalling_14 : decode cX0_endFalling 14 = .ok (.iconst 1, 1) := by decide +kernel
theorem dX0_endFalling_15 : decode cX0_endFalling 15 = .ok (.if_icmp .ne 15, 3) := by decide +kernel
theorem dX0_endFalling_18 : decode cX0_endFalling 18 = .ok (.aload_n 0, 1) := by decide +kernel
theorem dX0_endFalling_19 : decode cX0_endFalling 19 = .ok (.getfield 21, 3) := by decide +kernel
theorem dX0_endFalling_22 : decode cX0_endFalling 22 = .ok (.iload_n 1, 1) := by decide +kernel
theorem dX0_endFalling_23 : decode cX0_endFalling 23 = .ok (.iconst 2, 1) := by decide +kernel
theorem dX0_endFalling_24 : decode cX0_endFalling 24 = .ok (.iastore, 1) := by decide +kernel
theorem dX0_endFalling_25 : decode cX0_endFalling 25 = .ok (.aload_n 0, 1) := by decide +kernel
theorem dX0_endFalling_26 : decode cX0_endFalling 26 = .ok (.iload_n 1, 1) := by decide +kernel
theorem dX0_endFalling_27 : decode cX0_endFalling 27 = .ok (.invokevirtual 131, 3) := by decide +kernel
theorem dX0_endFalling_30 : decode cX0_endFalling 30 = .ok (.iinc 1 1, 3) := by decide +kernel
theorem dX0_endFalling_33 : decode cX0_endFalling 33 = .ok (.goto (-31), 3) := by decide +kernel
theorem dX0_endFalling_36 : decode cX0_endFalling 36 = .ok (.return_, 1) := by decide +kernel
theorem dX0_keepOrLose_0 : decode cX0_keepOrLose 0 = .ok (.iload_n 1, 1) := by decide +kernel
theorem dX0_keepOrLose_1 : decode cX0_keepOrLose 1 = .ok (.invokestatic 73, 3) := by decide +kernel
theorem dX0_keepOrLose_4 : decode cX0_keepOrLose 4 = .ok (.ifCond .ne 4, 3) := by decide +kernel
theorem dX0_keepOrLose_7 : decode cX0_keepOrLose 7 = .ok (.return_, 1) := by decide +kernel
theorem dX0_keepOrLose_8 : decode cX0_keepOrLose 8 = .ok (.aload_n 0, 1) := by decide +kernel
theorem dX0_keepOrLose_9 : decode cX0_keepOrLose 9 = .ok (.getfield 58, 3) := by decide +kernel
theorem dX0_keepOrLose_12 : decode cX0_keepOrLose 12 = .ok (.iload_n 1, 1) := by decide +kernel
theorem dX0_keepOrLose_13 : decode cX0_keepOrLose 13 = .ok (.invokestatic 77, 3) := by decide +kernel
theorem dX0_keepOrLose_16 : decode cX0_keepOrLose 16 = .ok (.ifCond .eq 18, 3) := by decide +kernel
theorem dX0_keepOrLose_19 : decode cX0_keepOrLose 19 = .ok (.aload_n 0, 1) := by decide +kernel
theorem dX0_keepOrLose_20 : decode cX0_keepOrLose 20 = .ok (.getfield 27, 3) := by decide +kernel
theorem dX0_keepOrLose_23 : decode cX0_keepOrLose 23 = .ok (.iload_n 1, 1) := by decide +kernel
theorem dX0_keepOrLose_24 : decode cX0_keepOrLose 24 = .ok (.aload_n 0, 1) := by decide +kernel
theorem dX0_keepOrLose_25 : decode cX0_keepOrLose 25 = .ok (.getfield 24, 3) := by decide +kernel
theorem dX0_keepOrLose_28 : decode cX0_keepOrLose 28 = .ok (.iload_n 1, 1) := by decide +kernel
theorem dX0_keepOrLose_29 : decode cX0_keepOrLose 29 = .ok (.iaload, 1) := by decide +kernel
theorem dX0_keepOrLose_30 : decode cX0_keepOrLose 30 = .ok (.iastore, 1) := by decide +kernel
theorem dX0_keepOrLose_31 : decode cX0_keepOrLose 31 = .ok (.goto 22, 3) := by decide +kernel
theorem dX0_keepOrLose_34 : decode cX0_keepOrLose 34 = .ok (.aload_n 0, 1) := by decide +kernel
theorem dX0_keepOrLose_35 : decode cX0_keepOrLose 35 = .ok (.getfield 24, 3) := by decide +kernel
theorem dX0_keepOrLose_38 : decode cX0_keepOrLose 38 = .ok (.iload_n 1, 1) := by decide +kernel
theorem dX0_keepOrLose_39 : decode cX0_keepOrLose 39 = .ok (.iaload, 1) := by decide +kernel
theorem dX0_keepOrLose_40 : decode cX0_keepOrLose 40 = .ok (.ifCond .le 13, 3) := by decide +kernel
theorem dX0_keepOrLose_43 : decode cX0_keepOrLose 43 = .ok (.aload_n 0, 1) := by decide +kernel
theorem dX0_keepOrLose_44 : decode cX0_keepOrLose 44 = .ok (.dup, 1) := by decide +kernel
theorem dX0_keepOrLose_45 : decode cX0_keepOrLose 45 = .ok (.getfield 67, 3) := by decide +kernel
theorem dX0_keepOrLose_48 : decode cX0_keepOrLose 48 = .ok (.iconst 1, 1) := by decide +kernel
theorem dX0_keepOrLose_49 : decode cX0_keepOrLose 49 = .ok (.iadd, 1) := by decide +kernel
theorem dX0_keepOrLose_50 : decode cX0_keepOrLose 50 = .ok (.putfield 67, 3) := by decide +kernel
theorem dX0_keepOrLose_53 : decode cX0_keepOrLose 53 = .ok (.aload_n 0, 1) := by decide +kernel
theorem dX0_keepOrLose_54 : decode cX0_keepOrLose 54 = .ok (.getfield 24, 3) := by decide +kernel
theorem dX0_keepOrLose_57 : decode cX0_keepOrLose 57 = .ok (.iload_n 1, 1) := by decide +kernel
theorem dX0_keepOrLose_58 : decode cX0_keepOrLose 58 = .ok (.iconst 0, 1) := by decide +kernel
theorem dX0_keepOrLose_59 : decode cX0_keepOrLose 59 = .ok (.iastore, 1) := by decide +kernel
theorem dX0_keepOrLose_60 : decode cX0_keepOrLose 60 = .ok (.return_, 1) := by decide +kernel
theorem dX0_goOnRising_0 : decode cX0_goOnRising 0 = .ok (.iconst 0, 1) := by decide +kernel
theorem dX0_goOnRising_1 : decode cX0_goOnRising 1 = .ok (.istore_n 1, 1) := by decide +kernel
theorem dX0_goOnRising_2 : decode cX0_goOnRising 2 = .ok (.iload_n 1, 1) := by decide +kernel
theorem dX0_goOnRising_3 : decode cX0_goOnRising 3 = .ok (.bipush 8, 2) := by decide +kernel
theorem dX0_goOnRising_5 : decode cX0_goOnRising 5 = .ok (.if_icmp .ge 43, 3) := by decide +kernel
theorem dX0_goOnRising_8 : decode cX0_goOnRising 8 = .ok (.aload_n 0, 1) := by decide +kernel
theorem dX0_goOnRising_9 : decode cX0_goOnRising 9 = .ok (.getfield 21, 3) := by decide +kernel
theorem dX0_goOnRising_12 : decode cX0_goOnRising 12 = .ok (.iload_n 1, 1) := by decide +kernel
theorem dX0_goOnRising_13 : decode cX0_goOnRising 13 = .ok (.iaload, 1) := by decide +kernel
theorem dX0_goOnRising_14 : decode cX0_goOnRising 14 = .ok (.iconst 4, 1) := by decide +kernel
theorem dX0_goOnRising_15 : decode cX0_goOnRising 15 = .ok (.if_icmp .ne 27, 3) := by decide +kernel
theorem dX0_goOnRising_18 : decode cX0_goOnRising 18 = .ok (.aload_n 0, 1) := by decide +kernel
theorem dX0_goOnRising_19 : decode cX0_goOnRising 19 = .ok (.getfield 30, 3) := by decide +kernel
theorem dX0_goOnRising_22 : decode cX0_goOnRising 22 = .ok (.iload_n 1, 1) := by decide +kernel
theorem dX0_goOnRising_23 : decode cX0_goOnRising 23 = .ok (.dup2, 1) := by decide +kernel
theorem dX0_goOnRising_24 : decode cX0_goOnRising 24 = .ok (.iaload, 1) := by decide +kernel
theorem dX0_goOnRising_25 : decode cX0_goOnRising 25 = .ok (.iconst 1, 1) := by decide +kernel
theorem dX0_goOnRising_26 : decode cX0_goOnRising 26 = .ok (.isub, 1) := by decide +kernel
theorem dX0_goOnRising_27 : decode cX0_goOnRising 27 = .ok (.iastore, 1) := by decide +kernel
theorem dX0_goOnRising_28 : decode cX0_goOnRising 28 = .ok (.aload_n 0, 1) := by decide +kernel
theorem dX0_goOnRising_29 : decode cX0_goOnRising 29 = .ok (.getfield 30, 3) := by decide +kernel
theorem dX0_goOnRising_32 : decode cX0_goOnRising 32 = .ok (.iload_n 1, 1) := by decide +kernel
theorem dX0_goOnRising_33 : decode cX0_goOnRising 33 = .ok (.iaload, 1) := by decide +kernel
theorem dX0_goOnRising_34 : decode cX0_goOnRising 34 = .ok (.ifCond .gt 8, 3) := by decide +kernel
theorem dX0_goOnRising_37 : decode cX0_goOnRising 37 = .ok (.aload_n 0, 1) := by decide +kernel
theorem dX0_goOnRising_38 : decode cX0_goOnRising 38 = .ok (.iload_n 1, 1) := by decide +kernel
theorem dX0_goOnRising_39 : decode cX0_goOnRising 39 = .ok (.invokevirtual 134, 3) := by decide +kernel
theorem dX0_goOnRising_42 : decode cX0_goOnRising 42 = .ok (.iinc 1 1, 3) := by decide +kernel
theorem dX0_goOnRising_45 : decode cX0_goOnRising 45 = .ok (.goto (-43), 3) := by decide +kernel
theorem dX0_goOnRising_48 : decode cX0_goOnRising 48 = .ok (.return_, 1) := by decide +kernel
theorem dX0_endRising_0 : decode cX0_endRising 0 = .ok (.iload_n 1, 1) := by decide +kernel
theorem dX0_endRising_1 : decode cX0_endRising 1 = .ok (.invokestatic 73, 3) := by decide +kernel
theorem dX0_endRising_4 : decode cX0_endRising 4 = .ok (.ifCond .ne 4, 3) := by decide +kernel
theorem dX0_endRising_7 : decode cX0_endRising 7 = .ok (.return_, 1) := by decide +kernel
theorem dX0_endRising_8 : decode cX0_endRising 8 = .ok (.aload_n 0, 1) := by decide +kernel
theorem dX0_endRising_9 : decode cX0_endRising 9 = .ok (.getfield 21, 3) := by decide +kernel
theorem dX0_endRising_12 : decode cX0_endRising 12 = .ok (.iload_n 1, 1) := by decide +kernel
theorem dX0_endRising_13 : decode cX0_endRising 13 = .ok (.iconst 0, 1) := by decide +kernel
theorem dX0_endRising_14 : decode cX0_endRising 14 = .ok (.iastore, 1) := by decide +kernel
theorem dX0_endRising_15 : decode cX0_endRising 15 = .ok (.aload_n 0, 1) := by decide +kernel
theorem dX0_endRising_16 : decode cX0_endRising 16 = .ok (.getfield 58, 3) := by decide +kernel
theorem dX0_endRising_19 : decode cX0_endRising 19 = .ok (.iload_n 1, 1) := by decide +kernel
theorem dX0_endRising_20 : decode cX0_endRising 20 = .ok (.invokestatic 77, 3) := by decide +kernel
theorem dX0_endRising_23 : decode cX0_endRising 23 = .ok (.ifCond .eq 15, 3) := by decide +kernel
theorem dX0_endRising_26 : decode cX0_endRising 26 = .ok (.aload_n 0, 1) := by decide +kernel
theorem dX0_endRising_27 : decode cX0_endRising 27 = .ok (.getfield 24, 3) := by decide +kernel
theorem dX0_endRising_30 : decode cX0_endRising 30 = .ok (.iload_n 1, 1) := by decide +kernel
theorem dX0_endRising_31 : decode cX0_endRising 31 = .ok (.aload_n 0, 1) := by decide +kernel
theorem dX0_endRising_32 : decode cX0_endRising 32 = .ok (.getfield 27, 3) := by decide +kernel
theorem dX0_endRising_35 : decode cX0_endRising 35 = .ok (.iload_n 1, 1) := by decide +kernel
theorem dX0_endRising_36 : decode cX0_endRising 36 = .ok (.iaload, 1) := by decide +kernel
theorem dX0_endRising_37 : decode cX0_endRising 37 = .ok (.iastore, 1) := by decide +kernel
theorem dX0_endRising_38 : decode cX0_endRising 38 = .ok (.return_, 1) := by decide +kernel
theorem dX0_askForSleepers_0 : decode cX0_askForSleepers 0 = .ok (.iconst 0, 1) := by decide +kernel
theorem dX0_askForSleepers_1 : decode cX0_askForSleepers 1 = .ok (.istore_n 1, 1) := by decide +kernel
theorem dX0_askForSleepers_2 : decode cX0_askForSleepers 2 = .ok (.iconst 0, 1) := by decide +kernel
theorem dX0_askForSleepers_3 : decode cX0_askForSleepers 3 = .ok (.istore_n 2, 1) := by decide +kernel
theorem dX0_askForSleepers_4 : decode cX0_askForSleepers 4 = .ok (.iload_n 2, 1) := by decide +kernel
theorem dX0_askForSleepers_5 : decode cX0_askForSleepers 5 = .ok (.bipush 8, 2) := by decide +kernel
theorem dX0_askForSleepers_7 : decode cX0_askForSleepers 7 = .ok (.if_icmp .ge 27, 3) := by decide +kernel
theorem dX0_askForSleepers_10 : decode cX0_askForSleepers 10 = .ok (.aload_n 0, 1) := by decide +kernel
theorem dX0_askForSleepers_11 : decode cX0_askForSleepers 11 = .ok (.getfield 21, 3) := by decide +kernel
theorem dX0_askForSleepers_14 : decode cX0_askForSleepers 14 = .ok (.iload_n 2, 1) := by decide +kernel
theorem dX0_askForSleepers_15 : decode cX0_askForSleepers 15 = .ok (.iaload, 1) := by decide +kernel
theorem dX0_askForSleepers_16 : decode cX0_askForSleepers 16 = .ok (.ifCond .ne 12, 3) := by decide +kernel
theorem dX0_askForSleepers_19 : decode cX0_askForSleepers 19 = .ok (.iload_n 1, 1) := by decide +kernel
theorem dX0_askForSleepers_20 : decode cX0_askForSleepers 20 = .ok (.aload_n 0, 1) := by decide +kernel
theorem dX0_askForSleepers_21 : decode cX0_askForSleepers 21 = .ok (.getfield 18, 3) := by decide +kernel
theorem dX0_askForSleepers_24 : decode cX0_askForSleepers 24 = .ok (.iload_n 2, 1) := by decide +kernel
theorem dX0_askForSleepers_25 : decode cX0_askForSleepers 25 = .ok (.iaload, 1) := by decide +kernel
theorem dX0_askForSleepers_26 : decode cX0_askForSleepers 26 = .ok (.ior, 1) := by decide +kernel
theorem dX0_askForSleepers_27 : decode cX0_askForSleepers 27 = .ok (.istore_n 1, 1) := by decide +kernel
theorem dX0_askForSleepers_28 : decode cX0_askForSleepers 28 = .ok (.iinc 2 1, 3) := by decide +kernel
theorem dX0_askForSleepers_31 : decode cX0_askForSleepers 31 = .ok (.goto (-27), 3) := by decide +kernel
theorem dX0_askForSleepers_34 : decode cX0_askForSleepers 34 = .ok (.iconst 0, 1) := by decide +kernel
theorem dX0_askForSleepers_35 : decode cX0_askForSleepers 35 = .ok (.istore_n 2, 1) := by decide +kernel
theorem dX0_askForSleepers_36 : decode cX0_askForSleepers 36 = .ok (.iload_n 2, 1) := by decide +kernel
theorem dX0_askForSleepers_37 : decode cX0_askForSleepers 37 = .ok (.bipush 8, 2) := by decide +kernel
theorem dX0_askForSleepers_39 : decode cX0_askForSleepers 39 = .ok (.if_icmp .ge 32, 3) := by decide +kernel
theorem dX0_askForSleepers_42 : decode cX0_askForSleepers 42 = .ok (.aload_n 0, 1) := by decide +kernel
theorem dX0_askForSleepers_43 : decode cX0_askForSleepers 43 = .ok (.getfield 21, 3) := by decide +kernel
theorem dX0_askForSleepers_46 : decode cX0_askForSleepers 46 = .ok (.iload_n 2, 1) := by decide +kernel
theorem dX0_askForSleepers_47 : decode cX0_askForSleepers 47 = .ok (.iaload, 1) := by decide +kernel
theorem dX0_askForSleepers_48 : decode cX0_askForSleepers 48 = .ok (.iconst 2, 1) := by decide +kernel
theorem dX0_askForSleepers_49 : decode cX0_askForSleepers 49 = .ok (.if_icmp .ne 16, 3) := by decide +kernel
theorem dX0_askForSleepers_52 : decode cX0_askForSleepers 52 = .ok (.iload_n 1, 1) := by decide +kernel
theorem dX0_askForSleepers_53 : decode cX0_askForSleepers 53 = .ok (.iload_n 2, 1) := by decide +kernel
theorem dX0_askForSleepers_54 : decode cX0_askForSleepers 54 = .ok (.invokestatic 77, 3) := by decide +kernel
theorem dX0_askForSleepers_57 : decode cX0_askForSleepers 57 = .ok (.ifCond .eq 8, 3) := by decide +kernel
theorem dX0_askForSleepers_60 : decode cX0_askForSleepers 60 = .ok (.aload_n 0, 1) := by decide +kernel
theorem dX0_askForSleepers_61 : decode cX0_askForSleepers 61 = .ok (.iload_n 2, 1) := by decide +kernel
theorem dX0_askForSleepers_62 : decode cX0_askForSleepers 62 = .ok (.invokevirtual 93, 3) := by decide +kernel
theorem dX0_askForSleepers_65 : decode cX0_askForSleepers 65 = .ok (.iinc 2 1, 3) := by decide +kernel
theorem dX0_askForSleepers_68 : decode cX0_askForSleepers 68 = .ok (.goto (-32), 3) := by decide +kernel
theorem dX0_askForSleepers_71 : decode cX0_askForSleepers 71 = .ok (.return_, 1) := by decide +kernel
theorem dX0_beginRising_0 : decode cX0_beginRising 0 = .ok (.aload_n 0, 1) := by decide +kernel
theorem dX0_beginRising_1 : decode cX0_beginRising 1 = .ok (.invokevirtual 103, 3) := by decide +kernel
theorem dX0_beginRising_4 : decode cX0_beginRising 4 = .ok (.istore_n 1, 1) := by decide +kernel
theorem dX0_beginRising_5 : decode cX0_beginRising 5 = .ok (.iconst 0, 1) := by decide +kernel
theorem dX0_beginRising_6 : decode cX0_beginRising 6 = .ok (.istore_n 2, 1) := by decide +kernel
theorem dX0_beginRising_7 : decode cX0_beginRising 7 = .ok (.iconst 0, 1) := by decide +kernel
theorem dX0_beginRising_8 : decode cX0_beginRising 8 = .ok (.istore_n 3, 1) := by decide +kernel
theorem dX0_beginRising_9 : decode cX0_beginRising 9 = .ok (.iload_n 3, 1) := by decide +kernel
theorem dX0_beginRising_10 : decode cX0_beginRising 10 = .ok (.bipush 8, 2) := by decide +kernel
theorem dX0_beginRising_12 : decode cX0_beginRising 12 = .ok (.if_icmp .ge 109, 3) := by decide +kernel
theorem dX0_beginRising_15 : decode cX0_beginRising 15 = .ok (.iload_n 3, 1) := by decide +kernel
theorem dX0_beginRising_16 : decode cX0_beginRising 16 = .ok (.aload_n 0, 1) := by decide +kernel
theorem dX0_beginRising_17 : decode cX0_beginRising 17 = .ok (.getfield 61, 3) := by decide +kernel
theorem dX0_beginRising_20 : decode cX0_beginRising 20 = .ok (.if_icmp .ge 101, 3) := by decide +kernel
theorem dX0_beginRising_23 : decode cX0_beginRising 23 = .ok (.aload_n 0, 1) := by decide +kernel
theorem dX0_beginRising_24 : decode cX0_beginRising 24 = .ok (.getfield 36, 3) := by decide +kernel
theorem dX0_beginRising_27 : decode cX0_beginRising 27 = .ok (.iload_n 3, 1) := by decide +kernel
theorem dX0_beginRising_28 : decode cX0_beginRising 28 = .ok (.iaload, 1) := by decide +kernel
theorem dX0_beginRising_29 : decode cX0_beginRising 29 = .ok (.istore 4, 2) := by decide +kernel
theorem dX0_beginRising_31 : decode cX0_beginRising 31 = .ok (.iload 4, 2) := by decide +kernel
theorem dX0_beginRising_33 : decode cX0_beginRising 33 = .ok (.invokestatic 73, 3) := by decide +kernel
theorem dX0_beginRising_36 : decode cX0_beginRising 36 = .ok (.ifCond .ne 6, 3) := by decide +kernel
theorem dX0_beginRising_39 : decode cX0_beginRising 39 = .ok (.goto 76, 3) := by decide +kernel
theorem dX0_beginRising_42 : decode cX0_beginRising 42 = .ok (.iload_n 1, 1) := by decide +kernel
theorem dX0_beginRising_43 : decode cX0_beginRising 43 = .ok (.ifCond .eq 19, 3) := by decide +kernel
theorem dX0_beginRising_46 : decode cX0_beginRising 46 = .ok (.iload_n 1, 1) := by decide +kernel
theorem dX0_beginRising_47 : decode cX0_beginRising 47 = .ok (.aload_n 0, 1) := by decide +kernel
theorem dX0_beginRising_48 : decode cX0_beginRising 48 = .ok (.getfield 15, 3) := by decide +kernel
theorem dX0_beginRising_51 : decode cX0_beginRising 51 = .ok (.iload 4, 2) := by decide +kernel
theorem dX0_beginRising_53 : decode cX0_beginRising 53 = .ok (.iaload, 1) := by decide +kernel
theorem dX0_beginRising_54 : decode cX0_beginRising 54 = .ok (.iadd, 1) := by decide +kernel
theorem dX0_beginRising_55 : decode cX0_beginRising 55 = .ok (.aload_n 0, 1) := by decide +kernel
theorem dX0_beginRising_56 : decode cX0_beginRising 56 = .ok (.getfield 42, 3) := by decide +kernel
theorem dX0_beginRising_59 : decode cX0_beginRising 59 = .ok (.if_icmp .gt 38, 3) := by decide +kernel
theorem dX0_beginRising_62 : decode cX0_beginRising 62 = .ok (.iload_n 1, 1) := by decide +kernel
theorem dX0_beginRising_63 : decode cX0_beginRising 63 = .ok (.aload_n 0, 1) := by decide +kernel
theorem dX0_beginRising_64 : decode cX0_beginRising 64 = .ok (.getfield 15, 3) := by decide +kernel
theorem dX0_beginRising_67 : decode cX0_beginRising 67 = .ok (.iload 4, 2) := by decide +kernel
theorem dX0_beginRising_69 : decode cX0_beginRising 69 = .ok (.iaload, 1) := by decide +kernel
theorem dX0_beginRising_70 : decode cX0_beginRising 70 = .ok (.iadd, 1) := by decide +kernel
theorem dX0_beginRising_71 : decode cX0_beginRising 71 = .ok (.istore_n 1, 1) := by decide +kernel
theorem dX0_beginRising_72 : decode cX0_beginRising 72 = .ok (.aload_n 0, 1) := by decide +kernel
theorem dX0_beginRising_73 : decode cX0_beginRising 73 = .ok (.getfield 21, 3) := by decide +kernel
theorem dX0_beginRising_76 : decode cX0_beginRising 76 = .ok (.iload 4, 2) := by decide +kernel
theorem dX0_beginRising_78 : decode cX0_beginRising 78 = .ok (.iconst 4, 1) := by decide +kernel
theorem dX0_beginRising_79 : decode cX0_beginRising 79 = .ok (.iastore, 1) := by decide +kernel
theorem dX0_beginRising_80 : decode cX0_beginRising 80 = .ok (.aload_n 0, 1) := by decide +kernel
theorem dX0_beginRising_81 : decode cX0_beginRising 81 = .ok (.getfield 30, 3) := by decide +kernel
theorem dX0_beginRising_84 : decode cX0_beginRising 84 = .ok (.iload 4, 2) := by decide +kernel
theorem dX0_beginRising_86 : decode cX0_beginRising 86 = .ok (.aload_n 0, 1) := by decide +kernel
theorem dX0_beginRising_87 : decode cX0_beginRising 87 = .ok (.getfield 9, 3) := by decide +kernel
theorem dX0_beginRising_90 : decode cX0_beginRising 90 = .ok (.iload 4, 2) := by decide +kernel
theorem dX0_beginRising_92 : decode cX0_beginRising 92 = .ok (.iaload, 1) := by decide +kernel
theorem dX0_beginRising_93 : decode cX0_beginRising 93 = .ok (.iastore, 1) := by decide +kernel
theorem dX0_beginRising_94 : decode cX0_beginRising 94 = .ok (.goto 21, 3) := by decide +kernel
theorem dX0_beginRising_97 : decode cX0_beginRising 97 = .ok (.iload_n 2, 1) := by decide +kernel
theorem dX0_beginRising_98 : decode cX0_beginRising 98 = .ok (.invokestatic 73, 3) := by decide +kernel
theorem dX0_beginRising_101 : decode cX0_beginRising 101 = .ok (.ifCond .eq 14, 3) := by decide +kernel
theorem dX0_beginRising_104 : decode cX0_beginRising 104 = .ok (.aload_n 0, 1) := by decide +kernel
theorem dX0_beginRising_105 : decode cX0_beginRising 105 = .ok (.getfield 36, 3) := by decide +kernel
theorem dX0_beginRising_108 : decode cX0_beginRising 108 = .ok (.iload_n 2, 1) := by decide +kernel
theorem dX0_beginRising_109 : decode cX0_beginRising 109 = .ok (.iload 4, 2) := by decide +kernel
theorem dX0_beginRising_111 : decode cX0_beginRising 111 = .ok (.iastore, 1) := by decide +kernel
theorem dX0_beginRising_112 : decode cX0_beginRising 112 = .ok (.iinc 2 1, 3) := by decide +kernel
theorem dX0_beginRising_115 : decode cX0_beginRising 115 = .ok (.iinc 3 1, 3) := by decide +kernel
theorem dX0_beginRising_118 : decode cX0_beginRising 118 = .ok (.goto (-109), 3) := by decide +kernel
theorem dX0_beginRising_121 : decode cX0_beginRising 121 = .ok (.aload_n 0, 1) := by decide +kernel
theorem dX0_beginRising_122 : decode cX0_beginRising 122 = .ok (.iload_n 2, 1) := by decide +kernel
theorem dX0_beginRising_123 : decode cX0_beginRising 123 = .ok (.putfield 61, 3) := by decide +kernel
theorem dX0_beginRising_126 : decode cX0_beginRising 126 = .ok (.return_, 1) := by decide +kernel
