theorem dX0_init_0 : decode cX0_init 0 = .ok (.aload_n 0, 1) := by decide +kernel
theorem dX0_init_1 : decode cX0_init 1 = .ok (.invokespecial 3, 3) := by decide +kernel
theorem dX0_init_4 : decode cX0_init 4 = .ok (.aload_n 0, 1) := by decide +kernel
theorem dX0_init_5 : decode cX0_init 5 = .ok (.sipush 156, 3) := by decide +kernel
theorem dX0_init_8 : decode cX0_init 8 = .ok (.newarray .int, 2) := by decide +kernel
theorem dX0_init_10 : decode cX0_init 10 = .ok (.putfield 9, 3) := by decide +kernel
theorem dX0_init_13 : decode cX0_init 13 = .ok (.aload_n 0, 1) := by decide +kernel
theorem dX0_init_14 : decode cX0_init 14 = .ok (.sipush 156, 3) := by decide +kernel
theorem dX0_init_17 : decode cX0_init 17 = .ok (.newarray .int, 2) := by decide +kernel
theorem dX0_init_19 : decode cX0_init 19 = .ok (.putfield 15, 3) := by decide +kernel
theorem dX0_init_22 : decode cX0_init 22 = .ok (.aload_n 0, 1) := by decide +kernel
theorem dX0_init_23 : decode cX0_init 23 = .ok (.sipush 156, 3) := by decide +kernel
theorem dX0_init_26 : decode cX0_init 26 = .ok (.newarray .int, 2) := by decide +kernel
theorem dX0_init_28 : decode cX0_init 28 = .ok (.putfield 18, 3) := by decide +kernel
theorem dX0_init_31 : decode cX0_init 31 = .ok (.aload_n 0, 1) := by decide +kernel
theorem dX0_init_32 : decode cX0_init 32 = .ok (.sipush 156, 3) := by decide +kernel
theorem dX0_init_35 : decode cX0_init 35 = .ok (.newarray .int, 2) := by decide +kernel
theorem dX0_init_37 : decode cX0_init 37 = .ok (.putfield 21, 3) := by decide +kernel
theorem dX0_init_40 : decode cX0_init 40 = .ok (.aload_n 0, 1) := by decide +kernel
theorem dX0_init_41 : decode cX0_init 41 = .ok (.sipush 156, 3) := by decide +kernel
theorem dX0_init_44 : decode cX0_init 44 = .ok (.newarray .long, 2) := by decide +kernel
theorem dX0_init_46 : decode cX0_init 46 = .ok (.putfield 24, 3) := by decide +kernel
theorem dX0_init_49 : decode cX0_init 49 = .ok (.aload_n 0, 1) := by decide +kernel
theorem dX0_init_50 : decode cX0_init 50 = .ok (.bipush 13, 2) := by decide +kernel
theorem dX0_init_52 : decode cX0_init 52 = .ok (.newarray .int, 2) := by decide +kernel
theorem dX0_init_54 : decode cX0_init 54 = .ok (.putfield 28, 3) := by decide +kernel
theorem dX0_init_57 : decode cX0_init 57 = .ok (.aload_n 0, 1) := by decide +kernel
theorem dX0_init_58 : decode cX0_init 58 = .ok (.iconst 4, 1) := by decide +kernel
theorem dX0_init_59 : decode cX0_init 59 = .ok (.newarray .int, 2) := by decide +kernel
theorem dX0_init_61 : decode cX0_init 61 = .ok (.putfield 31, 3) := by decide +kernel
theorem dX0_init_64 : decode cX0_init 64 = .ok (.aload_n 0, 1) := by decide +kernel
theorem dX0_init_65 : decode cX0_init 65 = .ok (.iconst 4, 1) := by decide +kernel
theorem dX0_init_66 : decode cX0_init 66 = .ok (.newarray .int, 2) := by decide +kernel
theorem dX0_init_68 : decode cX0_init 68 = .ok (.putfield 34, 3) := by decide +kernel
theorem dX0_init_71 : decode cX0_init 71 = .ok (.aload_n 0, 1) := by decide +kernel
theorem dX0_init_72 : decode cX0_init 72 = .ok (.iconst 4, 1) := by decide +kernel
theorem dX0_init_73 : decode cX0_init 73 = .ok (.newarray .int, 2) := by decide +kernel
theorem dX0_init_75 : decode cX0_init 75 = .ok (.putfield 37, 3) := by decide +kernel
theorem dX0_init_78 : decode cX0_init 78 = .ok (.aload_n 0, 1) := by decide +kernel
theorem dX0_init_79 : decode cX0_init 79 = .ok (.getfield 21, 3) := by decide +kernel
theorem dX0_init_82 : decode cX0_init 82 = .ok (.iconst (-1), 1) := by decide +kernel
theorem dX0_init_83 : decode cX0_init 83 = .ok (.invokestatic 40, 3) := by decide +kernel
theorem dX0_init_86 : decode cX0_init 86 = .ok (.aload_n 0, 1) := by decide +kernel
theorem dX0_init_87 : decode cX0_init 87 = .ok (.getfield 28, 3) := by decide +kernel
theorem dX0_init_90 : decode cX0_init 90 = .ok (.iconst (-1), 1) := by decide +kernel
theorem dX0_init_91 : decode cX0_init 91 = .ok (.invokestatic 40, 3) := by decide +kernel
theorem dX0_init_94 : decode cX0_init 94 = .ok (.iconst 0, 1) := by decide +kernel
theorem dX0_init_95 : decode cX0_init 95 = .ok (.istore_n 1, 1) := by decide +kernel
theorem dX0_init_96 : decode cX0_init 96 = .ok (.iload_n 1, 1) := by decide +kernel
theorem dX0_init_97 : decode cX0_init 97 = .ok (.iconst 4, 1) := by decide +kernel
theorem dX0_init_98 : decode cX0_init 98 = .ok (.if_icmp .ge 27, 3) := by decide +kernel
theorem dX0_init_101 : decode cX0_init 101 = .ok (.aload_n 0, 1) := by decide +kernel
theorem dX0_init_102 : decode cX0_init 102 = .ok (.getfield 31, 3) := by decide +kernel
theorem dX0_init_105 : decode cX0_init 105 = .ok (.iload_n 1, 1) := by decide +kernel
theorem dX0_init_106 : decode cX0_init 106 = .ok (.iconst 3, 1) := by decide +kernel
theorem dX0_init_107 : decode cX0_init 107 = .ok (.iload_n 1, 1) := by decide +kernel
theorem dX0_init_108 : decode cX0_init 108 = .ok (.imul, 1) := by decide +kernel
theorem dX0_init_109 : decode cX0_init 109 = .ok (.iconst 1, 1) := by decide +kernel
theorem dX0_init_110 : decode cX0_init 110 = .ok (.iadd, 1) := by decide +kernel
theorem dX0_init_111 : decode cX0_init 111 = .ok (.iastore, 1) := by decide +kernel
theorem dX0_init_112 : decode cX0_init 112 = .ok (.aload_n 0, 1) := by decide +kernel
theorem dX0_init_113 : decode cX0_init 113 = .ok (.getfield 34, 3) := by decide +kernel
theorem dX0_init_116 : decode cX0_init 116 = .ok (.iload_n 1, 1) := by decide +kernel
theorem dX0_init_117 : decode cX0_init 117 = .ok (.iload_n 1, 1) := by decide +kernel
theorem dX0_init_118 : decode cX0_init 118 = .ok (.iastore, 1) := by decide +kernel
theorem dX0_init_119 : decode cX0_init 119 = .ok (.iinc 1 1, 3) := by decide +kernel
theorem dX0_init_122 : decode cX0_init 122 = .ok (.goto (-26), 3) := by decide +kernel
theorem dX0_init_125 : decode cX0_init 125 = .ok (.return_, 1) := by decide +kernel
theorem dX0_copy_0 : decode cX0_copy 0 = .ok (.aload_n 1, 1) := by decide +kernel
theorem dX0_copy_1 : decode cX0_copy 1 = .ok (.getfield 9, 3) := by decide +kernel
theorem dX0_copy_4 : decode cX0_copy 4 = .ok (.iconst 0, 1) := by decide +kernel
theorem dX0_copy_5 : decode cX0_copy 5 = .ok (.aload_n 0, 1) := by decide +kernel
theorem dX0_copy_6 : decode cX0_copy 6 = .ok (.getfield 9, 3) := by decide +kernel
theorem dX0_copy_9 : decode cX0_copy 9 = .ok (.iconst 0, 1) := by decide +kernel
theorem dX0_copy_10 : decode cX0_copy 10 = .ok (.sipush 156, 3) := by decide +kernel
theorem dX0_copy_13 : decode cX0_copy 13 = .ok (.invokestatic 46, 3) := by decide +kernel
theorem dX0_copy_16 : decode cX0_copy 16 = .ok (.aload_n 1, 1) := by decide +kernel
theorem dX0_copy_17 : decode cX0_copy 17 = .ok (.getfield 15, 3) := by decide +kernel
theorem dX0_copy_20 : decode cX0_copy 20 = .ok (.iconst 0, 1) := by decide +kernel
theorem dX0_copy_21 : decode cX0_copy 21 = .ok (.aload_n 0, 1) := by decide +kernel
theorem dX0_copy_22 : decode cX0_copy 22 = .ok (.getfield 15, 3) := by decide +kernel
theorem dX0_copy_25 : decode cX0_copy 25 = .ok (.iconst 0, 1) := by decide +kernel
theorem dX0_copy_26 : decode cX0_copy 26 = .ok (.sipush 156, 3) := by decide +kernel
theorem dX0_copy_29 : decode cX0_copy 29 = .ok (.invokestatic 46, 3) := by decide +kernel
theorem dX0_copy_32 : decode cX0_copy 32 = .ok (.aload_n 1, 1) := by decide +kernel
theorem dX0_copy_33 : decode cX0_copy 33 = .ok (.getfield 18, 3) := by decide +kernel
theorem dX0_copy_36 : decode cX0_copy 36 = .ok (.iconst 0, 1) := by decide +kernel
theorem dX0_copy_37 : decode cX0_copy 37 = .ok (.aload_n 0, 1) := by decide +kernel
theorem dX0_copy_38 : decode cX0_copy 38 = .ok (.getfield 18, 3) := by decide +kernel
theorem dX0_copy_41 : decode cX0_copy 41 = .ok (.iconst 0, 1) := by decide +kernel
theorem dX0_copy_42 : decode cX0_copy 42 = .ok (.sipush 156, 3) := by decide +kernel
theorem dX0_copy_45 : decode cX0_copy 45 = .ok (.invokestatic 46, 3) := by decide +kernel
theorem dX0_copy_48 : decode cX0_copy 48 = .ok (.aload_n 1, 1) := by decide +kernel
theorem dX0_copy_49 : decode cX0_copy 49 = .ok (.getfield 21, 3) := by decide +kernel
theorem dX0_copy_52 : decode cX0_copy 52 = .ok (.iconst 0, 1) := by decide +kernel
theorem dX0_copy_53 : decode cX0_copy 53 = .ok (.aload_n 0, 1) := by decide +kernel
theorem dX0_copy_54 : decode cX0_copy 54 = .ok (.getfield 21, 3) := by decide +kernel
theorem dX0_copy_57 : decode cX0_copy 57 = .ok (.iconst 0, 1) := by decide +kernel
theorem dX0_copy_58 : decode cX0_copy 58 = .ok (.sipush 156, 3) := by decide +kernel
theorem dX0_copy_61 : decode cX0_copy 61 = .ok (.invokestatic 46, 3) := by decide +kernel
theorem dX0_copy_64 : decode cX0_copy 64 = .ok (.aload_n 1, 1) := by decide +kernel
theorem dX0_copy_65 : decode cX0_copy 65 = .ok (.getfield 24, 3) := by decide +kernel
theorem dX0_copy_68 : decode cX0_copy 68 = .ok (.iconst 0, 1) := by decide +kernel
theorem dX0_copy_69 : decode cX0_copy 69 = .ok (.aload_n 0, 1) := by decide +kernel
theorem dX0_copy_70 : decode cX0_copy 70 = .ok (.getfield 24, 3) := by decide +kernel
theorem dX0_copy_73 : decode cX0_copy 73 = .ok (.iconst 0, 1) := by decide +kernel
theorem dX0_copy_74 : decode cX0_copy 74 = .ok (.sipush 156, 3) := by decide +kernel
theorem dX0_copy_77 : decode cX0_copy 77 = .ok (.invokestatic 46, 3) := by decide +kernel
theorem dX0_copy_80 : decode cX0_copy 80 = .ok (.aload_n 1, 1) := by decide +kernel
theorem dX0_copy_81 : decode cX0_copy 81 = .ok (.getfield 28, 3) := by decide +kernel
theorem dX0_copy_84 : decode cX0_copy 84 = .ok (.iconst 0, 1) := by decide +kernel
theorem dX0_copy_85 : decode cX0_copy 85 = .ok (.aload_n 0, 1) := by decide +kernel
theorem dX0_copy_86 : decode cX0_copy 86 = .ok (.getfield 28, 3) := by decide +kernel
theorem dX0_copy_89 : decode cX0_copy 89 = .ok (.iconst 0, 1) := by decide +kernel
theorem dX0_copy_90 : decode cX0_copy 90 = .ok (.bipush 13, 2) := by decide +kernel
theorem dX0_copy_92 : decode cX0_copy 92 = .ok (.invokestatic 46, 3) := by decide +kernel
theorem dX0_copy_95 : decode cX0_copy 95 = .ok (.aload_n 1, 1) := by decide +kernel
theorem dX0_copy_96 : decode cX0_copy 96 = .ok (.getfield 31, 3) := by decide +kernel
theorem dX0_copy_99 : decode cX0_copy 99 = .ok (.iconst 0, 1) := by decide +kernel
theorem dX0_copy_100 : decode cX0_copy 100 = .ok (.aload_n 0, 1) := by decide +kernel
theorem dX0_copy_101 : decode cX0_copy 101 = .ok (.getfield 31, 3) := by decide +kernel
theorem dX0_copy_104 : decode cX0_copy 104 = .ok (.iconst 0, 1) := by decide +kernel
theorem dX0_copy_105 : decode cX0_copy 105 = .ok (.iconst 4, 1) := by decide +kernel
theorem dX0_copy_106 : decode cX0_copy 106 = .ok (.invokestatic 46, 3) := by decide +kernel
theorem dX0_copy_109 : decode cX0_copy 109 = .ok (.aload_n 1, 1) := by decide +kernel
theorem dX0_copy_110 : decode cX0_copy 110 = .ok (.getfield 34, 3) := by decide +kernel
theorem dX0_copy_113 : decode cX0_copy 113 = .ok (.iconst 0, 1) := by decide +kernel
theorem dX0_copy_114 : decode cX0_copy 114 = .ok (.aload_n 0, 1) := by decide +kernel
theorem dX0_copy_115 : decode cX0_copy 115 = .ok (.getfield 34, 3) := by decide +kernel
theorem dX0_copy_118 : decode cX0_copy 118 = .ok (.iconst 0, 1) := by decide +kernel
theorem dX0_copy_119 : decode cX0_copy 119 = .ok (.iconst 4, 1) := by decide +kernel
theorem dX0_copy_120 : decode cX0_copy 120 = .ok (.invokestatic 46, 3) := by decide +kernel
theorem dX0_copy_123 : decode cX0_copy 123 = .ok (.aload_n 1, 1) := by decide +kernel
theorem dX0_copy_124 : decode cX0_copy 124 = .ok (.getfield 37, 3) := by decide +kernel
theorem dX0_copy_127 : decode cX0_copy 127 = .ok (.iconst 0, 1) := by decide +kernel
theorem dX0_copy_128 : decode cX0_copy 128 = .ok (.aload_n 0, 1) := by decide +kernel
theorem dX0_copy_129 : decode cX0_copy 129 = .ok (.getfield 37, 3) := by decide +kernel
theorem dX0_copy_132 : decode cX0_copy 132 = .ok (.iconst 0, 1) := by decide +kernel
theorem dX0_copy_133 : decode cX0_copy 133 = .ok (.iconst 4, 1) := by decide +kernel
theorem dX0_copy_134 : decode cX0_copy 134 = .ok (.invokestatic 46, 3) := by decide +kernel
theorem dX0_copy_137 : decode cX0_copy 137 = .ok (.aload_n 0, 1) := by decide +kernel
theorem dX0_copy_138 : decode cX0_copy 138 = .ok (.aload_n 1, 1) := by decide +kernel
theorem dX0_copy_139 : decode cX0_copy 139 = .ok (.getfield 52, 3) := by decide +kernel
theorem dX0_copy_142 : decode cX0_copy 142 = .ok (.putfield 52, 3) := by decide +kernel
theorem dX0_copy_145 : decode cX0_copy 145 = .ok (.aload_n 0, 1) := by decide +kernel
theorem dX0_copy_146 : decode cX0_copy 146 = .ok (.aload_n 1, 1) := by decide +kernel
theorem dX0_copy_147 : decode cX0_copy 147 = .ok (.getfield 56, 3) := by decide +kernel
theorem dX0_copy_150 : decode cX0_copy 150 = .ok (.putfield 56, 3) := by decide +kernel
theorem dX0_copy_153 : decode cX0_copy 153 = .ok (.aload_n 0, 1) := by decide +kernel
theorem dX0_copy_154 : decode cX0_copy 154 = .ok (.aload_n 1, 1) := by decide +kernel
theorem dX0_copy_155 : decode cX0_copy 155 = .ok (.getfield 59, 3) := by decide +kernel
theorem dX0_copy_158 : decode cX0_copy 158 = .ok (.putfield 59, 3) := by decide +kernel
theorem dX0_copy_161 : decode cX0_copy 161 = .ok (.return_, 1) := by decide +kernel
theorem dX0_isMoving_0 : decode cX0_isMoving 0 = .ok (.iload_n 0, 1) := by decide +kernel
theorem dX0_isMoving_1 : decode cX0_isMoving 1 = .ok (.iconst 4, 1) := by decide +kernel
theorem dX0_isMoving_2 : decode cX0_isMoving 2 = .ok (.if_icmp .eq 15, 3) := by decide +kernel
theorem dX0_isMoving_5 : decode cX0_isMoving 5 = .ok (.iload_n 0, 1) := by decide +kernel
theorem dX0_isMoving_6 : decode cX0_isMoving 6 = .ok (.bipush 7, 2) := by decide +kernel
theorem dX0_isMoving_8 : decode cX0_isMoving 8 = .ok (.if_icmp .eq 9, 3) := by decide +kernel
theorem dX0_isMoving_11 : decode cX0_isMoving 11 = .ok (.iload_n 0, 1) := by decide +kernel
theorem dX0_isMoving_12 : decode cX0_isMoving 12 = .ok (.bipush 9, 2) := by decide +kernel
theorem dX0_isMoving_14 : decode cX0_isMoving 14 = .ok (.if_icmp .ne 7, 3) := by decide +kernel
theorem dX0_isMoving_17 : decode cX0_isMoving 17 = .ok (.iconst 1, 1) := by decide +kernel
theorem dX0_isMoving_18 : decode cX0_isMoving 18 = .ok (.goto 4, 3) := by decide +kernel
theorem dX0_isMoving_21 : decode cX0_isMoving 21 = .ok (.iconst 0, 1) := by decide +kernel
theorem dX0_isMoving_22 : decode cX0_isMoving 22 = .ok (.ireturn, 1) := by decide +kernel
theorem dX0_add_0 : decode cX0_add 0 = .ok (.aload_n 0, 1) := by decide +kernel
theorem dX0_add_1 : decode cX0_add 1 = .ok (.getfield 9, 3) := by decide +kernel
theorem dX0_add_4 : decode cX0_add 4 = .ok (.iload_n 1, 1) := by decide +kernel
theorem dX0_add_5 : decode cX0_add 5 = .ok (.iload_n 2, 1) := by decide +kernel
theorem dX0_add_6 : decode cX0_add 6 = .ok (.iastore, 1) := by decide +kernel
theorem dX0_add_7 : decode cX0_add 7 = .ok (.aload_n 0, 1) := by decide +kernel
theorem dX0_add_8 : decode cX0_add 8 = .ok (.getfield 15, 3) := by decide +kernel
theorem dX0_add_11 : decode cX0_add 11 = .ok (.iload_n 1, 1) := by decide +kernel
theorem dX0_add_12 : decode cX0_add 12 = .ok (.iload_n 3, 1) := by decide +kernel
theorem dX0_add_13 : decode cX0_add 13 = .ok (.iastore, 1) := by decide +kernel
theorem dX0_add_14 : decode cX0_add 14 = .ok (.aload_n 0, 1) := by decide +kernel
theorem dX0_add_15 : decode cX0_add 15 = .ok (.dup, 1) := by decide +kernel
theorem dX0_add_16 : decode cX0_add 16 = .ok (.getfield 52, 3) := by decide +kernel
theorem dX0_add_19 : decode cX0_add 19 = .ok (.iconst 1, 1) := by decide +kernel
theorem dX0_add_20 : decode cX0_add 20 = .ok (.iadd, 1) := by decide +kernel
theorem dX0_add_21 : decode cX0_add 21 = .ok (.putfield 52, 3) := by decide +kernel
theorem dX0_add_24 : decode cX0_add 24 = .ok (.iload_n 2, 1) := by decide +kernel
theorem dX0_add_25 : decode cX0_add 25 = .ok (.invokestatic 63, 3) := by decide +kernel
theorem dX0_add_28 : decode cX0_add 28 = .ok (.ifCond .eq 53, 3) := by decide +kernel
theorem dX0_add_31 : decode cX0_add 31 = .ok (.aload_n 0, 1) := by decide +kernel
theorem dX0_add_32 : decode cX0_add 32 = .ok (.getfield 18, 3) := by decide +kernel
theorem dX0_add_35 : decode cX0_add 35 = .ok (.iload_n 1, 1) := by decide +kernel
theorem dX0_add_36 : decode cX0_add 36 = .ok (.iconst 4, 1) := by decide +kernel
theorem dX0_add_37 : decode cX0_add 37 = .ok (.aload_n 0, 1) := by decide +kernel
theorem dX0_add_38 : decode cX0_add 38 = .ok (.getfield 56, 3) := by decide +kernel
theorem dX0_add_41 : decode cX0_add 41 = .ok (.imul, 1) := by decide +kernel
theorem dX0_add_42 : decode cX0_add 42 = .ok (.iastore, 1) := by decide +kernel
theorem dX0_add_43 : decode cX0_add 43 = .ok (.aload_n 0, 1) := by decide +kernel
theorem dX0_add_44 : decode cX0_add 44 = .ok (.dup, 1) := by decide +kernel
theorem dX0_add_45 : decode cX0_add 45 = .ok (.getfield 56, 3) := by decide +kernel
theorem dX0_add_48 : decode cX0_add 48 = .ok (.iconst 1, 1) := by decide +kernel
theorem dX0_add_49 : decode cX0_add 49 = .ok (.iadd, 1) := by decide +kernel
theorem dX0_add_50 : decode cX0_add 50 = .ok (.putfield 56, 3) := by decide +kernel
theorem dX0_add_53 : decode cX0_add 53 = .ok (.aload_n 0, 1) := by decide +kernel
theorem dX0_add_54 : decode cX0_add 54 = .ok (.dup, 1) := by decide +kernel
theorem dX0_add_55 : decode cX0_add 55 = .ok (.getfield 59, 3) := by decide +kernel
theorem dX0_add_58 : decode cX0_add 58 = .ok (.iload_n 2, 1) := by decide +kernel
theorem dX0_add_59 : decode cX0_add 59 = .ok (.bipush 7, 2) := by decide +kernel
theorem dX0_add_61 : decode cX0_add 61 = .ok (.if_icmp .ne 7, 3) := by decide +kernel
theorem dX0_add_64 : decode cX0_add 64 = .ok (.lconst 0, 1) := by decide +kernel
theorem dX0_add_65 : decode cX0_add 65 = .ok (.goto 12, 3) := by decide +kernel
theorem dX0_add_68 : decode cX0_add 68 = .ok (.iload_n 3, 1) := by decide +kernel
theorem dX0_add_69 : decode cX0_add 69 = .ok (.i2l, 1) := by decide +kernel
theorem dX0_add_70 : decode cX0_add 70 = .ok (.aload_n 0, 1) := by decide +kernel
theorem dX0_add_71 : decode cX0_add 71 = .ok (.getfield 18, 3) := by decide +kernel
theorem dX0_add_74 : decode cX0_add 74 = .ok (.iload_n 1, 1) := by decide +kernel
theorem dX0_add_75 : decode cX0_add 75 = .ok (.iaload, 1) := by decide +kernel
theorem dX0_add_76 : decode cX0_add 76 = .ok (.lshl, 1) := by decide +kernel
theorem dX0_add_77 : decode cX0_add 77 = .ok (.lor, 1) := by decide +kernel
theorem dX0_add_78 : decode cX0_add 78 = .ok (.putfield 59, 3) := by decide +kernel
theorem dX0_add_81 : decode cX0_add 81 = .ok (.return_, 1) := by decide +kernel
theorem dX0_shownAt_0 : decode cX0_shownAt 0 = .ok (.aload_n 0, 1) := by decide +kernel
theorem dX0_shownAt_1 : decode cX0_shownAt 1 = .ok (.getfield 9, 3) := by decide +kernel
theorem dX0_shownAt_4 : decode cX0_shownAt 4 = .ok (.iload_n 1, 1) := by decide +kernel
theorem dX0_shownAt_5 : decode cX0_shownAt 5 = .ok (.iaload, 1) := by decide +kernel
theorem dX0_shownAt_6 : decode cX0_shownAt 6 = .ok (.bipush 6, 2) := by decide +kernel
theorem dX0_shownAt_8 : decode cX0_shownAt 8 = .ok (.if_icmp .ne 10, 3) := by decide +kernel
theorem dX0_shownAt_11 : decode cX0_shownAt 11 = .ok (.aload_n 0, 1) := by decide +kernel
theorem dX0_shownAt_12 : decode cX0_shownAt 12 = .ok (.getfield 15, 3) := by decide +kernel
theorem dX0_shownAt_15 : decode cX0_shownAt 15 = .ok (.iload_n 1, 1) := by decide +kernel
theorem dX0_shownAt_16 : decode cX0_shownAt 16 = .ok (.iaload, 1) := by decide +kernel
theorem dX0_shownAt_17 : decode cX0_shownAt 17 = .ok (.ireturn, 1) := by decide +kernel
theorem dX0_shownAt_18 : decode cX0_shownAt 18 = .ok (.aload_n 0, 1) := by decide +kernel
theorem dX0_shownAt_19 : decode cX0_shownAt 19 = .ok (.getfield 9, 3) := by decide +kernel
theorem dX0_shownAt_22 : decode cX0_shownAt 22 = .ok (.iload_n 1, 1) := by decide +kernel
theorem dX0_shownAt_23 : decode cX0_shownAt 23 = .ok (.iaload, 1) := by decide +kernel
theorem dX0_shownAt_24 : decode cX0_shownAt 24 = .ok (.invokestatic 63, 3) := by decide +kernel
theorem dX0_shownAt_27 : decode cX0_shownAt 27 = .ok (.ifCond .eq 21, 3) := by decide +kernel
theorem dX0_shownAt_30 : decode cX0_shownAt 30 = .ok (.aload_n 0, 1) := by decide +kernel
theorem dX0_shownAt_31 : decode cX0_shownAt 31 = .ok (.getfield 59, 3) := by decide +kernel
theorem dX0_shownAt_34 : decode cX0_shownAt 34 = .ok (.aload_n 0, 1) := by decide +kernel
theorem dX0_shownAt_35 : decode cX0_shownAt 35 = .ok (.getfield 18, 3) := by decide +kernel
theorem dX0_shownAt_38 : decode cX0_shownAt 38 = .ok (.iload_n 1, 1) := by decide +kernel
theorem dX0_shownAt_39 : decode cX0_shownAt 39 = .ok (.iaload, 1) := by decide +kernel
theorem dX0_shownAt_40 : decode cX0_shownAt 40 = .ok (.lushr, 1) := by decide +kernel
theorem dX0_shownAt_41 : decode cX0_shownAt 41 = .ok (.l2i, 1) := by decide +kernel
theorem dX0_shownAt_42 : decode cX0_shownAt 42 = .ok (.bipush 15, 2) := by decide +kernel
theorem dX0_shownAt_44 : decode cX0_shownAt 44 = .ok (.iand, 1) := by decide +kernel
theorem dX0_shownAt_45 : decode cX0_shownAt 45 = .ok (.goto 4, 3) := by decide +kernel
theorem dX0_shownAt_48 : decode cX0_shownAt 48 = .ok (.iconst (-1), 1) := by decide +kernel
theorem dX0_shownAt_49 : decode cX0_shownAt 49 = .ok (.ireturn, 1) := by decide +kernel
theorem dX0_isTurning_0 : decode cX0_isTurning 0 = .ok (.aload_n 0, 1) := by decide +kernel
theorem dX0_isTurning_1 : decode cX0_isTurning 1 = .ok (.getfield 9, 3) := by decide +kernel
theorem dX0_isTurning_4 : decode cX0_isTurning 4 = .ok (.iload_n 1, 1) := by decide +kernel
theorem dX0_isTurning_5 : decode cX0_isTurning 5 = .ok (.iaload, 1) := by decide +kernel
theorem dX0_isTurning_6 : decode cX0_isTurning 6 = .ok (.iconst 4, 1) := by decide +kernel
theorem dX0_isTurning_7 : decode cX0_isTurning 7 = .ok (.if_icmp .eq 14, 3) := by decide +kernel
theorem dX0_isTurning_10 : decode cX0_isTurning 10 = .ok (.aload_n 0, 1) := by decide +kernel
theorem dX0_isTurning_11 : decode cX0_isTurning 11 = .ok (.getfield 9, 3) := by decide +kernel
theorem dX0_isTurning_14 : decode cX0_isTurning 14 = .ok (.iload_n 1, 1) := by decide +kernel
theorem dX0_isTurning_15 : decode cX0_isTurning 15 = .ok (.iaload, 1) := by decide +kernel
theorem dX0_isTurning_16 : decode cX0_isTurning 16 = .ok (.bipush 9, 2) := by decide +kernel
theorem dX0_isTurning_18 : decode cX0_isTurning 18 = .ok (.if_icmp .ne 7, 3) := by decide +kernel
theorem dX0_isTurning_21 : decode cX0_isTurning 21 = .ok (.iconst 1, 1) := by decide +kernel
theorem dX0_isTurning_22 : decode cX0_isTurning 22 = .ok (.goto 4, 3) := by decide +kernel
theorem dX0_isTurning_25 : decode cX0_isTurning 25 = .ok (.iconst 0, 1) := by decide +kernel
theorem dX0_isTurning_26 : decode cX0_isTurning 26 = .ok (.ireturn, 1) := by decide +kernel
theorem dX0_leverCount_0 : decode cX0_leverCount 0 = .ok (.iconst 0, 1) := by decide +kernel
theorem dX0_leverCount_1 : decode cX0_leverCount 1 = .ok (.istore_n 1, 1) := by decide +kernel
theorem dX0_leverCount_2 : decode cX0_leverCount 2 = .ok (.iconst 0, 1) := by decide +kernel
theorem dX0_leverCount_3 : decode cX0_leverCount 3 = .ok (.istore_n 2, 1) := by decide +kernel
theorem dX0_leverCount_4 : decode cX0_leverCount 4 = .ok (.iload_n 2, 1) := by decide +kernel
theorem dX0_leverCount_5 : decode cX0_leverCount 5 = .ok (.bipush 13, 2) := by decide +kernel
theorem dX0_leverCount_7 : decode cX0_leverCount 7 = .ok (.if_icmp .ge 27, 3) := by decide +kernel
theorem dX0_leverCount_10 : decode cX0_leverCount 10 = .ok (.iload_n 1, 1) := by decide +kernel
theorem dX0_leverCount_11 : decode cX0_leverCount 11 = .ok (.aload_n 0, 1) := by decide +kernel
theorem dX0_leverCount_12 : decode cX0_leverCount 12 = .ok (.getfield 28, 3) := by decide +kernel
theorem dX0_leverCount_15 : decode cX0_leverCount 15 = .ok (.iload_n 2, 1) := by decide +kernel
theorem dX0_leverCount_16 : decode cX0_leverCount 16 = .ok (.iaload, 1) := by decide +kernel
theorem dX0_leverCount_17 : decode cX0_leverCount 17 = .ok (.iconst (-1), 1) := by decide +kernel
theorem dX0_leverCount_18 : decode cX0_leverCount 18 = .ok (.if_icmp .ne 7, 3) := by decide +kernel
theorem dX0_leverCount_21 : decode cX0_leverCount 21 = .ok (.iconst 0, 1) := by decide +kernel
theorem dX0_leverCount_22 : decode cX0_leverCount 22 = .ok (.goto 4, 3) := by decide +kernel
theorem dX0_leverCount_25 : decode cX0_leverCount 25 = .ok (.iconst 1, 1) := by decide +kernel
theorem dX0_leverCount_26 : decode cX0_leverCount 26 = .ok (.iadd, 1) := by decide +kernel
theorem dX0_leverCount_27 : decode cX0_leverCount 27 = .ok (.istore_n 1, 1) := by decide +kernel
theorem dX0_leverCount_28 : decode cX0_leverCount 28 = .ok (.iinc 2 1, 3) := by decide +kernel
theorem dX0_leverCount_31 : decode cX0_leverCount 31 = .ok (.goto (-27), 3) := by decide +kernel
theorem dX0_leverCount_34 : decode cX0_leverCount 34 = .ok (.iload_n 1, 1) := by decide +kernel
theorem dX0_leverCount_35 : decode cX0_leverCount 35 = .ok (.ireturn, 1) := by decide +kernel
theorem dX0_gateTrains_0 : decode cX0_gateTrains 0 = .ok (.lconst 0, 1) := by decide +kernel
theorem dX0_gateTrains_1 : decode cX0_gateTrains 1 = .ok (.lstore_n 1, 1) := by decide +kernel
theorem dX0_gateTrains_2 : decode cX0_gateTrains 2 = .ok (.iconst 0, 1) := by decide +kernel
theorem dX0_gateTrains_3 : decode cX0_gateTrains 3 = .ok (.istore_n 3, 1) := by decide +kernel
theorem dX0_gateTrains_4 : decode cX0_gateTrains 4 = .ok (.iconst 0, 1) := by decide +kernel
theorem dX0_gateTrains_5 : decode cX0_gateTrains 5 = .ok (.istore 4, 2) := by decide +kernel
theorem dX0_gateTrains_7 : decode cX0_gateTrains 7 = .ok (.iload 4, 2) := by decide +kernel
theorem dX0_gateTrains_9 : decode cX0_gateTrains 9 = .ok (.sipush 156, 3) := by decide +kernel
theorem dX0_gateTrains_12 : decode cX0_gateTrains 12 = .ok (.if_icmp .ge 32, 3) := by decide +kernel
theorem dX0_gateTrains_15 : decode cX0_gateTrains 15 = .ok (.aload_n 0, 1) := by decide +kernel
theorem dX0_gateTrains_16 : decode cX0_gateTrains 16 = .ok (.iload 4, 2) := by decide +kernel
theorem dX0_gateTrains_18 : decode cX0_gateTrains 18 = .ok (.lload_n 1, 1) := by decide +kernel
theorem dX0_gateTrains_19 : decode cX0_gateTrains 19 = .ok (.invokevirtual 67, 3) := by decide +kernel
theorem dX0_gateTrains_22 : decode cX0_gateTrains 22 = .ok (.ifCond .eq 16, 3) := by decide +kernel
theorem dX0_gateTrains_25 : decode cX0_gateTrains 25 = .ok (.lload_n 1, 1) := by decide +kernel
theorem dX0_gateTrains_26 : decode cX0_gateTrains 26 = .ok (.aload_n 0, 1) := by decide +kernel
theorem dX0_gateTrains_27 : decode cX0_gateTrains 27 = .ok (.getfield 24, 3) := by decide +kernel
theorem dX0_gateTrains_30 : decode cX0_gateTrains 30 = .ok (.iload 4, 2) := by decide +kernel
theorem dX0_gateTrains_32 : decode cX0_gateTrains 32 = .ok (.laload, 1) := by decide +kernel
theorem dX0_gateTrains_33 : decode cX0_gateTrains 33 = .ok (.lor, 1) := by decide +kernel
theorem dX0_gateTrains_34 : decode cX0_gateTrains 34 = .ok (.lstore_n 1, 1) := by decide +kernel
theorem dX0_gateTrains_35 : decode cX0_gateTrains 35 = .ok (.iinc 3 1, 3) := by decide +kernel
theorem dX0_gateTrains_38 : decode cX0_gateTrains 38 = .ok (.iinc 4 1, 3) := by decide +kernel
theorem dX0_gateTrains_41 : decode cX0_gateTrains 41 = .ok (.goto (-34), 3) := by decide +kernel
theorem dX0_gateTrains_44 : decode cX0_gateTrains 44 = .ok (.iload_n 3, 1) := by decide +kernel
theorem dX0_gateTrains_45 : decode cX0_gateTrains 45 = .ok (.ireturn, 1) := by decide +kernel
theorem dX0_isFirstGate_0 : decode cX0_isFirstGate 0 = .ok (.aload_n 0, 1) := by decide +kernel
theorem dX0_isFirstGate_1 : decode cX0_isFirstGate 1 = .ok (.getfield 9, 3) := by decide +kernel
theorem dX0_isFirstGate_4 : decode cX0_isFirstGate 4 = .ok (.iload_n 1, 1) := by decide +kernel
theorem dX0_isFirstGate_5 : decode cX0_isFirstGate 5 = .ok (.iaload, 1) := by decide +kernel
theorem dX0_isFirstGate_6 : decode cX0_isFirstGate 6 = .ok (.iconst 4, 1) := by decide +kernel
theorem dX0_isFirstGate_7 : decode cX0_isFirstGate 7 = .ok (.if_icmp .ne 20, 3) := by decide +kernel
theorem dX0_isFirstGate_10 : decode cX0_isFirstGate 10 = .ok (.lload_n 2, 1) := by decide +kernel
theorem dX0_isFirstGate_11 : decode cX0_isFirstGate 11 = .ok (.aload_n 0, 1) := by decide +kernel
theorem dX0_isFirstGate_12 : decode cX0_isFirstGate 12 = .ok (.getfield 24, 3) := by decide +kernel
theorem dX0_isFirstGate_15 : decode cX0_isFirstGate 15 = .ok (.iload_n 1, 1) := by decide +kernel
theorem dX0_isFirstGate_16 : decode cX0_isFirstGate 16 = .ok (.laload, 1) := by decide +kernel
theorem dX0_isFirstGate_17 : decode cX0_isFirstGate 17 = .ok (.land, 1) := by decide +kernel
theorem dX0_isFirstGate_18 : decode cX0_isFirstGate 18 = .ok (.lconst 0, 1) := by decide +kernel
theorem dX0_isFirstGate_19 : decode cX0_isFirstGate 19 = .ok (.lcmp, 1) := by decide +kernel
theorem dX0_isFirstGate_20 : decode cX0_isFirstGate 20 = .ok (.ifCond .ne 7, 3) := by decide +kernel
theorem dX0_isFirstGate_23 : decode cX0_isFirstGate 23 = .ok (.iconst 1, 1) := by decide +kernel
theorem dX0_isFirstGate_24 : decode cX0_isFirstGate 24 = .ok (.goto 4, 3) := by decide +kernel
theorem dX0_isFirstGate_27 : decode cX0_isFirstGate 27 = .ok (.iconst 0, 1) := by decide +kernel
theorem dX0_isFirstGate_28 : decode cX0_isFirstGate 28 = .ok (.ireturn, 1) := by decide +kernel
theorem dX0_linkTrains_0 : decode cX0_linkTrains 0 = .ok (.aload_n 0, 1) := by decide +kernel
theorem dX0_linkTrains_1 : decode cX0_linkTrains 1 = .ok (.getfield 21, 3) := by decide +kernel
theorem dX0_linkTrains_4 : decode cX0_linkTrains 4 = .ok (.iconst (-1), 1) := by decide +kernel
theorem dX0_linkTrains_5 : decode cX0_linkTrains 5 = .ok (.invokestatic 40, 3) := by decide +kernel
theorem dX0_linkTrains_8 : decode cX0_linkTrains 8 = .ok (.iconst 0, 1) := by decide +kernel
theorem dX0_linkTrains_9 : decode cX0_linkTrains 9 = .ok (.istore_n 2, 1) := by decide +kernel
theorem dX0_linkTrains_10 : decode cX0_linkTrains 10 = .ok (.iload_n 2, 1) := by decide +kernel
theorem dX0_linkTrains_11 : decode cX0_linkTrains 11 = .ok (.sipush 156, 3) := by decide +kernel
theorem dX0_linkTrains_14 : decode cX0_linkTrains 14 = .ok (.if_icmp .ge 15, 3) := by decide +kernel
theorem dX0_linkTrains_17 : decode cX0_linkTrains 17 = .ok (.aload_n 0, 1) := by decide +kernel
theorem dX0_linkTrains_18 : decode cX0_linkTrains 18 = .ok (.iload_n 2, 1) := by decide +kernel
theorem dX0_linkTrains_19 : decode cX0_linkTrains 19 = .ok (.aload_n 1, 1) := by decide +kernel
theorem dX0_linkTrains_20 : decode cX0_linkTrains 20 = .ok (.invokevirtual 71, 3) := by decide +kernel
theorem dX0_linkTrains_23 : decode cX0_linkTrains 23 = .ok (.iinc 2 1, 3) := by decide +kernel
theorem dX0_linkTrains_26 : decode cX0_linkTrains 26 = .ok (.goto (-16), 3) := by decide +kernel
theorem dX0_linkTrains_29 : decode cX0_linkTrains 29 = .ok (.return_, 1) := by decide +kernel
theorem dX0_linkTrain_0 : decode cX0_linkTrain 0 = .ok (.aload_n 0, 1) := by decide +kernel
theorem dX0_linkTrain_1 : decode cX0_linkTrain 1 = .ok (.iload_n 1, 1) := by decide +kernel
theorem dX0_linkTrain_2 : decode cX0_linkTrain 2 = .ok (.iload_n 1, 1) := by decide +kernel
theorem dX0_linkTrain_3 : decode cX0_linkTrain 3 = .ok (.aload_n 2, 1) := by decide +kernel
theorem dX0_linkTrain_4 : decode cX0_linkTrain 4 = .ok (.iconst 0, 1) := by decide +kernel
theorem dX0_linkTrain_5 : decode cX0_linkTrain 5 = .ok (.invokevirtual 75, 3) := by decide +kernel
theorem dX0_linkTrain_8 : decode cX0_linkTrain 8 = .ok (.istore_n 3, 1) := by decide +kernel
theorem dX0_linkTrain_9 : decode cX0_linkTrain 9 = .ok (.lconst 0, 1) := by decide +kernel
theorem dX0_linkTrain_10 : decode cX0_linkTrain 10 = .ok (.lstore 4, 2) := by decide +kernel
theorem dX0_linkTrain_12 : decode cX0_linkTrain 12 = .ok (.iconst 0, 1) := by decide +kernel
theorem dX0_linkTrain_13 : decode cX0_linkTrain 13 = .ok (.istore 6, 2) := by decide +kernel
theorem dX0_linkTrain_15 : decode cX0_linkTrain 15 = .ok (.iload 6, 2) := by decide +kernel
theorem dX0_linkTrain_17 : decode cX0_linkTrain 17 = .ok (.iload_n 3, 1) := by decide +kernel
theorem dX0_linkTrain_18 : decode cX0_linkTrain 18 = .ok (.if_icmp .ge 129, 3) := by decide +kernel
theorem dX0_linkTrain_21 : decode cX0_linkTrain 21 = .ok (.iload 6, 2) := by decide +kernel
theorem dX0_linkTrain_23 : decode cX0_linkTrain 23 = .ok (.sipush 156, 3) := by decide +kernel
theorem dX0_linkTrain_26 : decode cX0_linkTrain 26 = .ok (.if_icmp .ge 121, 3) := by decide +kernel
theorem dX0_linkTrain_29 : decode cX0_linkTrain 29 = .ok (.aload_n 2, 1) := by decide +kernel
theorem dX0_linkTrain_30 : decode cX0_linkTrain 30 = .ok (.iload 6, 2) := by decide +kernel
theorem dX0_linkTrain_32 : decode cX0_linkTrain 32 = .ok (.iaload, 1) := by decide +kernel
theorem dX0_linkTrain_33 : decode cX0_linkTrain 33 = .ok (.istore 7, 2) := by decide +kernel
theorem dX0_linkTrain_35 : decode cX0_linkTrain 35 = .ok (.iload 7, 2) := by decide +kernel
theorem dX0_linkTrain_37 : decode cX0_linkTrain 37 = .ok (.bipush 13, 2) := by decide +kernel
theorem dX0_linkTrain_39 : decode cX0_linkTrain 39 = .ok (.irem, 1) := by decide +kernel
theorem dX0_linkTrain_40 : decode cX0_linkTrain 40 = .ok (.istore 8, 2) := by decide +kernel
theorem dX0_linkTrain_42 : decode cX0_linkTrain 42 = .ok (.iload 8, 2) := by decide +kernel
theorem dX0_linkTrain_44 : decode cX0_linkTrain 44 = .ok (.ifCond .le 17, 3) := by decide +kernel
theorem dX0_linkTrain_47 : decode cX0_linkTrain 47 = .ok (.aload_n 0, 1) := by decide +kernel
theorem dX0_linkTrain_48 : decode cX0_linkTrain 48 = .ok (.iload 7, 2) := by decide +kernel
theorem dX0_linkTrain_50 : decode cX0_linkTrain 50 = .ok (.iconst 1, 1) := by decide +kernel
theorem dX0_linkTrain_51 : decode cX0_linkTrain 51 = .ok (.isub, 1) := by decide +kernel
theorem dX0_linkTrain_52 : decode cX0_linkTrain 52 = .ok (.iload_n 1, 1) := by decide +kernel
theorem dX0_linkTrain_53 : decode cX0_linkTrain 53 = .ok (.aload_n 2, 1) := by decide +kernel
theorem dX0_linkTrain_54 : decode cX0_linkTrain 54 = .ok (.iload_n 3, 1) := by decide +kernel
theorem dX0_linkTrain_55 : decode cX0_linkTrain 55 = .ok (.invokevirtual 75, 3) := by decide +kernel
theorem dX0_linkTrain_58 : decode cX0_linkTrain 58 = .ok (.goto 4, 3) := by decide +kernel
theorem dX0_linkTrain_61 : decode cX0_linkTrain 61 = .ok (.iload_n 3, 1) := by decide +kernel
theorem dX0_linkTrain_62 : decode cX0_linkTrain 62 = .ok (.istore_n 3, 1) := by decide +kernel
theorem dX0_linkTrain_63 : decode cX0_linkTrain 63 = .ok (.iload 8, 2) := by decide +kernel
theorem dX0_linkTrain_65 : decode cX0_linkTrain 65 = .ok (.bipush 12, 2) := by decide +kernel
theorem dX0_linkTrain_67 : decode cX0_linkTrain 67 = .ok (.if_icmp .ge 17, 3) := by decide +kernel
theorem dX0_linkTrain_70 : decode cX0_linkTrain 70 = .ok (.aload_n 0, 1) := by decide +kernel
theorem dX0_linkTrain_71 : decode cX0_linkTrain 71 = .ok (.iload 7, 2) := by decide +kernel
theorem dX0_linkTrain_73 : decode cX0_linkTrain 73 = .ok (.iconst 1, 1) := by decide +kernel
theorem dX0_linkTrain_74 : decode cX0_linkTrain 74 = .ok (.iadd, 1) := by decide +kernel
theorem dX0_linkTrain_75 : decode cX0_linkTrain 75 = .ok (.iload_n 1, 1) := by decide +kernel
theorem dX0_linkTrain_76 : decode cX0_linkTrain 76 = .ok (.aload_n 2, 1) := by decide +kernel
theorem dX0_linkTrain_77 : decode cX0_linkTrain 77 = .ok (.iload_n 3, 1) := by decide +kernel
theorem dX0_linkTrain_78 : decode cX0_linkTrain 78 = .ok (.invokevirtual 75, 3) := by decide +kernel
theorem dX0_linkTrain_81 : decode cX0_linkTrain 81 = .ok (.goto 4, 3) := by decide +kernel
theorem dX0_linkTrain_84 : decode cX0_linkTrain 84 = .ok (.iload_n 3, 1) := by decide +kernel
theorem dX0_linkTrain_85 : decode cX0_linkTrain 85 = .ok (.istore_n 3, 1) := by decide +kernel
theorem dX0_linkTrain_86 : decode cX0_linkTrain 86 = .ok (.aload_n 0, 1) := by decide +kernel
theorem dX0_linkTrain_87 : decode cX0_linkTrain 87 = .ok (.iload 7, 2) := by decide +kernel
theorem dX0_linkTrain_89 : decode cX0_linkTrain 89 = .ok (.bipush 13, 2) := by decide +kernel
theorem dX0_linkTrain_91 : decode cX0_linkTrain 91 = .ok (.isub, 1) := by decide +kernel
theorem dX0_linkTrain_92 : decode cX0_linkTrain 92 = .ok (.iload_n 1, 1) := by decide +kernel
theorem dX0_linkTrain_93 : decode cX0_linkTrain 93 = .ok (.aload_n 2, 1) := by decide +kernel
theorem dX0_linkTrain_94 : decode cX0_linkTrain 94 = .ok (.iload_n 3, 1) := by decide +kernel
theorem dX0_linkTrain_95 : decode cX0_linkTrain 95 = .ok (.invokevirtual 75, 3) := by decide +kernel
theorem dX0_linkTrain_98 : decode cX0_linkTrain 98 = .ok (.istore_n 3, 1) := by decide +kernel
theorem dX0_linkTrain_99 : decode cX0_linkTrain 99 = .ok (.aload_n 0, 1) := by decide +kernel
theorem dX0_linkTrain_100 : decode cX0_linkTrain 100 = .ok (.iload 7, 2) := by decide +kernel
theorem dX0_linkTrain_102 : decode cX0_linkTrain 102 = .ok (.bipush 13, 2) := by decide +kernel
theorem dX0_linkTrain_104 : decode cX0_linkTrain 104 = .ok (.iadd, 1) := by decide +kernel
theorem dX0_linkTrain_105 : decode cX0_linkTrain 105 = .ok (.iload_n 1, 1) := by decide +kernel
theorem dX0_linkTrain_106 : decode cX0_linkTrain 106 = .ok (.aload_n 2, 1) := by decide +kernel
theorem dX0_linkTrain_107 : decode cX0_linkTrain 107 = .ok (.iload_n 3, 1) := by decide +kernel
theorem dX0_linkTrain_108 : decode cX0_linkTrain 108 = .ok (.invokevirtual 75, 3) := by decide +kernel
theorem dX0_linkTrain_111 : decode cX0_linkTrain 111 = .ok (.istore_n 3, 1) := by decide +kernel
theorem dX0_linkTrain_112 : decode cX0_linkTrain 112 = .ok (.lload 4, 2) := by decide +kernel
theorem dX0_linkTrain_114 : decode cX0_linkTrain 114 = .ok (.aload_n 0, 1) := by decide +kernel
theorem dX0_linkTrain_115 : decode cX0_linkTrain 115 = .ok (.getfield 9, 3) := by decide +kernel
theorem dX0_linkTrain_118 : decode cX0_linkTrain 118 = .ok (.iload 7, 2) := by decide +kernel
theorem dX0_linkTrain_120 : decode cX0_linkTrain 120 = .ok (.iaload, 1) := by decide +kernel
theorem dX0_linkTrain_121 : decode cX0_linkTrain 121 = .ok (.iconst 4, 1) := by decide +kernel
theorem dX0_linkTrain_122 : decode cX0_linkTrain 122 = .ok (.if_icmp .ne 15, 3) := by decide +kernel
theorem dX0_linkTrain_125 : decode cX0_linkTrain 125 = .ok (.lconst 1, 1) := by decide +kernel
theorem dX0_linkTrain_126 : decode cX0_linkTrain 126 = .ok (.aload_n 0, 1) := by decide +kernel
theorem dX0_linkTrain_127 : decode cX0_linkTrain 127 = .ok (.getfield 18, 3) := by decide +kernel
theorem dX0_linkTrain_130 : decode cX0_linkTrain 130 = .ok (.iload 7, 2) := by decide +kernel
theorem dX0_linkTrain_132 : decode cX0_linkTrain 132 = .ok (.iaload, 1) := by decide +kernel
theorem dX0_linkTrain_133 : decode cX0_linkTrain 133 = .ok (.lshl, 1) := by decide +kernel
theorem dX0_linkTrain_134 : decode cX0_linkTrain 134 = .ok (.goto 4, 3) := by decide +kernel
theorem dX0_linkTrain_137 : decode cX0_linkTrain 137 = .ok (.lconst 0, 1) := by decide +kernel
theorem dX0_linkTrain_138 : decode cX0_linkTrain 138 = .ok (.lor, 1) := by decide +kernel
theorem dX0_linkTrain_139 : decode cX0_linkTrain 139 = .ok (.lstore 4, 2) := by decide +kernel
theorem dX0_linkTrain_141 : decode cX0_linkTrain 141 = .ok (.iinc 6 1, 3) := by decide +kernel
theorem dX0_linkTrain_144 : decode cX0_linkTrain 144 = .ok (.goto (-129), 3) := by decide +kernel
theorem dX0_linkTrain_147 : decode cX0_linkTrain 147 = .ok (.iconst 0, 1) := by decide +kernel
theorem dX0_linkTrain_148 : decode cX0_linkTrain 148 = .ok (.istore 6, 2) := by decide +kernel
theorem dX0_linkTrain_150 : decode cX0_linkTrain 150 = .ok (.iload 6, 2) := by decide +kernel
theorem dX0_linkTrain_152 : decode cX0_linkTrain 152 = .ok (.iload_n 3, 1) := by decide +kernel
theorem dX0_linkTrain_153 : decode cX0_linkTrain 153 = .ok (.if_icmp .ge 28, 3) := by decide +kernel
theorem dX0_linkTrain_156 : decode cX0_linkTrain 156 = .ok (.iload 6, 2) := by decide +kernel
theorem dX0_linkTrain_158 : decode cX0_linkTrain 158 = .ok (.sipush 156, 3) := by decide +kernel
theorem dX0_linkTrain_161 : decode cX0_linkTrain 161 = .ok (.if_icmp .ge 20, 3) := by decide +kernel
theorem dX0_linkTrain_164 : decode cX0_linkTrain 164 = .ok (.aload_n 0, 1) := by decide +kernel
theorem dX0_linkTrain_165 : decode cX0_linkTrain 165 = .ok (.getfield 24, 3) := by decide +kernel
theorem dX0_linkTrain_168 : decode cX0_linkTrain 168 = .ok (.aload_n 2, 1) := by decide +kernel
theorem dX0_linkTrain_169 : decode cX0_linkTrain 169 = .ok (.iload 6, 2) := by decide +kernel
theorem dX0_linkTrain_171 : decode cX0_linkTrain 171 = .ok (.iaload, 1) := by decide +kernel
theorem dX0_linkTrain_172 : decode cX0_linkTrain 172 = .ok (.lload 4, 2) := by decide +kernel
theorem dX0_linkTrain_174 : decode cX0_linkTrain 174 = .ok (.lastore, 1) := by decide +kernel
theorem dX0_linkTrain_175 : decode cX0_linkTrain 175 = .ok (.iinc 6 1, 3) := by decide +kernel
theorem dX0_linkTrain_178 : decode cX0_linkTrain 178 = .ok (.goto (-28), 3) := by decide +kernel
theorem dX0_linkTrain_181 : decode cX0_linkTrain 181 = .ok (.return_, 1) := by decide +kernel
theorem dX0_reach_0 : decode cX0_reach 0 = .ok (.iload_n 1, 1) := by decide +kernel
theorem dX0_reach_1 : decode cX0_reach 1 = .ok (.ifCond .lt 28, 3) := by decide +kernel
theorem dX0_reach_4 : decode cX0_reach 4 = .ok (.iload_n 1, 1) := by decide +kernel
theorem dX0_reach_5 : decode cX0_reach 5 = .ok (.sipush 156, 3) := by decide +kernel
theorem dX0_reach_8 : decode cX0_reach 8 = .ok (.if_icmp .ge 21, 3) := by decide +kernel
theorem dX0_reach_11 : decode cX0_reach 11 = .ok (.iload 4, 2) := by decide +kernel
theorem dX0_reach_13 : decode cX0_reach 13 = .ok (.sipush 156, 3) := by decide +kernel
theorem dX0_reach_16 : decode cX0_reach 16 = .ok (.if_icmp .ge 13, 3) := by decide +kernel
theorem dX0_reach_19 : decode cX0_reach 19 = .ok (.aload_n 0, 1) := by decide +kernel
theorem dX0_reach_20 : decode cX0_reach 20 = .ok (.getfield 21, 3) := by decide +kernel
theorem dX0_reach_23 : decode cX0_reach 23 = .ok (.iload_n 1, 1) := by decide +kernel
theorem dX0_reach_24 : decode cX0_reach 24 = .ok (.iaload, 1) := by decide +kernel
theorem dX0_reach_25 : decode cX0_reach 25 = .ok (.iconst (-1), 1) := by decide +kernel
theorem dX0_reach_26 : decode cX0_reach 26 = .ok (.if_icmp .eq 6, 3) := by decide +kernel
theorem dX0_reach_29 : decode cX0_reach 29 = .ok (.iload 4, 2) := by decide +kernel
theorem dX0_reach_31 : decode cX0_reach 31 = .ok (.ireturn, 1) := by decide +kernel
theorem dX0_reach_32 : decode cX0_reach 32 = .ok (.aload_n 0, 1) := by decide +kernel
theorem dX0_reach_33 : decode cX0_reach 33 = .ok (.getfield 9, 3) := by decide +kernel
theorem dX0_reach_36 : decode cX0_reach 36 = .ok (.iload_n 1, 1) := by decide +kernel
theorem dX0_reach_37 : decode cX0_reach 37 = .ok (.iaload, 1) := by decide +kernel
theorem dX0_reach_38 : decode cX0_reach 38 = .ok (.iconst 4, 1) := by decide +kernel
theorem dX0_reach_39 : decode cX0_reach 39 = .ok (.if_icmp .eq 17, 3) := by decide +kernel
theorem dX0_reach_42 : decode cX0_reach 42 = .ok (.aload_n 0, 1) := by decide +kernel
theorem dX0_reach_43 : decode cX0_reach 43 = .ok (.getfield 9, 3) := by decide +kernel
theorem dX0_reach_46 : decode cX0_reach 46 = .ok (.iload_n 1, 1) := by decide +kernel
theorem dX0_reach_47 : decode cX0_reach 47 = .ok (.iaload, 1) := by decide +kernel
theorem dX0_reach_48 : decode cX0_reach 48 = .ok (.bipush 8, 2) := by decide +kernel
theorem dX0_reach_50 : decode cX0_reach 50 = .ok (.if_icmp .eq 6, 3) := by decide +kernel
theorem dX0_reach_53 : decode cX0_reach 53 = .ok (.iload 4, 2) := by decide +kernel
theorem dX0_reach_55 : decode cX0_reach 55 = .ok (.ireturn, 1) := by decide +kernel
theorem dX0_reach_56 : decode cX0_reach 56 = .ok (.aload_n 0, 1) := by decide +kernel
theorem dX0_reach_57 : decode cX0_reach 57 = .ok (.getfield 21, 3) := by decide +kernel
theorem dX0_reach_60 : decode cX0_reach 60 = .ok (.iload_n 1, 1) := by decide +kernel
theorem dX0_reach_61 : decode cX0_reach 61 = .ok (.iload_n 2, 1) := by decide +kernel
theorem dX0_reach_62 : decode cX0_reach 62 = .ok (.iastore, 1) := by decide +kernel
theorem dX0_reach_63 : decode cX0_reach 63 = .ok (.aload_n 3, 1) := by decide +kernel
theorem dX0_reach_64 : decode cX0_reach 64 = .ok (.iload 4, 2) := by decide +kernel
theorem dX0_reach_66 : decode cX0_reach 66 = .ok (.iload_n 1, 1) := by decide +kernel
theorem dX0_reach_67 : decode cX0_reach 67 = .ok (.iastore, 1) := by decide +kernel
theorem dX0_reach_68 : decode cX0_reach 68 = .ok (.iload 4, 2) := by decide +kernel
theorem dX0_reach_70 : decode cX0_reach 70 = .ok (.iconst 1, 1) := by decide +kernel
theorem dX0_reach_71 : decode cX0_reach 71 = .ok (.iadd, 1) := by decide +kernel
theorem dX0_reach_72 : decode cX0_reach 72 = .ok (.ireturn, 1) := by decide +kernel
theorem dX0_dropFrom_0 : decode cX0_dropFrom 0 = .ok (.aload_n 0, 1) := by decide +kernel
theorem dX0_dropFrom_1 : decode cX0_dropFrom 1 = .ok (.lload_n 1, 1) := by decide +kernel
theorem dX0_dropFrom_2 : decode cX0_dropFrom 2 = .ok (.putfield 79, 3) := by decide +kernel
theorem dX0_dropFrom_5 : decode cX0_dropFrom 5 = .ok (.aload_n 0, 1) := by decide +kernel
theorem dX0_dropFrom_6 : decode cX0_dropFrom 6 = .ok (.getfield 31, 3) := by decide +kernel
theorem dX0_dropFrom_9 : decode cX0_dropFrom 9 = .ok (.iload_n 3, 1) := by decide +kernel
theorem dX0_dropFrom_10 : decode cX0_dropFrom 10 = .ok (.iaload, 1) := by decide +kernel
theorem dX0_dropFrom_11 : decode cX0_dropFrom 11 = .ok (.istore 6, 2) := by decide +kernel
theorem dX0_dropFrom_13 : decode cX0_dropFrom 13 = .ok (.iload_n 3, 1) := by decide +kernel
theorem dX0_dropFrom_14 : decode cX0_dropFrom 14 = .ok (.iconst 2, 1) := by decide +kernel
theorem dX0_dropFrom_15 : decode cX0_dropFrom 15 = .ok (.irem, 1) := by decide +kernel
theorem dX0_dropFrom_16 : decode cX0_dropFrom 16 = .ok (.ifCond .ne 7, 3) := by decide +kernel
theorem dX0_dropFrom_19 : decode cX0_dropFrom 19 = .ok (.iconst 1, 1) := by decide +kernel
theorem dX0_dropFrom_20 : decode cX0_dropFrom 20 = .ok (.goto 4, 3) := by decide +kernel
theorem dX0_dropFrom_23 : decode cX0_dropFrom 23 = .ok (.iconst 0, 1) := by decide +kernel
theorem dX0_dropFrom_24 : decode cX0_dropFrom 24 = .ok (.istore 7, 2) := by decide +kernel
theorem dX0_dropFrom_26 : decode cX0_dropFrom 26 = .ok (.iconst 0, 1) := by decide +kernel
theorem dX0_dropFrom_27 : decode cX0_dropFrom 27 = .ok (.istore 8, 2) := by decide +kernel
theorem dX0_dropFrom_29 : decode cX0_dropFrom 29 = .ok (.iload 8, 2) := by decide +kernel
theorem dX0_dropFrom_31 : decode cX0_dropFrom 31 = .ok (.bipush 12, 2) := by decide +kernel
theorem dX0_dropFrom_33 : decode cX0_dropFrom 33 = .ok (.if_icmp .ge 123, 3) := by decide +kernel
theorem dX0_dropFrom_36 : decode cX0_dropFrom 36 = .ok (.iload 6, 2) := by decide +kernel
theorem dX0_dropFrom_38 : decode cX0_dropFrom 38 = .ok (.iload 8, 2) := by decide +kernel
theorem dX0_dropFrom_40 : decode cX0_dropFrom 40 = .ok (.invokestatic 82, 3) := by decide +kernel
theorem dX0_dropFrom_43 : decode cX0_dropFrom 43 = .ok (.istore 9, 2) := by decide +kernel
theorem dX0_dropFrom_45 : decode cX0_dropFrom 45 = .ok (.aload_n 0, 1) := by decide +kernel
theorem dX0_dropFrom_46 : decode cX0_dropFrom 46 = .ok (.getfield 9, 3) := by decide +kernel
theorem dX0_dropFrom_49 : decode cX0_dropFrom 49 = .ok (.iload 9, 2) := by decide +kernel
theorem dX0_dropFrom_51 : decode cX0_dropFrom 51 = .ok (.iaload, 1) := by decide +kernel
theorem dX0_dropFrom_52 : decode cX0_dropFrom 52 = .ok (.istore 10, 2) := by decide +kernel
theorem dX0_dropFrom_54 : decode cX0_dropFrom 54 = .ok (.iload 10, 2) := by decide +kernel
theorem dX0_dropFrom_56 : decode cX0_dropFrom 56 = .ok (.ifCond .ne 6, 3) := by decide +kernel
theorem dX0_dropFrom_59 : decode cX0_dropFrom 59 = .ok (.goto 91, 3) := by decide +kernel
theorem dX0_dropFrom_62 : decode cX0_dropFrom 62 = .ok (.iload 10, 2) := by decide +kernel
theorem dX0_dropFrom_64 : decode cX0_dropFrom 64 = .ok (.iconst 5, 1) := by decide +kernel
theorem dX0_dropFrom_65 : decode cX0_dropFrom 65 = .ok (.if_icmp .ne 13, 3) := by decide +kernel
theorem dX0_dropFrom_68 : decode cX0_dropFrom 68 = .ok (.sipush 256, 3) := by decide +kernel
theorem dX0_dropFrom_71 : decode cX0_dropFrom 71 = .ok (.bipush 16, 2) := by decide +kernel
theorem dX0_dropFrom_73 : decode cX0_dropFrom 73 = .ok (.iload 8, 2) := by decide +kernel
theorem dX0_dropFrom_75 : decode cX0_dropFrom 75 = .ok (.imul, 1) := by decide +kernel
theorem dX0_dropFrom_76 : decode cX0_dropFrom 76 = .ok (.iadd, 1) := by decide +kernel
theorem dX0_dropFrom_77 : decode cX0_dropFrom 77 = .ok (.ireturn, 1) := by decide +kernel
theorem dX0_dropFrom_78 : decode cX0_dropFrom 78 = .ok (.iload 10, 2) := by decide +kernel
theorem dX0_dropFrom_80 : decode cX0_dropFrom 80 = .ok (.bipush 8, 2) := by decide +kernel
theorem dX0_dropFrom_82 : decode cX0_dropFrom 82 = .ok (.if_icmp .ne 13, 3) := by decide +kernel
theorem dX0_dropFrom_85 : decode cX0_dropFrom 85 = .ok (.sipush 512, 3) := by decide +kernel
theorem dX0_dropFrom_88 : decode cX0_dropFrom 88 = .ok (.bipush 16, 2) := by decide +kernel
theorem dX0_dropFrom_90 : decode cX0_dropFrom 90 = .ok (.iload 8, 2) := by decide +kernel
theorem dX0_dropFrom_92 : decode cX0_dropFrom 92 = .ok (.imul, 1) := by decide +kernel
theorem dX0_dropFrom_93 : decode cX0_dropFrom 93 = .ok (.iadd, 1) := by decide +kernel
theorem dX0_dropFrom_94 : decode cX0_dropFrom 94 = .ok (.ireturn, 1) := by decide +kernel
theorem dX0_dropFrom_95 : decode cX0_dropFrom 95 = .ok (.aload_n 0, 1) := by decide +kernel
theorem dX0_dropFrom_96 : decode cX0_dropFrom 96 = .ok (.iload 9, 2) := by decide +kernel
theorem dX0_dropFrom_98 : decode cX0_dropFrom 98 = .ok (.aload_n 0, 1) := by decide +kernel
theorem dX0_dropFrom_99 : decode cX0_dropFrom 99 = .ok (.getfield 34, 3) := by decide +kernel
theorem dX0_dropFrom_102 : decode cX0_dropFrom 102 = .ok (.iload_n 3, 1) := by decide +kernel
theorem dX0_dropFrom_103 : decode cX0_dropFrom 103 = .ok (.iaload, 1) := by decide +kernel
theorem dX0_dropFrom_104 : decode cX0_dropFrom 104 = .ok (.iload 7, 2) := by decide +kernel
theorem dX0_dropFrom_106 : decode cX0_dropFrom 106 = .ok (.lload 4, 2) := by decide +kernel
theorem dX0_dropFrom_108 : decode cX0_dropFrom 108 = .ok (.invokevirtual 86, 3) := by decide +kernel
theorem dX0_dropFrom_111 : decode cX0_dropFrom 111 = .ok (.istore 7, 2) := by decide +kernel
theorem dX0_dropFrom_113 : decode cX0_dropFrom 113 = .ok (.iload 6, 2) := by decide +kernel
theorem dX0_dropFrom_115 : decode cX0_dropFrom 115 = .ok (.iload 7, 2) := by decide +kernel
theorem dX0_dropFrom_117 : decode cX0_dropFrom 117 = .ok (.ifCond .eq 7, 3) := by decide +kernel
theorem dX0_dropFrom_120 : decode cX0_dropFrom 120 = .ok (.iconst 1, 1) := by decide +kernel
theorem dX0_dropFrom_121 : decode cX0_dropFrom 121 = .ok (.goto 4, 3) := by decide +kernel
theorem dX0_dropFrom_124 : decode cX0_dropFrom 124 = .ok (.iconst (-1), 1) := by decide +kernel
theorem dX0_dropFrom_125 : decode cX0_dropFrom 125 = .ok (.iadd, 1) := by decide +kernel
theorem dX0_dropFrom_126 : decode cX0_dropFrom 126 = .ok (.istore 6, 2) := by decide +kernel
theorem dX0_dropFrom_128 : decode cX0_dropFrom 128 = .ok (.iload 6, 2) := by decide +kernel
theorem dX0_dropFrom_130 : decode cX0_dropFrom 130 = .ok (.ifCond .lt 10, 3) := by decide +kernel
theorem dX0_dropFrom_133 : decode cX0_dropFrom 133 = .ok (.iload 6, 2) := by decide +kernel
theorem dX0_dropFrom_135 : decode cX0_dropFrom 135 = .ok (.bipush 13, 2) := by decide +kernel
theorem dX0_dropFrom_137 : decode cX0_dropFrom 137 = .ok (.if_icmp .lt 13, 3) := by decide +kernel
theorem dX0_dropFrom_140 : decode cX0_dropFrom 140 = .ok (.sipush 768, 3) := by decide +kernel
theorem dX0_dropFrom_143 : decode cX0_dropFrom 143 = .ok (.bipush 16, 2) := by decide +kernel
theorem dX0_dropFrom_145 : decode cX0_dropFrom 145 = .ok (.iload 8, 2) := by decide +kernel
theorem dX0_dropFrom_147 : decode cX0_dropFrom 147 = .ok (.imul, 1) := by decide +kernel
theorem dX0_dropFrom_148 : decode cX0_dropFrom 148 = .ok (.iadd, 1) := by decide +kernel
theorem dX0_dropFrom_149 : decode cX0_dropFrom 149 = .ok (.ireturn, 1) := by decide +kernel
theorem dX0_dropFrom_150 : decode cX0_dropFrom 150 = .ok (.iinc 8 1, 3) := by decide +kernel
theorem dX0_dropFrom_153 : decode cX0_dropFrom 153 = .ok (.goto (-124), 3) := by decide +kernel
theorem dX0_dropFrom_156 : decode cX0_dropFrom 156 = .ok (.iload 6, 2) := by decide +kernel
theorem dX0_dropFrom_158 : decode cX0_dropFrom 158 = .ok (.ireturn, 1) := by decide +kernel
theorem dX0_sendsRight_0 : decode cX0_sendsRight 0 = .ok (.aload_n 0, 1) := by decide +kernel
theorem dX0_sendsRight_1 : decode cX0_sendsRight 1 = .ok (.getfield 18, 3) := by decide +kernel
theorem dX0_sendsRight_4 : decode cX0_sendsRight 4 = .ok (.iload_n 1, 1) := by decide +kernel
theorem dX0_sendsRight_5 : decode cX0_sendsRight 5 = .ok (.iaload, 1) := by decide +kernel
theorem dX0_sendsRight_6 : decode cX0_sendsRight 6 = .ok (.istore 6, 2) := by decide +kernel
theorem dX0_sendsRight_8 : decode cX0_sendsRight 8 = .ok (.aload_n 0, 1) := by decide +kernel
theorem dX0_sendsRight_9 : decode cX0_sendsRight 9 = .ok (.getfield 79, 3) := by decide +kernel
theorem dX0_sendsRight_12 : decode cX0_sendsRight 12 = .ok (.iload 6, 2) := by decide +kernel
theorem dX0_sendsRight_14 : decode cX0_sendsRight 14 = .ok (.lushr, 1) := by decide +kernel
theorem dX0_sendsRight_15 : decode cX0_sendsRight 15 = .ok (.l2i, 1) := by decide +kernel
theorem dX0_sendsRight_16 : decode cX0_sendsRight 16 = .ok (.bipush 15, 2) := by decide +kernel
theorem dX0_sendsRight_18 : decode cX0_sendsRight 18 = .ok (.iand, 1) := by decide +kernel
theorem dX0_sendsRight_19 : decode cX0_sendsRight 19 = .ok (.istore 7, 2) := by decide +kernel
theorem dX0_sendsRight_21 : decode cX0_sendsRight 21 = .ok (.aload_n 0, 1) := by decide +kernel
theorem dX0_sendsRight_22 : decode cX0_sendsRight 22 = .ok (.getfield 9, 3) := by decide +kernel
theorem dX0_sendsRight_25 : decode cX0_sendsRight 25 = .ok (.iload_n 1, 1) := by decide +kernel
theorem dX0_sendsRight_26 : decode cX0_sendsRight 26 = .ok (.iaload, 1) := by decide +kernel
theorem dX0_sendsRight_27 : decode cX0_sendsRight 27 = .ok (.tableswitch 168 2 9 #[45, 47, 49, 168, 83, 99, 168, 141], 45) := by decide +kernel
theorem dX0_sendsRight_72 : decode cX0_sendsRight 72 = .ok (.iconst 1, 1) := by decide +kernel
theorem dX0_sendsRight_73 : decode cX0_sendsRight 73 = .ok (.ireturn, 1) := by decide +kernel
theorem dX0_sendsRight_74 : decode cX0_sendsRight 74 = .ok (.iload_n 3, 1) := by decide +kernel
theorem dX0_sendsRight_75 : decode cX0_sendsRight 75 = .ok (.ireturn, 1) := by decide +kernel
theorem dX0_sendsRight_76 : decode cX0_sendsRight 76 = .ok (.aload_n 0, 1) := by decide +kernel
theorem dX0_sendsRight_77 : decode cX0_sendsRight 77 = .ok (.dup, 1) := by decide +kernel
theorem dX0_sendsRight_78 : decode cX0_sendsRight 78 = .ok (.getfield 79, 3) := by decide +kernel
theorem dX0_sendsRight_81 : decode cX0_sendsRight 81 = .ok (.aload_n 0, 1) := by decide +kernel
theorem dX0_sendsRight_82 : decode cX0_sendsRight 82 = .ok (.getfield 24, 3) := by decide +kernel
theorem dX0_sendsRight_85 : decode cX0_sendsRight 85 = .ok (.iload_n 1, 1) := by decide +kernel
theorem dX0_sendsRight_86 : decode cX0_sendsRight 86 = .ok (.laload, 1) := by decide +kernel
theorem dX0_sendsRight_87 : decode cX0_sendsRight 87 = .ok (.lload 4, 2) := by decide +kernel
theorem dX0_sendsRight_89 : decode cX0_sendsRight 89 = .ok (.ldc2_w 90, 3) := by decide +kernel
theorem dX0_sendsRight_92 : decode cX0_sendsRight 92 = .ok (.lxor, 1) := by decide +kernel
theorem dX0_sendsRight_93 : decode cX0_sendsRight 93 = .ok (.land, 1) := by decide +kernel
theorem dX0_sendsRight_94 : decode cX0_sendsRight 94 = .ok (.lxor, 1) := by decide +kernel
theorem dX0_sendsRight_95 : decode cX0_sendsRight 95 = .ok (.putfield 79, 3) := by decide +kernel
theorem dX0_sendsRight_98 : decode cX0_sendsRight 98 = .ok (.iload 7, 2) := by decide +kernel
theorem dX0_sendsRight_100 : decode cX0_sendsRight 100 = .ok (.iconst 1, 1) := by decide +kernel
theorem dX0_sendsRight_101 : decode cX0_sendsRight 101 = .ok (.if_icmp .ne 7, 3) := by decide +kernel
theorem dX0_sendsRight_104 : decode cX0_sendsRight 104 = .ok (.iconst 1, 1) := by decide +kernel
theorem dX0_sendsRight_105 : decode cX0_sendsRight 105 = .ok (.goto 4, 3) := by decide +kernel
theorem dX0_sendsRight_108 : decode cX0_sendsRight 108 = .ok (.iconst 0, 1) := by decide +kernel
theorem dX0_sendsRight_109 : decode cX0_sendsRight 109 = .ok (.ireturn, 1) := by decide +kernel
theorem dX0_sendsRight_110 : decode cX0_sendsRight 110 = .ok (.iload_n 2, 1) := by decide +kernel
theorem dX0_sendsRight_111 : decode cX0_sendsRight 111 = .ok (.aload_n 0, 1) := by decide +kernel
theorem dX0_sendsRight_112 : decode cX0_sendsRight 112 = .ok (.getfield 15, 3) := by decide +kernel
theorem dX0_sendsRight_115 : decode cX0_sendsRight 115 = .ok (.iload_n 1, 1) := by decide +kernel
theorem dX0_sendsRight_116 : decode cX0_sendsRight 116 = .ok (.iaload, 1) := by decide +kernel
theorem dX0_sendsRight_117 : decode cX0_sendsRight 117 = .ok (.if_icmp .eq 7, 3) := by decide +kernel
theorem dX0_sendsRight_120 : decode cX0_sendsRight 120 = .ok (.iconst 1, 1) := by decide +kernel
theorem dX0_sendsRight_121 : decode cX0_sendsRight 121 = .ok (.goto 4, 3) := by decide +kernel
theorem dX0_sendsRight_124 : decode cX0_sendsRight 124 = .ok (.iconst 0, 1) := by decide +kernel
theorem dX0_sendsRight_125 : decode cX0_sendsRight 125 = .ok (.ireturn, 1) := by decide +kernel
theorem dX0_sendsRight_126 : decode cX0_sendsRight 126 = .ok (.iload 7, 2) := by decide +kernel
theorem dX0_sendsRight_128 : decode cX0_sendsRight 128 = .ok (.iconst 1, 1) := by decide +kernel
theorem dX0_sendsRight_129 : decode cX0_sendsRight 129 = .ok (.iadd, 1) := by decide +kernel
theorem dX0_sendsRight_130 : decode cX0_sendsRight 130 = .ok (.aload_n 0, 1) := by decide +kernel
theorem dX0_sendsRight_131 : decode cX0_sendsRight 131 = .ok (.getfield 15, 3) := by decide +kernel
theorem dX0_sendsRight_134 : decode cX0_sendsRight 134 = .ok (.iload_n 1, 1) := by decide +kernel
theorem dX0_sendsRight_135 : decode cX0_sendsRight 135 = .ok (.iaload, 1) := by decide +kernel
theorem dX0_sendsRight_136 : decode cX0_sendsRight 136 = .ok (.if_icmp .lt 7, 3) := by decide +kernel
theorem dX0_sendsRight_139 : decode cX0_sendsRight 139 = .ok (.iconst 1, 1) := by decide +kernel
theorem dX0_sendsRight_140 : decode cX0_sendsRight 140 = .ok (.goto 4, 3) := by decide +kernel
theorem dX0_sendsRight_143 : decode cX0_sendsRight 143 = .ok (.iconst 0, 1) := by decide +kernel
theorem dX0_sendsRight_144 : decode cX0_sendsRight 144 = .ok (.istore 8, 2) := by decide +kernel
theorem dX0_sendsRight_146 : decode cX0_sendsRight 146 = .ok (.aload_n 0, 1) := by decide +kernel
theorem dX0_sendsRight_147 : decode cX0_sendsRight 147 = .ok (.iload 6, 2) := by decide +kernel
theorem dX0_sendsRight_149 : decode cX0_sendsRight 149 = .ok (.iload 8, 2) := by decide +kernel
theorem dX0_sendsRight_151 : decode cX0_sendsRight 151 = .ok (.ifCond .eq 7, 3) := by decide +kernel
theorem dX0_sendsRight_154 : decode cX0_sendsRight 154 = .ok (.iconst 0, 1) := by decide +kernel
theorem dX0_sendsRight_155 : decode cX0_sendsRight 155 = .ok (.goto 7, 3) := by decide +kernel
theorem dX0_sendsRight_158 : decode cX0_sendsRight 158 = .ok (.iload 7, 2) := by decide +kernel
theorem dX0_sendsRight_160 : decode cX0_sendsRight 160 = .ok (.iconst 1, 1) := by decide +kernel
theorem dX0_sendsRight_161 : decode cX0_sendsRight 161 = .ok (.iadd, 1) := by decide +kernel
theorem dX0_sendsRight_162 : decode cX0_sendsRight 162 = .ok (.invokevirtual 92, 3) := by decide +kernel
theorem dX0_sendsRight_165 : decode cX0_sendsRight 165 = .ok (.iload 8, 2) := by decide +kernel
theorem dX0_sendsRight_167 : decode cX0_sendsRight 167 = .ok (.ireturn, 1) := by decide +kernel
theorem dX0_sendsRight_168 : decode cX0_sendsRight 168 = .ok (.aload_n 0, 1) := by decide +kernel
theorem dX0_sendsRight_169 : decode cX0_sendsRight 169 = .ok (.iload 6, 2) := by decide +kernel
theorem dX0_sendsRight_171 : decode cX0_sendsRight 171 = .ok (.iload_n 3, 1) := by decide +kernel
theorem dX0_sendsRight_172 : decode cX0_sendsRight 172 = .ok (.ifCond .eq 7, 3) := by decide +kernel
theorem dX0_sendsRight_175 : decode cX0_sendsRight 175 = .ok (.iconst 1, 1) := by decide +kernel
theorem dX0_sendsRight_176 : decode cX0_sendsRight 176 = .ok (.goto 4, 3) := by decide +kernel
theorem dX0_sendsRight_179 : decode cX0_sendsRight 179 = .ok (.iconst 0, 1) := by decide +kernel
theorem dX0_sendsRight_180 : decode cX0_sendsRight 180 = .ok (.invokevirtual 92, 3) := by decide +kernel
theorem dX0_sendsRight_183 : decode cX0_sendsRight 183 = .ok (.iload 7, 2) := by decide +kernel
theorem dX0_sendsRight_185 : decode cX0_sendsRight 185 = .ok (.iconst 1, 1) := by decide +kernel
theorem dX0_sendsRight_186 : decode cX0_sendsRight 186 = .ok (.if_icmp .ne 7, 3) := by decide +kernel
theorem dX0_sendsRight_189 : decode cX0_sendsRight 189 = .ok (.iconst 1, 1) := by decide +kernel
theorem dX0_sendsRight_190 : decode cX0_sendsRight 190 = .ok (.goto 4, 3) := by decide +kernel
theorem dX0_sendsRight_193 : decode cX0_sendsRight 193 = .ok (.iconst 0, 1) := by decide +kernel
theorem dX0_sendsRight_194 : decode cX0_sendsRight 194 = .ok (.ireturn, 1) := by decide +kernel
theorem dX0_sendsRight_195 : decode cX0_sendsRight 195 = .ok (.iconst 0, 1) := by decide +kernel
theorem dX0_sendsRight_196 : decode cX0_sendsRight 196 = .ok (.ireturn, 1) := by decide +kernel
theorem dX0_setBits_0 : decode cX0_setBits 0 = .ok (.aload_n 0, 1) := by decide +kernel
theorem dX0_setBits_1 : decode cX0_setBits 1 = .ok (.aload_n 0, 1) := by decide +kernel
theorem dX0_setBits_2 : decode cX0_setBits 2 = .ok (.getfield 79, 3) := by decide +kernel
theorem dX0_setBits_5 : decode cX0_setBits 5 = .ok (.ldc2_w 96, 3) := by decide +kernel
theorem dX0_setBits_8 : decode cX0_setBits 8 = .ok (.iload_n 1, 1) := by decide +kernel
theorem dX0_setBits_9 : decode cX0_setBits 9 = .ok (.lshl, 1) := by decide +kernel
theorem dX0_setBits_10 : decode cX0_setBits 10 = .ok (.ldc2_w 90, 3) := by decide +kernel
theorem dX0_setBits_13 : decode cX0_setBits 13 = .ok (.lxor, 1) := by decide +kernel
theorem dX0_setBits_14 : decode cX0_setBits 14 = .ok (.land, 1) := by decide +kernel
theorem dX0_setBits_15 : decode cX0_setBits 15 = .ok (.iload_n 2, 1) := by decide +kernel
theorem dX0_setBits_16 : decode cX0_setBits 16 = .ok (.i2l, 1) := by decide +kernel
theorem dX0_setBits_17 : decode cX0_setBits 17 = .ok (.iload_n 1, 1) := by decide +kernel
theorem dX0_setBits_18 : decode cX0_setBits 18 = .ok (.lshl, 1) := by decide +kernel
theorem dX0_setBits_19 : decode cX0_setBits 19 = .ok (.lor, 1) := by decide +kernel
theorem dX0_setBits_20 : decode cX0_setBits 20 = .ok (.putfield 79, 3) := by decide +kernel
theorem dX0_setBits_23 : decode cX0_setBits 23 = .ok (.return_, 1) := by decide +kernel
theorem dX1_init_0 : decode cX1_init 0 = .ok (.aload_n 0, 1) := by decide +kernel
theorem dX1_init_1 : decode cX1_init 1 = .ok (.invokespecial 3, 3) := by decide +kernel
theorem dX1_init_4 : decode cX1_init 4 = .ok (.aload_n 0, 1) := by decide +kernel
theorem dX1_init_5 : decode cX1_init 5 = .ok (.bipush 100, 2) := by decide +kernel
theorem dX1_init_7 : decode cX1_init 7 = .ok (.newarray .int, 2) := by decide +kernel
theorem dX1_init_9 : decode cX1_init 9 = .ok (.putfield 11, 3) := by decide +kernel
theorem dX1_init_12 : decode cX1_init 12 = .ok (.return_, 1) := by decide +kernel
theorem dX1_add_0 : decode cX1_add 0 = .ok (.aload_n 0, 1) := by decide +kernel
theorem dX1_add_1 : decode cX1_add 1 = .ok (.getfield 11, 3) := by decide +kernel
theorem dX1_add_4 : decode cX1_add 4 = .ok (.aload_n 0, 1) := by decide +kernel
theorem dX1_add_5 : decode cX1_add 5 = .ok (.getfield 15, 3) := by decide +kernel
theorem dX1_add_8 : decode cX1_add 8 = .ok (.bipush 100, 2) := by decide +kernel
theorem dX1_add_10 : decode cX1_add 10 = .ok (.irem, 1) := by decide +kernel
theorem dX1_add_11 : decode cX1_add 11 = .ok (.iload_n 1, 1) := by decide +kernel
theorem dX1_add_12 : decode cX1_add 12 = .ok (.iastore, 1) := by decide +kernel
theorem dX1_add_13 : decode cX1_add 13 = .ok (.aload_n 0, 1) := by decide +kernel
theorem dX1_add_14 : decode cX1_add 14 = .ok (.dup, 1) := by decide +kernel
theorem dX1_add_15 : decode cX1_add 15 = .ok (.getfield 15, 3) := by decide +kernel
theorem dX1_add_18 : decode cX1_add 18 = .ok (.iconst 1, 1) := by decide +kernel
theorem dX1_add_19 : decode cX1_add 19 = .ok (.iadd, 1) := by decide +kernel
theorem dX1_add_20 : decode cX1_add 20 = .ok (.putfield 15, 3) := by decide +kernel
theorem dX1_add_23 : decode cX1_add 23 = .ok (.return_, 1) := by decide +kernel
theorem dX1_latest_0 : decode cX1_latest 0 = .ok (.iload_n 1, 1) := by decide +kernel
theorem dX1_latest_1 : decode cX1_latest 1 = .ok (.ifCond .lt 17, 3) := by decide +kernel
theorem dX1_latest_4 : decode cX1_latest 4 = .ok (.iload_n 1, 1) := by decide +kernel
theorem dX1_latest_5 : decode cX1_latest 5 = .ok (.bipush 100, 2) := by decide +kernel
theorem dX1_latest_7 : decode cX1_latest 7 = .ok (.if_icmp .ge 11, 3) := by decide +kernel
theorem dX1_latest_10 : decode cX1_latest 10 = .ok (.iload_n 1, 1) := by decide +kernel
theorem dX1_latest_11 : decode cX1_latest 11 = .ok (.aload_n 0, 1) := by decide +kernel
theorem dX1_latest_12 : decode cX1_latest 12 = .ok (.getfield 15, 3) := by decide +kernel
theorem dX1_latest_15 : decode cX1_latest 15 = .ok (.if_icmp .lt 7, 3) := by decide +kernel
theorem dX1_latest_18 : decode cX1_latest 18 = .ok (.iconst (-1), 1) := by decide +kernel
theorem dX1_latest_19 : decode cX1_latest 19 = .ok (.goto 19, 3) := by decide +kernel
theorem dX1_latest_22 : decode cX1_latest 22 = .ok (.aload_n 0, 1) := by decide +kernel
theorem dX1_latest_23 : decode cX1_latest 23 = .ok (.getfield 11, 3) := by decide +kernel
theorem dX1_latest_26 : decode cX1_latest 26 = .ok (.aload_n 0, 1) := by decide +kernel
theorem dX1_latest_27 : decode cX1_latest 27 = .ok (.getfield 15, 3) := by decide +kernel
theorem dX1_latest_30 : decode cX1_latest 30 = .ok (.iconst 1, 1) := by decide +kernel
theorem dX1_latest_31 : decode cX1_latest 31 = .ok (.isub, 1) := by decide +kernel
theorem dX1_latest_32 : decode cX1_latest 32 = .ok (.iload_n 1, 1) := by decide +kernel
theorem dX1_latest_33 : decode cX1_latest 33 = .ok (.isub, 1) := by decide +kernel
theorem dX1_latest_34 : decode cX1_latest 34 = .ok (.bipush 100, 2) := by decide +kernel
theorem dX1_latest_36 : decode cX1_latest 36 = .ok (.irem, 1) := by decide +kernel
theorem dX1_latest_37 : decode cX1_latest 37 = .ok (.iaload, 1) := by decide +kernel
theorem dX1_latest_38 : decode cX1_latest 38 = .ok (.ireturn, 1) := by decide +kernel
theorem dX2_init_0 : decode cX2_init 0 = .ok (.aload_n 0, 1) := by decide +kernel
theorem dX2_init_1 : decode cX2_init 1 = .ok (.invokespecial 5, 3) := by decide +kernel
theorem dX2_init_4 : decode cX2_init 4 = .ok (.aload_n 0, 1) := by decide +kernel
theorem dX2_init_5 : decode cX2_init 5 = .ok (.sipush 156, 3) := by decide +kernel
theorem dX2_init_8 : decode cX2_init 8 = .ok (.newarray .int, 2) := by decide +kernel
theorem dX2_init_10 : decode cX2_init 10 = .ok (.putfield 11, 3) := by decide +kernel
theorem dX2_init_13 : decode cX2_init 13 = .ok (.aload_n 0, 1) := by decide +kernel
theorem dX2_init_14 : decode cX2_init 14 = .ok (.sipush 156, 3) := by decide +kernel
theorem dX2_init_17 : decode cX2_init 17 = .ok (.newarray .int, 2) := by decide +kernel
theorem dX2_init_19 : decode cX2_init 19 = .ok (.putfield 15, 3) := by decide +kernel
theorem dX2_init_22 : decode cX2_init 22 = .ok (.aload_n 0, 1) := by decide +kernel
theorem dX2_init_23 : decode cX2_init 23 = .ok (.sipush 156, 3) := by decide +kernel
theorem dX2_init_26 : decode cX2_init 26 = .ok (.newarray .int, 2) := by decide +kernel
theorem dX2_init_28 : decode cX2_init 28 = .ok (.putfield 18, 3) := by decide +kernel
theorem dX2_init_31 : decode cX2_init 31 = .ok (.aload_n 0, 1) := by decide +kernel
theorem dX2_init_32 : decode cX2_init 32 = .ok (.sipush 156, 3) := by decide +kernel
theorem dX2_init_35 : decode cX2_init 35 = .ok (.newarray .int, 2) := by decide +kernel
theorem dX2_init_37 : decode cX2_init 37 = .ok (.putfield 21, 3) := by decide +kernel
theorem dX2_init_40 : decode cX2_init 40 = .ok (.aload_n 0, 1) := by decide +kernel
theorem dX2_init_41 : decode cX2_init 41 = .ok (.sipush 156, 3) := by decide +kernel
theorem dX2_init_44 : decode cX2_init 44 = .ok (.newarray .int, 2) := by decide +kernel
theorem dX2_init_46 : decode cX2_init 46 = .ok (.putfield 24, 3) := by decide +kernel
theorem dX2_init_49 : decode cX2_init 49 = .ok (.aload_n 0, 1) := by decide +kernel
theorem dX2_init_50 : decode cX2_init 50 = .ok (.sipush 156, 3) := by decide +kernel
theorem dX2_init_53 : decode cX2_init 53 = .ok (.newarray .int, 2) := by decide +kernel
theorem dX2_init_55 : decode cX2_init 55 = .ok (.putfield 27, 3) := by decide +kernel
theorem dX2_init_58 : decode cX2_init 58 = .ok (.aload_n 0, 1) := by decide +kernel
theorem dX2_init_59 : decode cX2_init 59 = .ok (.sipush 156, 3) := by decide +kernel
theorem dX2_init_62 : decode cX2_init 62 = .ok (.newarray .int, 2) := by decide +kernel
theorem dX2_init_64 : decode cX2_init 64 = .ok (.putfield 30, 3) := by decide +kernel
theorem dX2_init_67 : decode cX2_init 67 = .ok (.aload_n 0, 1) := by decide +kernel
theorem dX2_init_68 : decode cX2_init 68 = .ok (.sipush 156, 3) := by decide +kernel
theorem dX2_init_71 : decode cX2_init 71 = .ok (.newarray .int, 2) := by decide +kernel
theorem dX2_init_73 : decode cX2_init 73 = .ok (.putfield 33, 3) := by decide +kernel
theorem dX2_init_76 : decode cX2_init 76 = .ok (.aload_n 0, 1) := by decide +kernel
theorem dX2_init_77 : decode cX2_init 77 = .ok (.sipush 156, 3) := by decide +kernel
theorem dX2_init_80 : decode cX2_init 80 = .ok (.newarray .boolean, 2) := by decide +kernel
theorem dX2_init_82 : decode cX2_init 82 = .ok (.putfield 36, 3) := by decide +kernel
theorem dX2_init_85 : decode cX2_init 85 = .ok (.aload_n 0, 1) := by decide +kernel
theorem dX2_init_86 : decode cX2_init 86 = .ok (.sipush 156, 3) := by decide +kernel
theorem dX2_init_89 : decode cX2_init 89 = .ok (.newarray .int, 2) := by decide +kernel
theorem dX2_init_91 : decode cX2_init 91 = .ok (.putfield 40, 3) := by decide +kernel
theorem dX2_init_94 : decode cX2_init 94 = .ok (.aload_n 0, 1) := by decide +kernel
theorem dX2_init_95 : decode cX2_init 95 = .ok (.aload_n 1, 1) := by decide +kernel
theorem dX2_init_96 : decode cX2_init 96 = .ok (.putfield 43, 3) := by decide +kernel
theorem dX2_init_99 : decode cX2_init 99 = .ok (.aload_n 0, 1) := by decide +kernel
theorem dX2_init_100 : decode cX2_init 100 = .ok (.aload_n 2, 1) := by decide +kernel
theorem dX2_init_101 : decode cX2_init 101 = .ok (.putfield 47, 3) := by decide +kernel
theorem dX2_init_104 : decode cX2_init 104 = .ok (.return_, 1) := by decide +kernel
theorem dX2_paint_0 : decode cX2_paint 0 = .ok (.aload_n 0, 1) := by decide +kernel
theorem dX2_paint_1 : decode cX2_paint 1 = .ok (.iconst 0, 1) := by decide +kernel
theorem dX2_paint_2 : decode cX2_paint 2 = .ok (.putfield 51, 3) := by decide +kernel
theorem dX2_paint_5 : decode cX2_paint 5 = .ok (.aload_n 0, 1) := by decide +kernel
theorem dX2_paint_6 : decode cX2_paint 6 = .ok (.iconst 0, 1) := by decide +kernel
theorem dX2_paint_7 : decode cX2_paint 7 = .ok (.putfield 55, 3) := by decide +kernel
theorem dX2_paint_10 : decode cX2_paint 10 = .ok (.aload_n 0, 1) := by decide +kernel
theorem dX2_paint_11 : decode cX2_paint 11 = .ok (.iconst 0, 1) := by decide +kernel
theorem dX2_paint_12 : decode cX2_paint 12 = .ok (.putfield 58, 3) := by decide +kernel
theorem dX2_paint_15 : decode cX2_paint 15 = .ok (.aload_n 0, 1) := by decide +kernel
theorem dX2_paint_16 : decode cX2_paint 16 = .ok (.iconst 0, 1) := by decide +kernel
theorem dX2_paint_17 : decode cX2_paint 17 = .ok (.aload_n 0, 1) := by decide +kernel
theorem dX2_paint_18 : decode cX2_paint 18 = .ok (.getfield 43, 3) := by decide +kernel
theorem dX2_paint_21 : decode cX2_paint 21 = .ok (.getfield 61, 3) := by decide +kernel
theorem dX2_paint_24 : decode cX2_paint 24 = .ok (.iconst 1, 1) := by decide +kernel
theorem dX2_paint_25 : decode cX2_paint 25 = .ok (.invokevirtual 66, 3) := by decide +kernel
theorem dX2_paint_28 : decode cX2_paint 28 = .ok (.iconst 0, 1) := by decide +kernel
theorem dX2_paint_29 : decode cX2_paint 29 = .ok (.istore_n 1, 1) := by decide +kernel
theorem dX2_paint_30 : decode cX2_paint 30 = .ok (.iconst 0, 1) := by decide +kernel
theorem dX2_paint_31 : decode cX2_paint 31 = .ok (.istore_n 2, 1) := by decide +kernel
theorem dX2_paint_32 : decode cX2_paint 32 = .ok (.iload_n 2, 1) := by decide +kernel
theorem dX2_paint_33 : decode cX2_paint 33 = .ok (.sipush 28014, 3) := by decide +kernel
theorem dX2_paint_36 : decode cX2_paint 36 = .ok (.if_icmp .ge 62, 3) := by decide +kernel
theorem dX2_paint_39 : decode cX2_paint 39 = .ok (.aload_n 0, 1) := by decide +kernel
theorem dX2_paint_40 : decode cX2_paint 40 = .ok (.getfield 51, 3) := by decide +kernel
theorem dX2_paint_43 : decode cX2_paint 43 = .ok (.ifCond .lt 55, 3) := by decide +kernel
theorem dX2_paint_46 : decode cX2_paint 46 = .ok (.iload_n 1, 1) := by decide +kernel
theorem dX2_paint_47 : decode cX2_paint 47 = .ok (.ifCond .ne 51, 3) := by decide +kernel
theorem dX2_paint_50 : decode cX2_paint 50 = .ok (.aload_n 0, 1) := by decide +kernel
theorem dX2_paint_51 : decode cX2_paint 51 = .ok (.getfield 11, 3) := by decide +kernel
theorem dX2_paint_54 : decode cX2_paint 54 = .ok (.aload_n 0, 1) := by decide +kernel
theorem dX2_paint_55 : decode cX2_paint 55 = .ok (.getfield 51, 3) := by decide +kernel
theorem dX2_paint_58 : decode cX2_paint 58 = .ok (.iaload, 1) := by decide +kernel
theorem dX2_paint_59 : decode cX2_paint 59 = .ok (.aload_n 0, 1) := by decide +kernel
theorem dX2_paint_60 : decode cX2_paint 60 = .ok (.getfield 18, 3) := by decide +kernel
theorem dX2_paint_63 : decode cX2_paint 63 = .ok (.aload_n 0, 1) := by decide +kernel
theorem dX2_paint_64 : decode cX2_paint 64 = .ok (.getfield 51, 3) := by decide +kernel
theorem dX2_paint_67 : decode cX2_paint 67 = .ok (.iaload, 1) := by decide +kernel
theorem dX2_paint_68 : decode cX2_paint 68 = .ok (.if_icmp .lt 10, 3) := by decide +kernel
theorem dX2_paint_71 : decode cX2_paint 71 = .ok (.aload_n 0, 1) := by decide +kernel
theorem dX2_paint_72 : decode cX2_paint 72 = .ok (.invokevirtual 70, 3) := by decide +kernel
theorem dX2_paint_75 : decode cX2_paint 75 = .ok (.goto 17, 3) := by decide +kernel
theorem dX2_paint_78 : decode cX2_paint 78 = .ok (.aload_n 0, 1) := by decide +kernel
theorem dX2_paint_79 : decode cX2_paint 79 = .ok (.aload_n 0, 1) := by decide +kernel
theorem dX2_paint_80 : decode cX2_paint 80 = .ok (.getfield 11, 3) := by decide +kernel
theorem dX2_paint_83 : decode cX2_paint 83 = .ok (.aload_n 0, 1) := by decide +kernel
theorem dX2_paint_84 : decode cX2_paint 84 = .ok (.getfield 51, 3) := by decide +kernel
theorem dX2_paint_87 : decode cX2_paint 87 = .ok (.iaload, 1) := by decide +kernel
theorem dX2_paint_88 : decode cX2_paint 88 = .ok (.invokevirtual 73, 3) := by decide +kernel
theorem dX2_paint_91 : decode cX2_paint 91 = .ok (.istore_n 1, 1) := by decide +kernel
theorem dX2_paint_92 : decode cX2_paint 92 = .ok (.iinc 2 1, 3) := by decide +kernel
theorem dX2_paint_95 : decode cX2_paint 95 = .ok (.goto (-63), 3) := by decide +kernel
theorem dX2_paint_98 : decode cX2_paint 98 = .ok (.iload_n 1, 1) := by decide +kernel
theorem dX2_paint_99 : decode cX2_paint 99 = .ok (.ifCond .ne 22, 3) := by decide +kernel
theorem dX2_paint_102 : decode cX2_paint 102 = .ok (.aload_n 0, 1) := by decide +kernel
theorem dX2_paint_103 : decode cX2_paint 103 = .ok (.getfield 47, 3) := by decide +kernel
theorem dX2_paint_106 : decode cX2_paint 106 = .ok (.aload_n 0, 1) := by decide +kernel
theorem dX2_paint_107 : decode cX2_paint 107 = .ok (.getfield 40, 3) := by decide +kernel
theorem dX2_paint_110 : decode cX2_paint 110 = .ok (.invokevirtual 77, 3) := by decide +kernel
theorem dX2_paint_113 : decode cX2_paint 113 = .ok (.aload_n 0, 1) := by decide +kernel
theorem dX2_paint_114 : decode cX2_paint 114 = .ok (.aload_n 0, 1) := by decide +kernel
theorem dX2_paint_115 : decode cX2_paint 115 = .ok (.getfield 58, 3) := by decide +kernel
theorem dX2_paint_118 : decode cX2_paint 118 = .ok (.putfield 83, 3) := by decide +kernel
theorem dX2_paint_121 : decode cX2_paint 121 = .ok (.iload_n 1, 1) := by decide +kernel
theorem dX2_paint_122 : decode cX2_paint 122 = .ok (.ireturn, 1) := by decide +kernel
theorem dX2_beginFrame_0 : decode cX2_beginFrame 0 = .ok (.aload_n 0, 1) := by decide +kernel
theorem dX2_beginFrame_1 : decode cX2_beginFrame 1 = .ok (.getfield 11, 3) := by decide +kernel
theorem dX2_beginFrame_4 : decode cX2_beginFrame 4 = .ok (.aload_n 0, 1) := by decide +kernel
theorem dX2_beginFrame_5 : decode cX2_beginFrame 5 = .ok (.getfield 51, 3) := by decide +kernel
theorem dX2_beginFrame_8 : decode cX2_beginFrame 8 = .ok (.iload_n 1, 1) := by decide +kernel
theorem dX2_beginFrame_9 : decode cX2_beginFrame 9 = .ok (.iastore, 1) := by decide +kernel
theorem dX2_beginFrame_10 : decode cX2_beginFrame 10 = .ok (.aload_n 0, 1) := by decide +kernel
theorem dX2_beginFrame_11 : decode cX2_beginFrame 11 = .ok (.getfield 15, 3) := by decide +kernel
theorem dX2_beginFrame_14 : decode cX2_beginFrame 14 = .ok (.aload_n 0, 1) := by decide +kernel
theorem dX2_beginFrame_15 : decode cX2_beginFrame 15 = .ok (.getfield 51, 3) := by decide +kernel
theorem dX2_beginFrame_18 : decode cX2_beginFrame 18 = .ok (.iload_n 1, 1) := by decide +kernel
theorem dX2_beginFrame_19 : decode cX2_beginFrame 19 = .ok (.iastore, 1) := by decide +kernel
theorem dX2_beginFrame_20 : decode cX2_beginFrame 20 = .ok (.aload_n 0, 1) := by decide +kernel
theorem dX2_beginFrame_21 : decode cX2_beginFrame 21 = .ok (.getfield 18, 3) := by decide +kernel
theorem dX2_beginFrame_24 : decode cX2_beginFrame 24 = .ok (.aload_n 0, 1) := by decide +kernel
theorem dX2_beginFrame_25 : decode cX2_beginFrame 25 = .ok (.getfield 51, 3) := by decide +kernel
theorem dX2_beginFrame_28 : decode cX2_beginFrame 28 = .ok (.iload_n 2, 1) := by decide +kernel
theorem dX2_beginFrame_29 : decode cX2_beginFrame 29 = .ok (.iastore, 1) := by decide +kernel
theorem dX2_beginFrame_30 : decode cX2_beginFrame 30 = .ok (.aload_n 0, 1) := by decide +kernel
theorem dX2_beginFrame_31 : decode cX2_beginFrame 31 = .ok (.getfield 21, 3) := by decide +kernel
theorem dX2_beginFrame_34 : decode cX2_beginFrame 34 = .ok (.aload_n 0, 1) := by decide +kernel
theorem dX2_beginFrame_35 : decode cX2_beginFrame 35 = .ok (.getfield 51, 3) := by decide +kernel
theorem dX2_beginFrame_38 : decode cX2_beginFrame 38 = .ok (.iload_n 3, 1) := by decide +kernel
theorem dX2_beginFrame_39 : decode cX2_beginFrame 39 = .ok (.iastore, 1) := by decide +kernel
theorem dX2_beginFrame_40 : decode cX2_beginFrame 40 = .ok (.aload_n 0, 1) := by decide +kernel
theorem dX2_beginFrame_41 : decode cX2_beginFrame 41 = .ok (.getfield 24, 3) := by decide +kernel
theorem dX2_beginFrame_44 : decode cX2_beginFrame 44 = .ok (.aload_n 0, 1) := by decide +kernel
theorem dX2_beginFrame_45 : decode cX2_beginFrame 45 = .ok (.getfield 51, 3) := by decide +kernel
theorem dX2_beginFrame_48 : decode cX2_beginFrame 48 = .ok (.iconst 0, 1) := by decide +kernel
theorem dX2_beginFrame_49 : decode cX2_beginFrame 49 = .ok (.iastore, 1) := by decide +kernel
theorem dX2_beginFrame_50 : decode cX2_beginFrame 50 = .ok (.aload_n 0, 1) := by decide +kernel
theorem dX2_beginFrame_51 : decode cX2_beginFrame 51 = .ok (.getfield 27, 3) := by decide +kernel
theorem dX2_beginFrame_54 : decode cX2_beginFrame 54 = .ok (.aload_n 0, 1) := by decide +kernel
theorem dX2_beginFrame_55 : decode cX2_beginFrame 55 = .ok (.getfield 51, 3) := by decide +kernel
theorem dX2_beginFrame_58 : decode cX2_beginFrame 58 = .ok (.iconst 0, 1) := by decide +kernel
theorem dX2_beginFrame_59 : decode cX2_beginFrame 59 = .ok (.iastore, 1) := by decide +kernel
theorem dX2_beginFrame_60 : decode cX2_beginFrame 60 = .ok (.aload_n 0, 1) := by decide +kernel
theorem dX2_beginFrame_61 : decode cX2_beginFrame 61 = .ok (.getfield 51, 3) := by decide +kernel
theorem dX2_beginFrame_64 : decode cX2_beginFrame 64 = .ok (.ifCond .ne 36, 3) := by decide +kernel
theorem dX2_beginFrame_67 : decode cX2_beginFrame 67 = .ok (.aload_n 0, 1) := by decide +kernel
theorem dX2_beginFrame_68 : decode cX2_beginFrame 68 = .ok (.getfield 30, 3) := by decide +kernel
theorem dX2_beginFrame_71 : decode cX2_beginFrame 71 = .ok (.aload_n 0, 1) := by decide +kernel
theorem dX2_beginFrame_72 : decode cX2_beginFrame 72 = .ok (.getfield 51, 3) := by decide +kernel
theorem dX2_beginFrame_75 : decode cX2_beginFrame 75 = .ok (.iconst 0, 1) := by decide +kernel
theorem dX2_beginFrame_76 : decode cX2_beginFrame 76 = .ok (.iastore, 1) := by decide +kernel
theorem dX2_beginFrame_77 : decode cX2_beginFrame 77 = .ok (.aload_n 0, 1) := by decide +kernel
theorem dX2_beginFrame_78 : decode cX2_beginFrame 78 = .ok (.getfield 33, 3) := by decide +kernel
theorem dX2_beginFrame_81 : decode cX2_beginFrame 81 = .ok (.aload_n 0, 1) := by decide +kernel
theorem dX2_beginFrame_82 : decode cX2_beginFrame 82 = .ok (.getfield 51, 3) := by decide +kernel
theorem dX2_beginFrame_85 : decode cX2_beginFrame 85 = .ok (.iconst 0, 1) := by decide +kernel
theorem dX2_beginFrame_86 : decode cX2_beginFrame 86 = .ok (.iastore, 1) := by decide +kernel
theorem dX2_beginFrame_87 : decode cX2_beginFrame 87 = .ok (.aload_n 0, 1) := by decide +kernel
theorem dX2_beginFrame_88 : decode cX2_beginFrame 88 = .ok (.getfield 36, 3) := by decide +kernel
theorem dX2_beginFrame_91 : decode cX2_beginFrame 91 = .ok (.aload_n 0, 1) := by decide +kernel
theorem dX2_beginFrame_92 : decode cX2_beginFrame 92 = .ok (.getfield 51, 3) := by decide +kernel
theorem dX2_beginFrame_95 : decode cX2_beginFrame 95 = .ok (.iconst 0, 1) := by decide +kernel
theorem dX2_beginFrame_96 : decode cX2_beginFrame 96 = .ok (.bastore, 1) := by decide +kernel
theorem dX2_beginFrame_97 : decode cX2_beginFrame 97 = .ok (.goto 63, 3) := by decide +kernel
theorem dX2_beginFrame_100 : decode cX2_beginFrame 100 = .ok (.aload_n 0, 1) := by decide +kernel
theorem dX2_beginFrame_101 : decode cX2_beginFrame 101 = .ok (.getfield 30, 3) := by decide +kernel
theorem dX2_beginFrame_104 : decode cX2_beginFrame 104 = .ok (.aload_n 0, 1) := by decide +kernel
theorem dX2_beginFrame_105 : decode cX2_beginFrame 105 = .ok (.getfield 51, 3) := by decide +kernel
theorem dX2_beginFrame_108 : decode cX2_beginFrame 108 = .ok (.aload_n 0, 1) := by decide +kernel
theorem dX2_beginFrame_109 : decode cX2_beginFrame 109 = .ok (.getfield 30, 3) := by decide +kernel
theorem dX2_beginFrame_112 : decode cX2_beginFrame 112 = .ok (.aload_n 0, 1) := by decide +kernel
theorem dX2_beginFrame_113 : decode cX2_beginFrame 113 = .ok (.getfield 51, 3) := by decide +kernel
theorem dX2_beginFrame_116 : decode cX2_beginFrame 116 = .ok (.iconst 1, 1) := by decide +kernel
theorem dX2_beginFrame_117 : decode cX2_beginFrame 117 = .ok (.isub, 1) := by decide +kernel
theorem dX2_beginFrame_118 : decode cX2_beginFrame 118 = .ok (.iaload, 1) := by decide +kernel
theorem dX2_beginFrame_119 : decode cX2_beginFrame 119 = .ok (.iastore, 1) := by decide +kernel
theorem dX2_beginFrame_120 : decode cX2_beginFrame 120 = .ok (.aload_n 0, 1) := by decide +kernel
theorem dX2_beginFrame_121 : decode cX2_beginFrame 121 = .ok (.getfield 33, 3) := by decide +kernel
theorem dX2_beginFrame_124 : decode cX2_beginFrame 124 = .ok (.aload_n 0, 1) := by decide +kernel
theorem dX2_beginFrame_125 : decode cX2_beginFrame 125 = .ok (.getfield 51, 3) := by decide +kernel
theorem dX2_beginFrame_128 : decode cX2_beginFrame 128 = .ok (.aload_n 0, 1) := by decide +kernel
theorem dX2_beginFrame_129 : decode cX2_beginFrame 129 = .ok (.getfield 33, 3) := by decide +kernel
theorem dX2_beginFrame_132 : decode cX2_beginFrame 132 = .ok (.aload_n 0, 1) := by decide +kernel
theorem dX2_beginFrame_133 : decode cX2_beginFrame 133 = .ok (.getfield 51, 3) := by decide +kernel
theorem dX2_beginFrame_136 : decode cX2_beginFrame 136 = .ok (.iconst 1, 1) := by decide +kernel
theorem dX2_beginFrame_137 : decode cX2_beginFrame 137 = .ok (.isub, 1) := by decide +kernel
theorem dX2_beginFrame_138 : decode cX2_beginFrame 138 = .ok (.iaload, 1) := by decide +kernel
theorem dX2_beginFrame_139 : decode cX2_beginFrame 139 = .ok (.iastore, 1) := by decide +kernel
theorem dX2_beginFrame_140 : decode cX2_beginFrame 140 = .ok (.aload_n 0, 1) := by decide +kernel
theorem dX2_beginFrame_141 : decode cX2_beginFrame 141 = .ok (.getfield 36, 3) := by decide +kernel
theorem dX2_beginFrame_144 : decode cX2_beginFrame 144 = .ok (.aload_n 0, 1) := by decide +kernel
theorem dX2_beginFrame_145 : decode cX2_beginFrame 145 = .ok (.getfield 51, 3) := by decide +kernel
theorem dX2_beginFrame_148 : decode cX2_beginFrame 148 = .ok (.aload_n 0, 1) := by decide +kernel
theorem dX2_beginFrame_149 : decode cX2_beginFrame 149 = .ok (.getfield 36, 3) := by decide +kernel
theorem dX2_beginFrame_152 : decode cX2_beginFrame 152 = .ok (.aload_n 0, 1) := by decide +kernel
theorem dX2_beginFrame_153 : decode cX2_beginFrame 153 = .ok (.getfield 51, 3) := by decide +kernel
theorem dX2_beginFrame_156 : decode cX2_beginFrame 156 = .ok (.iconst 1, 1) := by decide +kernel
theorem dX2_beginFrame_157 : decode cX2_beginFrame 157 = .ok (.isub, 1) := by decide +kernel
theorem dX2_beginFrame_158 : decode cX2_beginFrame 158 = .ok (.baload, 1) := by decide +kernel
theorem dX2_beginFrame_159 : decode cX2_beginFrame 159 = .ok (.bastore, 1) := by decide +kernel
theorem dX2_beginFrame_160 : decode cX2_beginFrame 160 = .ok (.return_, 1) := by decide +kernel
theorem dX2_endTime_0 : decode cX2_endTime 0 = .ok (.aload_n 0, 1) := by decide +kernel
theorem dX2_endTime_1 : decode cX2_endTime 1 = .ok (.getfield 21, 3) := by decide +kernel
theorem dX2_endTime_4 : decode cX2_endTime 4 = .ok (.aload_n 0, 1) := by decide +kernel
theorem dX2_endTime_5 : decode cX2_endTime 5 = .ok (.getfield 51, 3) := by decide +kernel
theorem dX2_endTime_8 : decode cX2_endTime 8 = .ok (.dup2, 1) := by decide +kernel
theorem dX2_endTime_9 : decode cX2_endTime 9 = .ok (.iaload, 1) := by decide +kernel
theorem dX2_endTime_10 : decode cX2_endTime 10 = .ok (.iconst 1, 1) := by decide +kernel
theorem dX2_endTime_11 : decode cX2_endTime 11 = .ok (.isub, 1) := by decide +kernel
theorem dX2_endTime_12 : decode cX2_endTime 12 = .ok (.iastore, 1) := by decide +kernel
theorem dX2_endTime_13 : decode cX2_endTime 13 = .ok (.aload_n 0, 1) := by decide +kernel
theorem dX2_endTime_14 : decode cX2_endTime 14 = .ok (.getfield 21, 3) := by decide +kernel
theorem dX2_endTime_17 : decode cX2_endTime 17 = .ok (.aload_n 0, 1) := by decide +kernel
theorem dX2_endTime_18 : decode cX2_endTime 18 = .ok (.getfield 51, 3) := by decide +kernel
theorem dX2_endTime_21 : decode cX2_endTime 21 = .ok (.iaload, 1) := by decide +kernel
theorem dX2_endTime_22 : decode cX2_endTime 22 = .ok (.ifCond .gt 14, 3) := by decide +kernel
theorem dX2_endTime_25 : decode cX2_endTime 25 = .ok (.aload_n 0, 1) := by decide +kernel
theorem dX2_endTime_26 : decode cX2_endTime 26 = .ok (.dup, 1) := by decide +kernel
theorem dX2_endTime_27 : decode cX2_endTime 27 = .ok (.getfield 51, 3) := by decide +kernel
theorem dX2_endTime_30 : decode cX2_endTime 30 = .ok (.iconst 1, 1) := by decide +kernel
theorem dX2_endTime_31 : decode cX2_endTime 31 = .ok (.isub, 1) := by decide +kernel
theorem dX2_endTime_32 : decode cX2_endTime 32 = .ok (.putfield 51, 3) := by decide +kernel
theorem dX2_endTime_35 : decode cX2_endTime 35 = .ok (.return_, 1) := by decide +kernel
theorem dX2_endTime_36 : decode cX2_endTime 36 = .ok (.aload_n 0, 1) := by decide +kernel
theorem dX2_endTime_37 : decode cX2_endTime 37 = .ok (.getfield 11, 3) := by decide +kernel
theorem dX2_endTime_40 : decode cX2_endTime 40 = .ok (.aload_n 0, 1) := by decide +kernel
theorem dX2_endTime_41 : decode cX2_endTime 41 = .ok (.getfield 51, 3) := by decide +kernel
theorem dX2_endTime_44 : decode cX2_endTime 44 = .ok (.aload_n 0, 1) := by decide +kernel
theorem dX2_endTime_45 : decode cX2_endTime 45 = .ok (.getfield 15, 3) := by decide +kernel
theorem dX2_endTime_48 : decode cX2_endTime 48 = .ok (.aload_n 0, 1) := by decide +kernel
theorem dX2_endTime_49 : decode cX2_endTime 49 = .ok (.getfield 51, 3) := by decide +kernel
theorem dX2_endTime_52 : decode cX2_endTime 52 = .ok (.iaload, 1) := by decide +kernel
theorem dX2_endTime_53 : decode cX2_endTime 53 = .ok (.iastore, 1) := by decide +kernel
theorem dX2_endTime_54 : decode cX2_endTime 54 = .ok (.aload_n 0, 1) := by decide +kernel
theorem dX2_endTime_55 : decode cX2_endTime 55 = .ok (.getfield 30, 3) := by decide +kernel
theorem dX2_endTime_58 : decode cX2_endTime 58 = .ok (.aload_n 0, 1) := by decide +kernel
theorem dX2_endTime_59 : decode cX2_endTime 59 = .ok (.getfield 51, 3) := by decide +kernel
theorem dX2_endTime_62 : decode cX2_endTime 62 = .ok (.dup2, 1) := by decide +kernel
theorem dX2_endTime_63 : decode cX2_endTime 63 = .ok (.iaload, 1) := by decide +kernel
theorem dX2_endTime_64 : decode cX2_endTime 64 = .ok (.aload_n 0, 1) := by decide +kernel
theorem dX2_endTime_65 : decode cX2_endTime 65 = .ok (.getfield 24, 3) := by decide +kernel
theorem dX2_endTime_68 : decode cX2_endTime 68 = .ok (.aload_n 0, 1) := by decide +kernel
theorem dX2_endTime_69 : decode cX2_endTime 69 = .ok (.getfield 51, 3) := by decide +kernel
theorem dX2_endTime_72 : decode cX2_endTime 72 = .ok (.iaload, 1) := by decide +kernel
theorem dX2_endTime_73 : decode cX2_endTime 73 = .ok (.iadd, 1) := by decide +kernel
theorem dX2_endTime_74 : decode cX2_endTime 74 = .ok (.iastore, 1) := by decide +kernel
theorem dX2_endTime_75 : decode cX2_endTime 75 = .ok (.aload_n 0, 1) := by decide +kernel
theorem dX2_endTime_76 : decode cX2_endTime 76 = .ok (.getfield 33, 3) := by decide +kernel
theorem dX2_endTime_79 : decode cX2_endTime 79 = .ok (.aload_n 0, 1) := by decide +kernel
theorem dX2_endTime_80 : decode cX2_endTime 80 = .ok (.getfield 51, 3) := by decide +kernel
theorem dX2_endTime_83 : decode cX2_endTime 83 = .ok (.dup2, 1) := by decide +kernel
theorem dX2_endTime_84 : decode cX2_endTime 84 = .ok (.iaload, 1) := by decide +kernel
theorem dX2_endTime_85 : decode cX2_endTime 85 = .ok (.aload_n 0, 1) := by decide +kernel
theorem dX2_endTime_86 : decode cX2_endTime 86 = .ok (.getfield 27, 3) := by decide +kernel
theorem dX2_endTime_89 : decode cX2_endTime 89 = .ok (.aload_n 0, 1) := by decide +kernel
theorem dX2_endTime_90 : decode cX2_endTime 90 = .ok (.getfield 51, 3) := by decide +kernel
theorem dX2_endTime_93 : decode cX2_endTime 93 = .ok (.iaload, 1) := by decide +kernel
theorem dX2_endTime_94 : decode cX2_endTime 94 = .ok (.iadd, 1) := by decide +kernel
theorem dX2_endTime_95 : decode cX2_endTime 95 = .ok (.iastore, 1) := by decide +kernel
theorem dX2_endTime_96 : decode cX2_endTime 96 = .ok (.return_, 1) := by decide +kernel
theorem dX2_doLine_0 : decode cX2_doLine 0 = .ok (.aload_n 0, 1) := by decide +kernel
theorem dX2_doLine_1 : decode cX2_doLine 1 = .ok (.dup, 1) := by decide +kernel
theorem dX2_doLine_2 : decode cX2_doLine 2 = .ok (.getfield 55, 3) := by decide +kernel
theorem dX2_doLine_5 : decode cX2_doLine 5 = .ok (.iconst 1, 1) := by decide +kernel
theorem dX2_doLine_6 : decode cX2_doLine 6 = .ok (.iadd, 1) := by decide +kernel
theorem dX2_doLine_7 : decode cX2_doLine 7 = .ok (.putfield 55, 3) := by decide +kernel
theorem dX2_doLine_10 : decode cX2_doLine 10 = .ok (.aload_n 0, 1) := by decide +kernel
theorem dX2_doLine_11 : decode cX2_doLine 11 = .ok (.getfield 55, 3) := by decide +kernel
theorem dX2_doLine_14 : decode cX2_doLine 14 = .ok (.sipush 2000, 3) := by decide +kernel
theorem dX2_doLine_17 : decode cX2_doLine 17 = .ok (.if_icmp .gt 15, 3) := by decide +kernel
theorem dX2_doLine_20 : decode cX2_doLine 20 = .ok (.aload_n 0, 1) := by decide +kernel
theorem dX2_doLine_21 : decode cX2_doLine 21 = .ok (.getfield 51, 3) := by decide +kernel
theorem dX2_doLine_24 : decode cX2_doLine 24 = .ok (.iconst 1, 1) := by decide +kernel
theorem dX2_doLine_25 : decode cX2_doLine 25 = .ok (.iadd, 1) := by decide +kernel
theorem dX2_doLine_26 : decode cX2_doLine 26 = .ok (.sipush 156, 3) := by decide +kernel
theorem dX2_doLine_29 : decode cX2_doLine 29 = .ok (.if_icmp .lt 5, 3) := by decide +kernel
theorem dX2_doLine_32 : decode cX2_doLine 32 = .ok (.iconst 4, 1) := by decide +kernel
theorem dX2_doLine_33 : decode cX2_doLine 33 = .ok (.ireturn, 1) := by decide +kernel
theorem dX2_doLine_34 : decode cX2_doLine 34 = .ok (.aload_n 0, 1) := by decide +kernel
theorem dX2_doLine_35 : decode cX2_doLine 35 = .ok (.getfield 11, 3) := by decide +kernel
theorem dX2_doLine_38 : decode cX2_doLine 38 = .ok (.aload_n 0, 1) := by decide +kernel
theorem dX2_doLine_39 : decode cX2_doLine 39 = .ok (.getfield 51, 3) := by decide +kernel
theorem dX2_doLine_42 : decode cX2_doLine 42 = .ok (.aload_n 0, 1) := by decide +kernel
theorem dX2_doLine_43 : decode cX2_doLine 43 = .ok (.getfield 43, 3) := by decide +kernel
theorem dX2_doLine_46 : decode cX2_doLine 46 = .ok (.getfield 86, 3) := by decide +kernel
theorem dX2_doLine_49 : decode cX2_doLine 49 = .ok (.iload_n 1, 1) := by decide +kernel
theorem dX2_doLine_50 : decode cX2_doLine 50 = .ok (.iaload, 1) := by decide +kernel
theorem dX2_doLine_51 : decode cX2_doLine 51 = .ok (.iastore, 1) := by decide +kernel
theorem dX2_doLine_52 : decode cX2_doLine 52 = .ok (.aload_n 0, 1) := by decide +kernel
theorem dX2_doLine_53 : decode cX2_doLine 53 = .ok (.getfield 43, 3) := by decide +kernel
theorem dX2_doLine_56 : decode cX2_doLine 56 = .ok (.getfield 87, 3) := by decide +kernel
theorem dX2_doLine_59 : decode cX2_doLine 59 = .ok (.iload_n 1, 1) := by decide +kernel
theorem dX2_doLine_60 : decode cX2_doLine 60 = .ok (.iaload, 1) := by decide +kernel
theorem dX2_doLine_61 : decode cX2_doLine 61 = .ok (.tableswitch 110 10 16 #[43, 49, 57, 110, 65, 73, 102], 43) := by decide +kernel
theorem dX2_doLine_104 : decode cX2_doLine 104 = .ok (.aload_n 0, 1) := by decide +kernel
theorem dX2_doLine_105 : decode cX2_doLine 105 = .ok (.iload_n 1, 1) := by decide +kernel
theorem dX2_doLine_106 : decode cX2_doLine 106 = .ok (.invokevirtual 90, 3) := by decide +kernel
theorem dX2_doLine_109 : decode cX2_doLine 109 = .ok (.ireturn, 1) := by decide +kernel
theorem dX2_doLine_110 : decode cX2_doLine 110 = .ok (.aload_n 0, 1) := by decide +kernel
theorem dX2_doLine_111 : decode cX2_doLine 111 = .ok (.iload_n 1, 1) := by decide +kernel
theorem dX2_doLine_112 : decode cX2_doLine 112 = .ok (.invokevirtual 93, 3) := by decide +kernel
theorem dX2_doLine_115 : decode cX2_doLine 115 = .ok (.goto 56, 3) := by decide +kernel
theorem dX2_doLine_118 : decode cX2_doLine 118 = .ok (.aload_n 0, 1) := by decide +kernel
theorem dX2_doLine_119 : decode cX2_doLine 119 = .ok (.iload_n 1, 1) := by decide +kernel
theorem dX2_doLine_120 : decode cX2_doLine 120 = .ok (.invokevirtual 97, 3) := by decide +kernel
theorem dX2_doLine_123 : decode cX2_doLine 123 = .ok (.goto 48, 3) := by decide +kernel
theorem dX2_doLine_126 : decode cX2_doLine 126 = .ok (.aload_n 0, 1) := by decide +kernel
theorem dX2_doLine_127 : decode cX2_doLine 127 = .ok (.iload_n 1, 1) := by decide +kernel
theorem dX2_doLine_128 : decode cX2_doLine 128 = .ok (.invokevirtual 100, 3) := by decide +kernel
theorem dX2_doLine_131 : decode cX2_doLine 131 = .ok (.goto 40, 3) := by decide +kernel
theorem dX2_doLine_134 : decode cX2_doLine 134 = .ok (.aload_n 0, 1) := by decide +kernel
theorem dX2_doLine_135 : decode cX2_doLine 135 = .ok (.getfield 47, 3) := by decide +kernel
theorem dX2_doLine_138 : decode cX2_doLine 138 = .ok (.getfield 103, 3) := by decide +kernel
theorem dX2_doLine_141 : decode cX2_doLine 141 = .ok (.aload_n 0, 1) := by decide +kernel
theorem dX2_doLine_142 : decode cX2_doLine 142 = .ok (.getfield 43, 3) := by decide +kernel
theorem dX2_doLine_145 : decode cX2_doLine 145 = .ok (.getfield 106, 3) := by decide +kernel
theorem dX2_doLine_148 : decode cX2_doLine 148 = .ok (.iload_n 1, 1) := by decide +kernel
theorem dX2_doLine_149 : decode cX2_doLine 149 = .ok (.iaload, 1) := by decide +kernel
theorem dX2_doLine_150 : decode cX2_doLine 150 = .ok (.aload_n 0, 1) := by decide +kernel
theorem dX2_doLine_151 : decode cX2_doLine 151 = .ok (.getfield 43, 3) := by decide +kernel
theorem dX2_doLine_154 : decode cX2_doLine 154 = .ok (.getfield 109, 3) := by decide +kernel
theorem dX2_doLine_157 : decode cX2_doLine 157 = .ok (.iload_n 1, 1) := by decide +kernel
theorem dX2_doLine_158 : decode cX2_doLine 158 = .ok (.iaload, 1) := by decide +kernel
theorem dX2_doLine_159 : decode cX2_doLine 159 = .ok (.iastore, 1) := by decide +kernel
theorem dX2_doLine_160 : decode cX2_doLine 160 = .ok (.goto 11, 3) := by decide +kernel
theorem dX2_doLine_163 : decode cX2_doLine 163 = .ok (.aload_n 0, 1) := by decide +kernel
theorem dX2_doLine_164 : decode cX2_doLine 164 = .ok (.iload_n 1, 1) := by decide +kernel
theorem dX2_doLine_165 : decode cX2_doLine 165 = .ok (.invokevirtual 112, 3) := by decide +kernel
theorem dX2_doLine_168 : decode cX2_doLine 168 = .ok (.goto 3, 3) := by decide +kernel
theorem dX2_doLine_171 : decode cX2_doLine 171 = .ok (.iconst 0, 1) := by decide +kernel
theorem dX2_doLine_172 : decode cX2_doLine 172 = .ok (.ireturn, 1) := by decide +kernel
theorem dX2_doPut_0 : decode cX2_doPut 0 = .ok (.aload_n 0, 1) := by decide +kernel
theorem dX2_doPut_1 : decode cX2_doPut 1 = .ok (.getfield 30, 3) := by decide +kernel
theorem dX2_doPut_4 : decode cX2_doPut 4 = .ok (.aload_n 0, 1) := by decide +kernel
theorem dX2_doPut_5 : decode cX2_doPut 5 = .ok (.getfield 51, 3) := by decide +kernel
theorem dX2_doPut_8 : decode cX2_doPut 8 = .ok (.iaload, 1) := by decide +kernel
theorem dX2_doPut_9 : decode cX2_doPut 9 = .ok (.aload_n 0, 1) := by decide +kernel
theorem dX2_doPut_10 : decode cX2_doPut 10 = .ok (.aload_n 0, 1) := by decide +kernel
theorem dX2_doPut_11 : decode cX2_doPut 11 = .ok (.getfield 43, 3) := by decide +kernel
theorem dX2_doPut_14 : decode cX2_doPut 14 = .ok (.getfield 115, 3) := by decide +kernel
theorem dX2_doPut_17 : decode cX2_doPut 17 = .ok (.iload_n 1, 1) := by decide +kernel
theorem dX2_doPut_18 : decode cX2_doPut 18 = .ok (.iaload, 1) := by decide +kernel
theorem dX2_doPut_19 : decode cX2_doPut 19 = .ok (.invokevirtual 118, 3) := by decide +kernel
theorem dX2_doPut_22 : decode cX2_doPut 22 = .ok (.iadd, 1) := by decide +kernel
theorem dX2_doPut_23 : decode cX2_doPut 23 = .ok (.istore_n 2, 1) := by decide +kernel
theorem dX2_doPut_24 : decode cX2_doPut 24 = .ok (.aload_n 0, 1) := by decide +kernel
theorem dX2_doPut_25 : decode cX2_doPut 25 = .ok (.getfield 33, 3) := by decide +kernel
theorem dX2_doPut_28 : decode cX2_doPut 28 = .ok (.aload_n 0, 1) := by decide +kernel
theorem dX2_doPut_29 : decode cX2_doPut 29 = .ok (.getfield 51, 3) := by decide +kernel
theorem dX2_doPut_32 : decode cX2_doPut 32 = .ok (.iaload, 1) := by decide +kernel
theorem dX2_doPut_33 : decode cX2_doPut 33 = .ok (.aload_n 0, 1) := by decide +kernel
theorem dX2_doPut_34 : decode cX2_doPut 34 = .ok (.getfield 43, 3) := by decide +kernel
theorem dX2_doPut_37 : decode cX2_doPut 37 = .ok (.getfield 121, 3) := by decide +kernel
theorem dX2_doPut_40 : decode cX2_doPut 40 = .ok (.iload_n 1, 1) := by decide +kernel
theorem dX2_doPut_41 : decode cX2_doPut 41 = .ok (.iaload, 1) := by decide +kernel
theorem dX2_doPut_42 : decode cX2_doPut 42 = .ok (.iadd, 1) := by decide +kernel
theorem dX2_doPut_43 : decode cX2_doPut 43 = .ok (.istore_n 3, 1) := by decide +kernel
theorem dX2_doPut_44 : decode cX2_doPut 44 = .ok (.iload_n 2, 1) := by decide +kernel
theorem dX2_doPut_45 : decode cX2_doPut 45 = .ok (.iload_n 3, 1) := by decide +kernel
theorem dX2_doPut_46 : decode cX2_doPut 46 = .ok (.invokestatic 124, 3) := by decide +kernel
theorem dX2_doPut_49 : decode cX2_doPut 49 = .ok (.ifCond .ne 5, 3) := by decide +kernel
theorem dX2_doPut_52 : decode cX2_doPut 52 = .ok (.iconst 1, 1) := by decide +kernel
theorem dX2_doPut_53 : decode cX2_doPut 53 = .ok (.ireturn, 1) := by decide +kernel
theorem dX2_doPut_54 : decode cX2_doPut 54 = .ok (.iload_n 2, 1) := by decide +kernel
theorem dX2_doPut_55 : decode cX2_doPut 55 = .ok (.iload_n 3, 1) := by decide +kernel
theorem dX2_doPut_56 : decode cX2_doPut 56 = .ok (.invokestatic 128, 3) := by decide +kernel
theorem dX2_doPut_59 : decode cX2_doPut 59 = .ok (.istore 4, 2) := by decide +kernel
theorem dX2_doPut_61 : decode cX2_doPut 61 = .ok (.aload_n 0, 1) := by decide +kernel
theorem dX2_doPut_62 : decode cX2_doPut 62 = .ok (.getfield 47, 3) := by decide +kernel
theorem dX2_doPut_65 : decode cX2_doPut 65 = .ok (.getfield 132, 3) := by decide +kernel
theorem dX2_doPut_68 : decode cX2_doPut 68 = .ok (.iload 4, 2) := by decide +kernel
theorem dX2_doPut_70 : decode cX2_doPut 70 = .ok (.iaload, 1) := by decide +kernel
theorem dX2_doPut_71 : decode cX2_doPut 71 = .ok (.ifCond .eq 5, 3) := by decide +kernel
theorem dX2_doPut_74 : decode cX2_doPut 74 = .ok (.iconst 2, 1) := by decide +kernel
theorem dX2_doPut_75 : decode cX2_doPut 75 = .ok (.ireturn, 1) := by decide +kernel
theorem dX2_doPut_76 : decode cX2_doPut 76 = .ok (.aload_n 0, 1) := by decide +kernel
theorem dX2_doPut_77 : decode cX2_doPut 77 = .ok (.getfield 43, 3) := by decide +kernel
theorem dX2_doPut_80 : decode cX2_doPut 80 = .ok (.getfield 106, 3) := by decide +kernel
theorem dX2_doPut_83 : decode cX2_doPut 83 = .ok (.iload_n 1, 1) := by decide +kernel
theorem dX2_doPut_84 : decode cX2_doPut 84 = .ok (.iaload, 1) := by decide +kernel
theorem dX2_doPut_85 : decode cX2_doPut 85 = .ok (.istore 5, 2) := by decide +kernel
theorem dX2_doPut_87 : decode cX2_doPut 87 = .ok (.aload_n 0, 1) := by decide +kernel
theorem dX2_doPut_88 : decode cX2_doPut 88 = .ok (.getfield 43, 3) := by decide +kernel
theorem dX2_doPut_91 : decode cX2_doPut 91 = .ok (.getfield 109, 3) := by decide +kernel
theorem dX2_doPut_94 : decode cX2_doPut 94 = .ok (.iload_n 1, 1) := by decide +kernel
theorem dX2_doPut_95 : decode cX2_doPut 95 = .ok (.iaload, 1) := by decide +kernel
theorem dX2_doPut_96 : decode cX2_doPut 96 = .ok (.istore 6, 2) := by decide +kernel
theorem dX2_doPut_98 : decode cX2_doPut 98 = .ok (.iload 5, 2) := by decide +kernel
theorem dX2_doPut_100 : decode cX2_doPut 100 = .ok (.invokestatic 135, 3) := by decide +kernel
theorem dX2_doPut_103 : decode cX2_doPut 103 = .ok (.ifCond .eq 17, 3) := by decide +kernel
theorem dX2_doPut_106 : decode cX2_doPut 106 = .ok (.aload_n 0, 1) := by decide +kernel
theorem dX2_doPut_107 : decode cX2_doPut 107 = .ok (.getfield 47, 3) := by decide +kernel
theorem dX2_doPut_110 : decode cX2_doPut 110 = .ok (.getfield 139, 3) := by decide +kernel
theorem dX2_doPut_113 : decode cX2_doPut 113 = .ok (.bipush 16, 2) := by decide +kernel
theorem dX2_doPut_115 : decode cX2_doPut 115 = .ok (.if_icmp .lt 5, 3) := by decide +kernel
theorem dX2_doPut_118 : decode cX2_doPut 118 = .ok (.iconst 3, 1) := by decide +kernel
theorem dX2_doPut_119 : decode cX2_doPut 119 = .ok (.ireturn, 1) := by decide +kernel
theorem dX2_doPut_120 : decode cX2_doPut 120 = .ok (.aload_n 0, 1) := by decide +kernel
theorem dX2_doPut_121 : decode cX2_doPut 121 = .ok (.getfield 36, 3) := by decide +kernel
theorem dX2_doPut_124 : decode cX2_doPut 124 = .ok (.aload_n 0, 1) := by decide +kernel
theorem dX2_doPut_125 : decode cX2_doPut 125 = .ok (.getfield 51, 3) := by decide +kernel
theorem dX2_doPut_128 : decode cX2_doPut 128 = .ok (.baload, 1) := by decide +kernel
theorem dX2_doPut_129 : decode cX2_doPut 129 = .ok (.ifCond .eq 50, 3) := by decide +kernel
theorem dX2_doPut_132 : decode cX2_doPut 132 = .ok (.iload 5, 2) := by decide +kernel
theorem dX2_doPut_134 : decode cX2_doPut 134 = .ok (.iconst 4, 1) := by decide +kernel
theorem dX2_doPut_135 : decode cX2_doPut 135 = .ok (.if_icmp .eq 10, 3) := by decide +kernel
theorem dX2_doPut_138 : decode cX2_doPut 138 = .ok (.iload 5, 2) := by decide +kernel
theorem dX2_doPut_140 : decode cX2_doPut 140 = .ok (.bipush 9, 2) := by decide +kernel
theorem dX2_doPut_142 : decode cX2_doPut 142 = .ok (.if_icmp .ne 10, 3) := by decide +kernel
theorem dX2_doPut_145 : decode cX2_doPut 145 = .ok (.iconst 1, 1) := by decide +kernel
theorem dX2_doPut_146 : decode cX2_doPut 146 = .ok (.iload 6, 2) := by decide +kernel
theorem dX2_doPut_148 : decode cX2_doPut 148 = .ok (.isub, 1) := by decide +kernel
theorem dX2_doPut_149 : decode cX2_doPut 149 = .ok (.goto 5, 3) := by decide +kernel
theorem dX2_doPut_152 : decode cX2_doPut 152 = .ok (.iload 6, 2) := by decide +kernel
theorem dX2_doPut_154 : decode cX2_doPut 154 = .ok (.istore 6, 2) := by decide +kernel
theorem dX2_doPut_156 : decode cX2_doPut 156 = .ok (.iload 5, 2) := by decide +kernel
theorem dX2_doPut_158 : decode cX2_doPut 158 = .ok (.iconst 1, 1) := by decide +kernel
theorem dX2_doPut_159 : decode cX2_doPut 159 = .ok (.if_icmp .eq 9, 3) := by decide +kernel
theorem dX2_doPut_162 : decode cX2_doPut 162 = .ok (.iload 5, 2) := by decide +kernel
theorem dX2_doPut_164 : decode cX2_doPut 164 = .ok (.iconst 2, 1) := by decide +kernel
theorem dX2_doPut_165 : decode cX2_doPut 165 = .ok (.if_icmp .ne 10, 3) := by decide +kernel
theorem dX2_doPut_168 : decode cX2_doPut 168 = .ok (.iconst 3, 1) := by decide +kernel
theorem dX2_doPut_169 : decode cX2_doPut 169 = .ok (.iload 5, 2) := by decide +kernel
theorem dX2_doPut_171 : decode cX2_doPut 171 = .ok (.isub, 1) := by decide +kernel
theorem dX2_doPut_172 : decode cX2_doPut 172 = .ok (.goto 5, 3) := by decide +kernel
theorem dX2_doPut_175 : decode cX2_doPut 175 = .ok (.iload 5, 2) := by decide +kernel
theorem dX2_doPut_177 : decode cX2_doPut 177 = .ok (.istore 5, 2) := by decide +kernel
theorem dX2_doPut_179 : decode cX2_doPut 179 = .ok (.aload_n 0, 1) := by decide +kernel
theorem dX2_doPut_180 : decode cX2_doPut 180 = .ok (.getfield 47, 3) := by decide +kernel
theorem dX2_doPut_183 : decode cX2_doPut 183 = .ok (.iload 4, 2) := by decide +kernel
theorem dX2_doPut_185 : decode cX2_doPut 185 = .ok (.iload 5, 2) := by decide +kernel
theorem dX2_doPut_187 : decode cX2_doPut 187 = .ok (.iload 6, 2) := by decide +kernel
theorem dX2_doPut_189 : decode cX2_doPut 189 = .ok (.invokevirtual 142, 3) := by decide +kernel
theorem dX2_doPut_192 : decode cX2_doPut 192 = .ok (.aload_n 0, 1) := by decide +kernel
theorem dX2_doPut_193 : decode cX2_doPut 193 = .ok (.dup, 1) := by decide +kernel
theorem dX2_doPut_194 : decode cX2_doPut 194 = .ok (.getfield 58, 3) := by decide +kernel
theorem dX2_doPut_197 : decode cX2_doPut 197 = .ok (.iconst 1, 1) := by decide +kernel
theorem dX2_doPut_198 : decode cX2_doPut 198 = .ok (.iadd, 1) := by decide +kernel
theorem dX2_doPut_199 : decode cX2_doPut 199 = .ok (.putfield 58, 3) := by decide +kernel
theorem dX2_doPut_202 : decode cX2_doPut 202 = .ok (.iconst 0, 1) := by decide +kernel
theorem dX2_doPut_203 : decode cX2_doPut 203 = .ok (.ireturn, 1) := by decide +kernel
theorem dX2_turned_0 : decode cX2_turned 0 = .ok (.aload_n 0, 1) := by decide +kernel
theorem dX2_turned_1 : decode cX2_turned 1 = .ok (.getfield 36, 3) := by decide +kernel
theorem dX2_turned_4 : decode cX2_turned 4 = .ok (.aload_n 0, 1) := by decide +kernel
theorem dX2_turned_5 : decode cX2_turned 5 = .ok (.getfield 51, 3) := by decide +kernel
theorem dX2_turned_8 : decode cX2_turned 8 = .ok (.baload, 1) := by decide +kernel
theorem dX2_turned_9 : decode cX2_turned 9 = .ok (.ifCond .eq 8, 3) := by decide +kernel
theorem dX2_turned_12 : decode cX2_turned 12 = .ok (.iload_n 1, 1) := by decide +kernel
theorem dX2_turned_13 : decode cX2_turned 13 = .ok (.ineg, 1) := by decide +kernel
theorem dX2_turned_14 : decode cX2_turned 14 = .ok (.goto 4, 3) := by decide +kernel
theorem dX2_turned_17 : decode cX2_turned 17 = .ok (.iload_n 1, 1) := by decide +kernel
theorem dX2_turned_18 : decode cX2_turned 18 = .ok (.ireturn, 1) := by decide +kernel
theorem dX2_beginAgain_0 : decode cX2_beginAgain 0 = .ok (.aload_n 0, 1) := by decide +kernel
theorem dX2_beginAgain_1 : decode cX2_beginAgain 1 = .ok (.dup, 1) := by decide +kernel
theorem dX2_beginAgain_2 : decode cX2_beginAgain 2 = .ok (.getfield 51, 3) := by decide +kernel
theorem dX2_beginAgain_5 : decode cX2_beginAgain 5 = .ok (.iconst 1, 1) := by decide +kernel
theorem dX2_beginAgain_6 : decode cX2_beginAgain 6 = .ok (.iadd, 1) := by decide +kernel
theorem dX2_beginAgain_7 : decode cX2_beginAgain 7 = .ok (.putfield 51, 3) := by decide +kernel
theorem dX2_beginAgain_10 : decode cX2_beginAgain 10 = .ok (.aload_n 0, 1) := by decide +kernel
theorem dX2_beginAgain_11 : decode cX2_beginAgain 11 = .ok (.iload_n 1, 1) := by decide +kernel
theorem dX2_beginAgain_12 : decode cX2_beginAgain 12 = .ok (.iconst 1, 1) := by decide +kernel
theorem dX2_beginAgain_13 : decode cX2_beginAgain 13 = .ok (.iadd, 1) := by decide +kernel
theorem dX2_beginAgain_14 : decode cX2_beginAgain 14 = .ok (.aload_n 0, 1) := by decide +kernel
theorem dX2_beginAgain_15 : decode cX2_beginAgain 15 = .ok (.getfield 43, 3) := by decide +kernel
theorem dX2_beginAgain_18 : decode cX2_beginAgain 18 = .ok (.getfield 86, 3) := by decide +kernel
theorem dX2_beginAgain_21 : decode cX2_beginAgain 21 = .ok (.iload_n 1, 1) := by decide +kernel
theorem dX2_beginAgain_22 : decode cX2_beginAgain 22 = .ok (.iaload, 1) := by decide +kernel
theorem dX2_beginAgain_23 : decode cX2_beginAgain 23 = .ok (.aload_n 0, 1) := by decide +kernel
theorem dX2_beginAgain_24 : decode cX2_beginAgain 24 = .ok (.getfield 43, 3) := by decide +kernel
theorem dX2_beginAgain_27 : decode cX2_beginAgain 27 = .ok (.getfield 106, 3) := by decide +kernel
theorem dX2_beginAgain_30 : decode cX2_beginAgain 30 = .ok (.iload_n 1, 1) := by decide +kernel
theorem dX2_beginAgain_31 : decode cX2_beginAgain 31 = .ok (.iaload, 1) := by decide +kernel
theorem dX2_beginAgain_32 : decode cX2_beginAgain 32 = .ok (.invokevirtual 66, 3) := by decide +kernel
theorem dX2_beginAgain_35 : decode cX2_beginAgain 35 = .ok (.aload_n 0, 1) := by decide +kernel
theorem dX2_beginAgain_36 : decode cX2_beginAgain 36 = .ok (.getfield 24, 3) := by decide +kernel
theorem dX2_beginAgain_39 : decode cX2_beginAgain 39 = .ok (.aload_n 0, 1) := by decide +kernel
theorem dX2_beginAgain_40 : decode cX2_beginAgain 40 = .ok (.getfield 51, 3) := by decide +kernel
theorem dX2_beginAgain_43 : decode cX2_beginAgain 43 = .ok (.aload_n 0, 1) := by decide +kernel
theorem dX2_beginAgain_44 : decode cX2_beginAgain 44 = .ok (.aload_n 0, 1) := by decide +kernel
theorem dX2_beginAgain_45 : decode cX2_beginAgain 45 = .ok (.getfield 43, 3) := by decide +kernel
theorem dX2_beginAgain_48 : decode cX2_beginAgain 48 = .ok (.getfield 109, 3) := by decide +kernel
theorem dX2_beginAgain_51 : decode cX2_beginAgain 51 = .ok (.iload_n 1, 1) := by decide +kernel
theorem dX2_beginAgain_52 : decode cX2_beginAgain 52 = .ok (.iaload, 1) := by decide +kernel
theorem dX2_beginAgain_53 : decode cX2_beginAgain 53 = .ok (.invokevirtual 118, 3) := by decide +kernel
theorem dX2_beginAgain_56 : decode cX2_beginAgain 56 = .ok (.iastore, 1) := by decide +kernel
theorem dX2_beginAgain_57 : decode cX2_beginAgain 57 = .ok (.aload_n 0, 1) := by decide +kernel
theorem dX2_beginAgain_58 : decode cX2_beginAgain 58 = .ok (.getfield 27, 3) := by decide +kernel
theorem dX2_beginAgain_61 : decode cX2_beginAgain 61 = .ok (.aload_n 0, 1) := by decide +kernel
theorem dX2_beginAgain_62 : decode cX2_beginAgain 62 = .ok (.getfield 51, 3) := by decide +kernel
theorem dX2_beginAgain_65 : decode cX2_beginAgain 65 = .ok (.aload_n 0, 1) := by decide +kernel
theorem dX2_beginAgain_66 : decode cX2_beginAgain 66 = .ok (.getfield 43, 3) := by decide +kernel
theorem dX2_beginAgain_69 : decode cX2_beginAgain 69 = .ok (.getfield 115, 3) := by decide +kernel
theorem dX2_beginAgain_72 : decode cX2_beginAgain 72 = .ok (.iload_n 1, 1) := by decide +kernel
theorem dX2_beginAgain_73 : decode cX2_beginAgain 73 = .ok (.iaload, 1) := by decide +kernel
theorem dX2_beginAgain_74 : decode cX2_beginAgain 74 = .ok (.iastore, 1) := by decide +kernel
theorem dX2_beginAgain_75 : decode cX2_beginAgain 75 = .ok (.return_, 1) := by decide +kernel
theorem dX2_beginMirror_0 : decode cX2_beginMirror 0 = .ok (.aload_n 0, 1) := by decide +kernel
theorem dX2_beginMirror_1 : decode cX2_beginMirror 1 = .ok (.dup, 1) := by decide +kernel
theorem dX2_beginMirror_2 : decode cX2_beginMirror 2 = .ok (.getfield 51, 3) := by decide +kernel
theorem dX2_beginMirror_5 : decode cX2_beginMirror 5 = .ok (.iconst 1, 1) := by decide +kernel
theorem dX2_beginMirror_6 : decode cX2_beginMirror 6 = .ok (.iadd, 1) := by decide +kernel
theorem dX2_beginMirror_7 : decode cX2_beginMirror 7 = .ok (.putfield 51, 3) := by decide +kernel
theorem dX2_beginMirror_10 : decode cX2_beginMirror 10 = .ok (.aload_n 0, 1) := by decide +kernel
theorem dX2_beginMirror_11 : decode cX2_beginMirror 11 = .ok (.iload_n 1, 1) := by decide +kernel
theorem dX2_beginMirror_12 : decode cX2_beginMirror 12 = .ok (.iconst 1, 1) := by decide +kernel
theorem dX2_beginMirror_13 : decode cX2_beginMirror 13 = .ok (.iadd, 1) := by decide +kernel
theorem dX2_beginMirror_14 : decode cX2_beginMirror 14 = .ok (.aload_n 0, 1) := by decide +kernel
theorem dX2_beginMirror_15 : decode cX2_beginMirror 15 = .ok (.getfield 43, 3) := by decide +kernel
theorem dX2_beginMirror_18 : decode cX2_beginMirror 18 = .ok (.getfield 86, 3) := by decide +kernel
theorem dX2_beginMirror_21 : decode cX2_beginMirror 21 = .ok (.iload_n 1, 1) := by decide +kernel
theorem dX2_beginMirror_22 : decode cX2_beginMirror 22 = .ok (.iaload, 1) := by decide +kernel
theorem dX2_beginMirror_23 : decode cX2_beginMirror 23 = .ok (.iconst 1, 1) := by decide +kernel
theorem dX2_beginMirror_24 : decode cX2_beginMirror 24 = .ok (.invokevirtual 66, 3) := by decide +kernel
theorem dX2_beginMirror_27 : decode cX2_beginMirror 27 = .ok (.aload_n 0, 1) := by decide +kernel
theorem dX2_beginMirror_28 : decode cX2_beginMirror 28 = .ok (.getfield 30, 3) := by decide +kernel
theorem dX2_beginMirror_31 : decode cX2_beginMirror 31 = .ok (.aload_n 0, 1) := by decide +kernel
theorem dX2_beginMirror_32 : decode cX2_beginMirror 32 = .ok (.getfield 51, 3) := by decide +kernel
theorem dX2_beginMirror_35 : decode cX2_beginMirror 35 = .ok (.dup2, 1) := by decide +kernel
theorem dX2_beginMirror_36 : decode cX2_beginMirror 36 = .ok (.iaload, 1) := by decide +kernel
theorem dX2_beginMirror_37 : decode cX2_beginMirror 37 = .ok (.aload_n 0, 1) := by decide +kernel
theorem dX2_beginMirror_38 : decode cX2_beginMirror 38 = .ok (.iconst 2, 1) := by decide +kernel
theorem dX2_beginMirror_39 : decode cX2_beginMirror 39 = .ok (.aload_n 0, 1) := by decide +kernel
theorem dX2_beginMirror_40 : decode cX2_beginMirror 40 = .ok (.getfield 43, 3) := by decide +kernel
theorem dX2_beginMirror_43 : decode cX2_beginMirror 43 = .ok (.getfield 106, 3) := by decide +kernel
theorem dX2_beginMirror_46 : decode cX2_beginMirror 46 = .ok (.iload_n 1, 1) := by decide +kernel
theorem dX2_beginMirror_47 : decode cX2_beginMirror 47 = .ok (.iaload, 1) := by decide +kernel
theorem dX2_beginMirror_48 : decode cX2_beginMirror 48 = .ok (.imul, 1) := by decide +kernel
theorem dX2_beginMirror_49 : decode cX2_beginMirror 49 = .ok (.invokevirtual 118, 3) := by decide +kernel
theorem dX2_beginMirror_52 : decode cX2_beginMirror 52 = .ok (.iadd, 1) := by decide +kernel
theorem dX2_beginMirror_53 : decode cX2_beginMirror 53 = .ok (.iastore, 1) := by decide +kernel
theorem dX2_beginMirror_54 : decode cX2_beginMirror 54 = .ok (.aload_n 0, 1) := by decide +kernel
theorem dX2_beginMirror_55 : decode cX2_beginMirror 55 = .ok (.getfield 36, 3) := by decide +kernel
theorem dX2_beginMirror_58 : decode cX2_beginMirror 58 = .ok (.aload_n 0, 1) := by decide +kernel
theorem dX2_beginMirror_59 : decode cX2_beginMirror 59 = .ok (.getfield 51, 3) := by decide +kernel
theorem dX2_beginMirror_62 : decode cX2_beginMirror 62 = .ok (.aload_n 0, 1) := by decide +kernel
theorem dX2_beginMirror_63 : decode cX2_beginMirror 63 = .ok (.getfield 36, 3) := by decide +kernel
theorem dX2_beginMirror_66 : decode cX2_beginMirror 66 = .ok (.aload_n 0, 1) := by decide +kernel
theorem dX2_beginMirror_67 : decode cX2_beginMirror 67 = .ok (.getfield 51, 3) := by decide +kernel
theorem dX2_beginMirror_70 : decode cX2_beginMirror 70 = .ok (.baload, 1) := by decide +kernel
theorem dX2_beginMirror_71 : decode cX2_beginMirror 71 = .ok (.ifCond .ne 7, 3) := by decide +kernel
theorem dX2_beginMirror_74 : decode cX2_beginMirror 74 = .ok (.iconst 1, 1) := by decide +kernel
theorem dX2_beginMirror_75 : decode cX2_beginMirror 75 = .ok (.goto 4, 3) := by decide +kernel
theorem dX2_beginMirror_78 : decode cX2_beginMirror 78 = .ok (.iconst 0, 1) := by decide +kernel
theorem dX2_beginMirror_79 : decode cX2_beginMirror 79 = .ok (.bastore, 1) := by decide +kernel
theorem dX2_beginMirror_80 : decode cX2_beginMirror 80 = .ok (.return_, 1) := by decide +kernel
theorem dX2_beginUse_0 : decode cX2_beginUse 0 = .ok (.aload_n 0, 1) := by decide +kernel
theorem dX2_beginUse_1 : decode cX2_beginUse 1 = .ok (.getfield 43, 3) := by decide +kernel
theorem dX2_beginUse_4 : decode cX2_beginUse 4 = .ok (.getfield 106, 3) := by decide +kernel
theorem dX2_beginUse_7 : decode cX2_beginUse 7 = .ok (.iload_n 1, 1) := by decide +kernel
theorem dX2_beginUse_8 : decode cX2_beginUse 8 = .ok (.iaload, 1) := by decide +kernel
theorem dX2_beginUse_9 : decode cX2_beginUse 9 = .ok (.istore_n 2, 1) := by decide +kernel
theorem dX2_beginUse_10 : decode cX2_beginUse 10 = .ok (.aload_n 0, 1) := by decide +kernel
theorem dX2_beginUse_11 : decode cX2_beginUse 11 = .ok (.dup, 1) := by decide +kernel
theorem dX2_beginUse_12 : decode cX2_beginUse 12 = .ok (.getfield 51, 3) := by decide +kernel
theorem dX2_beginUse_15 : decode cX2_beginUse 15 = .ok (.iconst 1, 1) := by decide +kernel
theorem dX2_beginUse_16 : decode cX2_beginUse 16 = .ok (.iadd, 1) := by decide +kernel
theorem dX2_beginUse_17 : decode cX2_beginUse 17 = .ok (.putfield 51, 3) := by decide +kernel
theorem dX2_beginUse_20 : decode cX2_beginUse 20 = .ok (.aload_n 0, 1) := by decide +kernel
theorem dX2_beginUse_21 : decode cX2_beginUse 21 = .ok (.iload_n 2, 1) := by decide +kernel
theorem dX2_beginUse_22 : decode cX2_beginUse 22 = .ok (.iconst 1, 1) := by decide +kernel
theorem dX2_beginUse_23 : decode cX2_beginUse 23 = .ok (.iadd, 1) := by decide +kernel
theorem dX2_beginUse_24 : decode cX2_beginUse 24 = .ok (.aload_n 0, 1) := by decide +kernel
theorem dX2_beginUse_25 : decode cX2_beginUse 25 = .ok (.getfield 43, 3) := by decide +kernel
theorem dX2_beginUse_28 : decode cX2_beginUse 28 = .ok (.getfield 86, 3) := by decide +kernel
theorem dX2_beginUse_31 : decode cX2_beginUse 31 = .ok (.iload_n 2, 1) := by decide +kernel
theorem dX2_beginUse_32 : decode cX2_beginUse 32 = .ok (.iaload, 1) := by decide +kernel
theorem dX2_beginUse_33 : decode cX2_beginUse 33 = .ok (.iconst 1, 1) := by decide +kernel
theorem dX2_beginUse_34 : decode cX2_beginUse 34 = .ok (.invokevirtual 66, 3) := by decide +kernel
theorem dX2_beginUse_37 : decode cX2_beginUse 37 = .ok (.aload_n 0, 1) := by decide +kernel
theorem dX2_beginUse_38 : decode cX2_beginUse 38 = .ok (.getfield 30, 3) := by decide +kernel
theorem dX2_beginUse_41 : decode cX2_beginUse 41 = .ok (.aload_n 0, 1) := by decide +kernel
theorem dX2_beginUse_42 : decode cX2_beginUse 42 = .ok (.getfield 51, 3) := by decide +kernel
theorem dX2_beginUse_45 : decode cX2_beginUse 45 = .ok (.dup2, 1) := by decide +kernel
theorem dX2_beginUse_46 : decode cX2_beginUse 46 = .ok (.iaload, 1) := by decide +kernel
theorem dX2_beginUse_47 : decode cX2_beginUse 47 = .ok (.aload_n 0, 1) := by decide +kernel
theorem dX2_beginUse_48 : decode cX2_beginUse 48 = .ok (.aload_n 0, 1) := by decide +kernel
theorem dX2_beginUse_49 : decode cX2_beginUse 49 = .ok (.getfield 43, 3) := by decide +kernel
theorem dX2_beginUse_52 : decode cX2_beginUse 52 = .ok (.getfield 109, 3) := by decide +kernel
theorem dX2_beginUse_55 : decode cX2_beginUse 55 = .ok (.iload_n 1, 1) := by decide +kernel
theorem dX2_beginUse_56 : decode cX2_beginUse 56 = .ok (.iaload, 1) := by decide +kernel
theorem dX2_beginUse_57 : decode cX2_beginUse 57 = .ok (.invokevirtual 118, 3) := by decide +kernel
theorem dX2_beginUse_60 : decode cX2_beginUse 60 = .ok (.iadd, 1) := by decide +kernel
theorem dX2_beginUse_61 : decode cX2_beginUse 61 = .ok (.iastore, 1) := by decide +kernel
theorem dX2_beginUse_62 : decode cX2_beginUse 62 = .ok (.aload_n 0, 1) := by decide +kernel
theorem dX2_beginUse_63 : decode cX2_beginUse 63 = .ok (.getfield 33, 3) := by decide +kernel
theorem dX2_beginUse_66 : decode cX2_beginUse 66 = .ok (.aload_n 0, 1) := by decide +kernel
theorem dX2_beginUse_67 : decode cX2_beginUse 67 = .ok (.getfield 51, 3) := by decide +kernel
theorem dX2_beginUse_70 : decode cX2_beginUse 70 = .ok (.dup2, 1) := by decide +kernel
theorem dX2_beginUse_71 : decode cX2_beginUse 71 = .ok (.iaload, 1) := by decide +kernel
theorem dX2_beginUse_72 : decode cX2_beginUse 72 = .ok (.aload_n 0, 1) := by decide +kernel
theorem dX2_beginUse_73 : decode cX2_beginUse 73 = .ok (.getfield 43, 3) := by decide +kernel
theorem dX2_beginUse_76 : decode cX2_beginUse 76 = .ok (.getfield 115, 3) := by decide +kernel
theorem dX2_beginUse_79 : decode cX2_beginUse 79 = .ok (.iload_n 1, 1) := by decide +kernel
theorem dX2_beginUse_80 : decode cX2_beginUse 80 = .ok (.iaload, 1) := by decide +kernel
theorem dX2_beginUse_81 : decode cX2_beginUse 81 = .ok (.iadd, 1) := by decide +kernel
theorem dX2_beginUse_82 : decode cX2_beginUse 82 = .ok (.iastore, 1) := by decide +kernel
theorem dX2_beginUse_83 : decode cX2_beginUse 83 = .ok (.return_, 1) := by decide +kernel
theorem dX2_doHopper_0 : decode cX2_doHopper 0 = .ok (.aload_n 0, 1) := by decide +kernel
theorem dX2_doHopper_1 : decode cX2_doHopper 1 = .ok (.getfield 43, 3) := by decide +kernel
theorem dX2_doHopper_4 : decode cX2_doHopper 4 = .ok (.getfield 106, 3) := by decide +kernel
theorem dX2_doHopper_7 : decode cX2_doHopper 7 = .ok (.iload_n 1, 1) := by decide +kernel
theorem dX2_doHopper_8 : decode cX2_doHopper 8 = .ok (.iaload, 1) := by decide +kernel
theorem dX2_doHopper_9 : decode cX2_doHopper 9 = .ok (.istore_n 2, 1) := by decide +kernel
theorem dX2_doHopper_10 : decode cX2_doHopper 10 = .ok (.aload_n 0, 1) := by decide +kernel
theorem dX2_doHopper_11 : decode cX2_doHopper 11 = .ok (.getfield 47, 3) := by decide +kernel
theorem dX2_doHopper_14 : decode cX2_doHopper 14 = .ok (.getfield 145, 3) := by decide +kernel
theorem dX2_doHopper_17 : decode cX2_doHopper 17 = .ok (.iload_n 2, 1) := by decide +kernel
theorem dX2_doHopper_18 : decode cX2_doHopper 18 = .ok (.aload_n 0, 1) := by decide +kernel
theorem dX2_doHopper_19 : decode cX2_doHopper 19 = .ok (.getfield 43, 3) := by decide +kernel
theorem dX2_doHopper_22 : decode cX2_doHopper 22 = .ok (.getfield 109, 3) := by decide +kernel
theorem dX2_doHopper_25 : decode cX2_doHopper 25 = .ok (.iload_n 1, 1) := by decide +kernel
theorem dX2_doHopper_26 : decode cX2_doHopper 26 = .ok (.iaload, 1) := by decide +kernel
theorem dX2_doHopper_27 : decode cX2_doHopper 27 = .ok (.iastore, 1) := by decide +kernel
theorem dX2_doHopper_28 : decode cX2_doHopper 28 = .ok (.aload_n 0, 1) := by decide +kernel
theorem dX2_doHopper_29 : decode cX2_doHopper 29 = .ok (.getfield 47, 3) := by decide +kernel
theorem dX2_doHopper_32 : decode cX2_doHopper 32 = .ok (.getfield 148, 3) := by decide +kernel
theorem dX2_doHopper_35 : decode cX2_doHopper 35 = .ok (.iload_n 2, 1) := by decide +kernel
theorem dX2_doHopper_36 : decode cX2_doHopper 36 = .ok (.aload_n 0, 1) := by decide +kernel
theorem dX2_doHopper_37 : decode cX2_doHopper 37 = .ok (.getfield 43, 3) := by decide +kernel
theorem dX2_doHopper_40 : decode cX2_doHopper 40 = .ok (.getfield 115, 3) := by decide +kernel
theorem dX2_doHopper_43 : decode cX2_doHopper 43 = .ok (.iload_n 1, 1) := by decide +kernel
theorem dX2_doHopper_44 : decode cX2_doHopper 44 = .ok (.iaload, 1) := by decide +kernel
theorem dX2_doHopper_45 : decode cX2_doHopper 45 = .ok (.iastore, 1) := by decide +kernel
theorem dX2_doHopper_46 : decode cX2_doHopper 46 = .ok (.aload_n 0, 1) := by decide +kernel
theorem dX2_doHopper_47 : decode cX2_doHopper 47 = .ok (.getfield 47, 3) := by decide +kernel
theorem dX2_doHopper_50 : decode cX2_doHopper 50 = .ok (.getfield 151, 3) := by decide +kernel
theorem dX2_doHopper_53 : decode cX2_doHopper 53 = .ok (.iload_n 2, 1) := by decide +kernel
theorem dX2_doHopper_54 : decode cX2_doHopper 54 = .ok (.aload_n 0, 1) := by decide +kernel
theorem dX2_doHopper_55 : decode cX2_doHopper 55 = .ok (.getfield 43, 3) := by decide +kernel
theorem dX2_doHopper_58 : decode cX2_doHopper 58 = .ok (.getfield 121, 3) := by decide +kernel
theorem dX2_doHopper_61 : decode cX2_doHopper 61 = .ok (.iload_n 1, 1) := by decide +kernel
theorem dX2_doHopper_62 : decode cX2_doHopper 62 = .ok (.iaload, 1) := by decide +kernel
theorem dX2_doHopper_63 : decode cX2_doHopper 63 = .ok (.iastore, 1) := by decide +kernel
theorem dX2_doHopper_64 : decode cX2_doHopper 64 = .ok (.return_, 1) := by decide +kernel
theorem dX3_init_0 : decode cX3_init 0 = .ok (.aload_n 0, 1) := by decide +kernel
theorem dX3_init_1 : decode cX3_init 1 = .ok (.invokespecial 1, 3) := by decide +kernel
theorem dX3_init_4 : decode cX3_init 4 = .ok (.aload_n 0, 1) := by decide +kernel
theorem dX3_init_5 : decode cX3_init 5 = .ok (.bipush 21, 2) := by decide +kernel
theorem dX3_init_7 : decode cX3_init 7 = .ok (.anewarray 9, 3) := by decide +kernel
theorem dX3_init_10 : decode cX3_init 10 = .ok (.putfield 11, 3) := by decide +kernel
theorem dX3_init_13 : decode cX3_init 13 = .ok (.iconst 0, 1) := by decide +kernel
theorem dX3_init_14 : decode cX3_init 14 = .ok (.istore_n 1, 1) := by decide +kernel
theorem dX3_init_15 : decode cX3_init 15 = .ok (.iload_n 1, 1) := by decide +kernel
theorem dX3_init_16 : decode cX3_init 16 = .ok (.bipush 20, 2) := by decide +kernel
theorem dX3_init_18 : decode cX3_init 18 = .ok (.if_icmp .gt 22, 3) := by decide +kernel
theorem dX3_init_21 : decode cX3_init 21 = .ok (.aload_n 0, 1) := by decide +kernel
theorem dX3_init_22 : decode cX3_init 22 = .ok (.getfield 11, 3) := by decide +kernel
theorem dX3_init_25 : decode cX3_init 25 = .ok (.iload_n 1, 1) := by decide +kernel
theorem dX3_init_26 : decode cX3_init 26 = .ok (.new 9, 3) := by decide +kernel
theorem dX3_init_29 : decode cX3_init 29 = .ok (.dup, 1) := by decide +kernel
theorem dX3_init_30 : decode cX3_init 30 = .ok (.invokespecial 15, 3) := by decide +kernel
theorem dX3_init_33 : decode cX3_init 33 = .ok (.aastore, 1) := by decide +kernel
theorem dX3_init_34 : decode cX3_init 34 = .ok (.iinc 1 1, 3) := by decide +kernel
theorem dX3_init_37 : decode cX3_init 37 = .ok (.goto (-22), 3) := by decide +kernel
theorem dX3_init_40 : decode cX3_init 40 = .ok (.return_, 1) := by decide +kernel
theorem dX3_spare_0 : decode cX3_spare 0 = .ok (.aload_n 0, 1) := by decide +kernel
theorem dX3_spare_1 : decode cX3_spare 1 = .ok (.getfield 11, 3) := by decide +kernel
theorem dX3_spare_4 : decode cX3_spare 4 = .ok (.aload_n 0, 1) := by decide +kernel
theorem dX3_spare_5 : decode cX3_spare 5 = .ok (.getfield 16, 3) := by decide +kernel
theorem dX3_spare_8 : decode cX3_spare 8 = .ok (.aload_n 0, 1) := by decide +kernel
theorem dX3_spare_9 : decode cX3_spare 9 = .ok (.getfield 20, 3) := by decide +kernel
theorem dX3_spare_12 : decode cX3_spare 12 = .ok (.iadd, 1) := by decide +kernel
theorem dX3_spare_13 : decode cX3_spare 13 = .ok (.bipush 21, 2) := by decide +kernel
theorem dX3_spare_15 : decode cX3_spare 15 = .ok (.irem, 1) := by decide +kernel
theorem dX3_spare_16 : decode cX3_spare 16 = .ok (.aaload, 1) := by decide +kernel
theorem dX3_spare_17 : decode cX3_spare 17 = .ok (.areturn, 1) := by decide +kernel
theorem dX3_keepSpare_0 : decode cX3_keepSpare 0 = .ok (.aload_n 0, 1) := by decide +kernel
theorem dX3_keepSpare_1 : decode cX3_keepSpare 1 = .ok (.getfield 20, 3) := by decide +kernel
theorem dX3_keepSpare_4 : decode cX3_keepSpare 4 = .ok (.bipush 20, 2) := by decide +kernel
theorem dX3_keepSpare_6 : decode cX3_keepSpare 6 = .ok (.if_icmp .ge 16, 3) := by decide +kernel
theorem dX3_keepSpare_9 : decode cX3_keepSpare 9 = .ok (.aload_n 0, 1) := by decide +kernel
theorem dX3_keepSpare_10 : decode cX3_keepSpare 10 = .ok (.dup, 1) := by decide +kernel
theorem dX3_keepSpare_11 : decode cX3_keepSpare 11 = .ok (.getfield 20, 3) := by decide +kernel
theorem dX3_keepSpare_14 : decode cX3_keepSpare 14 = .ok (.iconst 1, 1) := by decide +kernel
theorem dX3_keepSpare_15 : decode cX3_keepSpare 15 = .ok (.iadd, 1) := by decide +kernel
theorem dX3_keepSpare_16 : decode cX3_keepSpare 16 = .ok (.putfield 20, 3) := by decide +kernel
theorem dX3_keepSpare_19 : decode cX3_keepSpare 19 = .ok (.goto 16, 3) := by decide +kernel
theorem dX3_keepSpare_22 : decode cX3_keepSpare 22 = .ok (.aload_n 0, 1) := by decide +kernel
theorem dX3_keepSpare_23 : decode cX3_keepSpare 23 = .ok (.aload_n 0, 1) := by decide +kernel
theorem dX3_keepSpare_24 : decode cX3_keepSpare 24 = .ok (.getfield 16, 3) := by decide +kernel
theorem dX3_keepSpare_27 : decode cX3_keepSpare 27 = .ok (.iconst 1, 1) := by decide +kernel
theorem dX3_keepSpare_28 : decode cX3_keepSpare 28 = .ok (.iadd, 1) := by decide +kernel
theorem dX3_keepSpare_29 : decode cX3_keepSpare 29 = .ok (.bipush 21, 2) := by decide +kernel
theorem dX3_keepSpare_31 : decode cX3_keepSpare 31 = .ok (.irem, 1) := by decide +kernel
theorem dX3_keepSpare_32 : decode cX3_keepSpare 32 = .ok (.putfield 16, 3) := by decide +kernel
theorem dX3_keepSpare_35 : decode cX3_keepSpare 35 = .ok (.return_, 1) := by decide +kernel
theorem dX3_takeLatest_0 : decode cX3_takeLatest 0 = .ok (.aload_n 0, 1) := by decide +kernel
theorem dX3_takeLatest_1 : decode cX3_takeLatest 1 = .ok (.dup, 1) := by decide +kernel
theorem dX3_takeLatest_2 : decode cX3_takeLatest 2 = .ok (.getfield 20, 3) := by decide +kernel
theorem dX3_takeLatest_5 : decode cX3_takeLatest 5 = .ok (.iconst 1, 1) := by decide +kernel
theorem dX3_takeLatest_6 : decode cX3_takeLatest 6 = .ok (.isub, 1) := by decide +kernel
theorem dX3_takeLatest_7 : decode cX3_takeLatest 7 = .ok (.putfield 20, 3) := by decide +kernel
theorem dX3_takeLatest_10 : decode cX3_takeLatest 10 = .ok (.aload_n 0, 1) := by decide +kernel
theorem dX3_takeLatest_11 : decode cX3_takeLatest 11 = .ok (.invokevirtual 23, 3) := by decide +kernel
theorem dX3_takeLatest_14 : decode cX3_takeLatest 14 = .ok (.areturn, 1) := by decide +kernel
theorem dX4_init_0 : decode cX4_init 0 = .ok (.aload_n 0, 1) := by decide +kernel
theorem dX4_init_1 : decode cX4_init 1 = .ok (.invokespecial 3, 3) := by decide +kernel
theorem dX4_init_4 : decode cX4_init 4 = .ok (.aload_n 0, 1) := by decide +kernel
theorem dX4_init_5 : decode cX4_init 5 = .ok (.bipush 125, 2) := by decide +kernel
theorem dX4_init_7 : decode cX4_init 7 = .ok (.newarray .int, 2) := by decide +kernel
theorem dX4_init_9 : decode cX4_init 9 = .ok (.putfield 11, 3) := by decide +kernel
theorem dX4_init_12 : decode cX4_init 12 = .ok (.aload_n 0, 1) := by decide +kernel
theorem dX4_init_13 : decode cX4_init 13 = .ok (.bipush 125, 2) := by decide +kernel
theorem dX4_init_15 : decode cX4_init 15 = .ok (.newarray .int, 2) := by decide +kernel
theorem dX4_init_17 : decode cX4_init 17 = .ok (.putfield 15, 3) := by decide +kernel
theorem dX4_init_20 : decode cX4_init 20 = .ok (.aload_n 0, 1) := by decide +kernel
theorem dX4_init_21 : decode cX4_init 21 = .ok (.bipush 125, 2) := by decide +kernel
theorem dX4_init_23 : decode cX4_init 23 = .ok (.newarray .int, 2) := by decide +kernel
theorem dX4_init_25 : decode cX4_init 25 = .ok (.putfield 18, 3) := by decide +kernel
theorem dX4_init_28 : decode cX4_init 28 = .ok (.aload_n 0, 1) := by decide +kernel
theorem dX4_init_29 : decode cX4_init 29 = .ok (.bipush 125, 2) := by decide +kernel
theorem dX4_init_31 : decode cX4_init 31 = .ok (.newarray .int, 2) := by decide +kernel
theorem dX4_init_33 : decode cX4_init 33 = .ok (.putfield 21, 3) := by decide +kernel
theorem dX4_init_36 : decode cX4_init 36 = .ok (.aload_n 0, 1) := by decide +kernel
theorem dX4_init_37 : decode cX4_init 37 = .ok (.bipush 125, 2) := by decide +kernel
theorem dX4_init_39 : decode cX4_init 39 = .ok (.newarray .int, 2) := by decide +kernel
theorem dX4_init_41 : decode cX4_init 41 = .ok (.putfield 24, 3) := by decide +kernel
theorem dX4_init_44 : decode cX4_init 44 = .ok (.aload_n 0, 1) := by decide +kernel
theorem dX4_init_45 : decode cX4_init 45 = .ok (.bipush 125, 2) := by decide +kernel
theorem dX4_init_47 : decode cX4_init 47 = .ok (.newarray .int, 2) := by decide +kernel
theorem dX4_init_49 : decode cX4_init 49 = .ok (.putfield 27, 3) := by decide +kernel
theorem dX4_init_52 : decode cX4_init 52 = .ok (.aload_n 0, 1) := by decide +kernel
theorem dX4_init_53 : decode cX4_init 53 = .ok (.bipush 30, 2) := by decide +kernel
theorem dX4_init_55 : decode cX4_init 55 = .ok (.newarray .long, 2) := by decide +kernel
theorem dX4_init_57 : decode cX4_init 57 = .ok (.putfield 30, 3) := by decide +kernel
theorem dX4_init_60 : decode cX4_init 60 = .ok (.aload_n 0, 1) := by decide +kernel
theorem dX4_init_61 : decode cX4_init 61 = .ok (.bipush 30, 2) := by decide +kernel
theorem dX4_init_63 : decode cX4_init 63 = .ok (.newarray .int, 2) := by decide +kernel
theorem dX4_init_65 : decode cX4_init 65 = .ok (.putfield 34, 3) := by decide +kernel
theorem dX4_init_68 : decode cX4_init 68 = .ok (.aload_n 0, 1) := by decide +kernel
theorem dX4_init_69 : decode cX4_init 69 = .ok (.iconst 5, 1) := by decide +kernel
theorem dX4_init_70 : decode cX4_init 70 = .ok (.newarray .int, 2) := by decide +kernel
theorem dX4_init_72 : decode cX4_init 72 = .ok (.putfield 37, 3) := by decide +kernel
theorem dX4_init_75 : decode cX4_init 75 = .ok (.aload_n 0, 1) := by decide +kernel
theorem dX4_init_76 : decode cX4_init 76 = .ok (.aload_n 1, 1) := by decide +kernel
theorem dX4_init_77 : decode cX4_init 77 = .ok (.putfield 40, 3) := by decide +kernel
theorem dX4_init_80 : decode cX4_init 80 = .ok (.return_, 1) := by decide +kernel
theorem dX4_read_0 : decode cX4_read 0 = .ok (.aload_n 0, 1) := by decide +kernel
theorem dX4_read_1 : decode cX4_read 1 = .ok (.iconst 0, 1) := by decide +kernel
theorem dX4_read_2 : decode cX4_read 2 = .ok (.putfield 44, 3) := by decide +kernel
theorem dX4_read_5 : decode cX4_read 5 = .ok (.aload_n 0, 1) := by decide +kernel
theorem dX4_read_6 : decode cX4_read 6 = .ok (.iconst 0, 1) := by decide +kernel
theorem dX4_read_7 : decode cX4_read 7 = .ok (.putfield 48, 3) := by decide +kernel
theorem dX4_read_10 : decode cX4_read 10 = .ok (.aload_n 0, 1) := by decide +kernel
theorem dX4_read_11 : decode cX4_read 11 = .ok (.iconst 0, 1) := by decide +kernel
theorem dX4_read_12 : decode cX4_read 12 = .ok (.putfield 51, 3) := by decide +kernel
theorem dX4_read_15 : decode cX4_read 15 = .ok (.aload_n 0, 1) := by decide +kernel
theorem dX4_read_16 : decode cX4_read 16 = .ok (.iconst 0, 1) := by decide +kernel
theorem dX4_read_17 : decode cX4_read 17 = .ok (.putfield 54, 3) := by decide +kernel
theorem dX4_read_20 : decode cX4_read 20 = .ok (.aload_n 0, 1) := by decide +kernel
theorem dX4_read_21 : decode cX4_read 21 = .ok (.iconst 0, 1) := by decide +kernel
theorem dX4_read_22 : decode cX4_read 22 = .ok (.putfield 57, 3) := by decide +kernel
theorem dX4_read_25 : decode cX4_read 25 = .ok (.aload_n 0, 1) := by decide +kernel
theorem dX4_read_26 : decode cX4_read 26 = .ok (.getfield 40, 3) := by decide +kernel
theorem dX4_read_29 : decode cX4_read 29 = .ok (.invokevirtual 60, 3) := by decide +kernel
theorem dX4_read_32 : decode cX4_read 32 = .ok (.iconst 0, 1) := by decide +kernel
theorem dX4_read_33 : decode cX4_read 33 = .ok (.istore_n 1, 1) := by decide +kernel
theorem dX4_read_34 : decode cX4_read 34 = .ok (.iload_n 1, 1) := by decide +kernel
theorem dX4_read_35 : decode cX4_read 35 = .ok (.sipush 1000, 3) := by decide +kernel
theorem dX4_read_38 : decode cX4_read 38 = .ok (.if_icmp .gt 20, 3) := by decide +kernel
theorem dX4_read_41 : decode cX4_read 41 = .ok (.aload_n 0, 1) := by decide +kernel
theorem dX4_read_42 : decode cX4_read 42 = .ok (.invokevirtual 65, 3) := by decide +kernel
theorem dX4_read_45 : decode cX4_read 45 = .ok (.ifCond .ne 13, 3) := by decide +kernel
theorem dX4_read_48 : decode cX4_read 48 = .ok (.aload_n 0, 1) := by decide +kernel
theorem dX4_read_49 : decode cX4_read 49 = .ok (.invokevirtual 69, 3) := by decide +kernel
theorem dX4_read_52 : decode cX4_read 52 = .ok (.iinc 1 1, 3) := by decide +kernel
theorem dX4_read_55 : decode cX4_read 55 = .ok (.goto (-21), 3) := by decide +kernel
theorem dX4_read_58 : decode cX4_read 58 = .ok (.aload_n 0, 1) := by decide +kernel
theorem dX4_read_59 : decode cX4_read 59 = .ok (.getfield 57, 3) := by decide +kernel
theorem dX4_read_62 : decode cX4_read 62 = .ok (.ireturn, 1) := by decide +kernel
theorem dX4_isRead_0 : decode cX4_isRead 0 = .ok (.aload_n 0, 1) := by decide +kernel
theorem dX4_isRead_1 : decode cX4_isRead 1 = .ok (.getfield 57, 3) := by decide +kernel
theorem dX4_isRead_4 : decode cX4_isRead 4 = .ok (.ifCond .ne 19, 3) := by decide +kernel
theorem dX4_isRead_7 : decode cX4_isRead 7 = .ok (.aload_n 0, 1) := by decide +kernel
theorem dX4_isRead_8 : decode cX4_isRead 8 = .ok (.invokevirtual 72, 3) := by decide +kernel
theorem dX4_isRead_11 : decode cX4_isRead 11 = .ok (.bipush 22, 2) := by decide +kernel
theorem dX4_isRead_13 : decode cX4_isRead 13 = .ok (.if_icmp .ne 14, 3) := by decide +kernel
theorem dX4_isRead_16 : decode cX4_isRead 16 = .ok (.aload_n 0, 1) := by decide +kernel
theorem dX4_isRead_17 : decode cX4_isRead 17 = .ok (.getfield 54, 3) := by decide +kernel
theorem dX4_isRead_20 : decode cX4_isRead 20 = .ok (.ifCond .ne 7, 3) := by decide +kernel
theorem dX4_isRead_23 : decode cX4_isRead 23 = .ok (.iconst 1, 1) := by decide +kernel
theorem dX4_isRead_24 : decode cX4_isRead 24 = .ok (.goto 4, 3) := by decide +kernel
theorem dX4_isRead_27 : decode cX4_isRead 27 = .ok (.iconst 0, 1) := by decide +kernel
theorem dX4_isRead_28 : decode cX4_isRead 28 = .ok (.ireturn, 1) := by decide +kernel
theorem dX4_readLine_0 : decode cX4_readLine 0 = .ok (.aload_n 0, 1) := by decide +kernel
theorem dX4_readLine_1 : decode cX4_readLine 1 = .ok (.invokevirtual 72, 3) := by decide +kernel
theorem dX4_readLine_4 : decode cX4_readLine 4 = .ok (.tableswitch 93 10 16 #[44, 51, 58, 65, 72, 79, 86], 44) := by decide +kernel
theorem dX4_readLine_48 : decode cX4_readLine 48 = .ok (.aload_n 0, 1) := by decide +kernel
theorem dX4_readLine_49 : decode cX4_readLine 49 = .ok (.invokevirtual 76, 3) := by decide +kernel
theorem dX4_readLine_52 : decode cX4_readLine 52 = .ok (.goto 49, 3) := by decide +kernel
theorem dX4_readLine_55 : decode cX4_readLine 55 = .ok (.aload_n 0, 1) := by decide +kernel
theorem dX4_readLine_56 : decode cX4_readLine 56 = .ok (.invokevirtual 79, 3) := by decide +kernel
theorem dX4_readLine_59 : decode cX4_readLine 59 = .ok (.goto 42, 3) := by decide +kernel
theorem dX4_readLine_62 : decode cX4_readLine 62 = .ok (.aload_n 0, 1) := by decide +kernel
theorem dX4_readLine_63 : decode cX4_readLine 63 = .ok (.invokevirtual 82, 3) := by decide +kernel
theorem dX4_readLine_66 : decode cX4_readLine 66 = .ok (.goto 35, 3) := by decide +kernel
theorem dX4_readLine_69 : decode cX4_readLine 69 = .ok (.aload_n 0, 1) := by decide +kernel
theorem dX4_readLine_70 : decode cX4_readLine 70 = .ok (.invokevirtual 85, 3) := by decide +kernel
theorem dX4_readLine_73 : decode cX4_readLine 73 = .ok (.goto 28, 3) := by decide +kernel
theorem dX4_readLine_76 : decode cX4_readLine 76 = .ok (.aload_n 0, 1) := by decide +kernel
theorem dX4_readLine_77 : decode cX4_readLine 77 = .ok (.invokevirtual 88, 3) := by decide +kernel
theorem dX4_readLine_80 : decode cX4_readLine 80 = .ok (.goto 21, 3) := by decide +kernel
theorem dX4_readLine_83 : decode cX4_readLine 83 = .ok (.aload_n 0, 1) := by decide +kernel
theorem dX4_readLine_84 : decode cX4_readLine 84 = .ok (.invokevirtual 91, 3) := by decide +kernel
theorem dX4_readLine_87 : decode cX4_readLine 87 = .ok (.goto 14, 3) := by decide +kernel
theorem dX4_readLine_90 : decode cX4_readLine 90 = .ok (.aload_n 0, 1) := by decide +kernel
theorem dX4_readLine_91 : decode cX4_readLine 91 = .ok (.invokevirtual 94, 3) := by decide +kernel
theorem dX4_readLine_94 : decode cX4_readLine 94 = .ok (.goto 7, 3) := by decide +kernel
theorem dX4_readLine_97 : decode cX4_readLine 97 = .ok (.aload_n 0, 1) := by decide +kernel
theorem dX4_readLine_98 : decode cX4_readLine 98 = .ok (.invokevirtual 97, 3) := by decide +kernel
theorem dX4_readLine_101 : decode cX4_readLine 101 = .ok (.return_, 1) := by decide +kernel
theorem dX4_readPut_0 : decode cX4_readPut 0 = .ok (.aload_n 0, 1) := by decide +kernel
theorem dX4_readPut_1 : decode cX4_readPut 1 = .ok (.bipush 10, 2) := by decide +kernel
theorem dX4_readPut_3 : decode cX4_readPut 3 = .ok (.invokevirtual 100, 3) := by decide +kernel
theorem dX4_readPut_6 : decode cX4_readPut 6 = .ok (.istore_n 1, 1) := by decide +kernel
theorem dX4_readPut_7 : decode cX4_readPut 7 = .ok (.aload_n 0, 1) := by decide +kernel
theorem dX4_readPut_8 : decode cX4_readPut 8 = .ok (.invokevirtual 72, 3) := by decide +kernel
theorem dX4_readPut_11 : decode cX4_readPut 11 = .ok (.istore_n 2, 1) := by decide +kernel
theorem dX4_readPut_12 : decode cX4_readPut 12 = .ok (.iload_n 2, 1) := by decide +kernel
theorem dX4_readPut_13 : decode cX4_readPut 13 = .ok (.iconst 1, 1) := by decide +kernel
theorem dX4_readPut_14 : decode cX4_readPut 14 = .ok (.if_icmp .lt 9, 3) := by decide +kernel
theorem dX4_readPut_17 : decode cX4_readPut 17 = .ok (.iload_n 2, 1) := by decide +kernel
theorem dX4_readPut_18 : decode cX4_readPut 18 = .ok (.bipush 9, 2) := by decide +kernel
theorem dX4_readPut_20 : decode cX4_readPut 20 = .ok (.if_icmp .le 8, 3) := by decide +kernel
theorem dX4_readPut_23 : decode cX4_readPut 23 = .ok (.aload_n 0, 1) := by decide +kernel
theorem dX4_readPut_24 : decode cX4_readPut 24 = .ok (.iconst 1, 1) := by decide +kernel
theorem dX4_readPut_25 : decode cX4_readPut 25 = .ok (.invokevirtual 104, 3) := by decide +kernel
theorem dX4_readPut_28 : decode cX4_readPut 28 = .ok (.aload_n 0, 1) := by decide +kernel
theorem dX4_readPut_29 : decode cX4_readPut 29 = .ok (.invokevirtual 108, 3) := by decide +kernel
theorem dX4_readPut_32 : decode cX4_readPut 32 = .ok (.iconst 0, 1) := by decide +kernel
theorem dX4_readPut_33 : decode cX4_readPut 33 = .ok (.istore_n 3, 1) := by decide +kernel
theorem dX4_readPut_34 : decode cX4_readPut 34 = .ok (.iload_n 2, 1) := by decide +kernel
theorem dX4_readPut_35 : decode cX4_readPut 35 = .ok (.iconst 4, 1) := by decide +kernel
theorem dX4_readPut_36 : decode cX4_readPut 36 = .ok (.if_icmp .eq 9, 3) := by decide +kernel
theorem dX4_readPut_39 : decode cX4_readPut 39 = .ok (.iload_n 2, 1) := by decide +kernel
theorem dX4_readPut_40 : decode cX4_readPut 40 = .ok (.bipush 9, 2) := by decide +kernel
theorem dX4_readPut_42 : decode cX4_readPut 42 = .ok (.if_icmp .ne 13, 3) := by decide +kernel
theorem dX4_readPut_45 : decode cX4_readPut 45 = .ok (.aload_n 0, 1) := by decide +kernel
theorem dX4_readPut_46 : decode cX4_readPut 46 = .ok (.iconst 0, 1) := by decide +kernel
theorem dX4_readPut_47 : decode cX4_readPut 47 = .ok (.iconst 1, 1) := by decide +kernel
theorem dX4_readPut_48 : decode cX4_readPut 48 = .ok (.invokevirtual 111, 3) := by decide +kernel
theorem dX4_readPut_51 : decode cX4_readPut 51 = .ok (.istore_n 3, 1) := by decide +kernel
theorem dX4_readPut_52 : decode cX4_readPut 52 = .ok (.goto 33, 3) := by decide +kernel
theorem dX4_readPut_55 : decode cX4_readPut 55 = .ok (.iload_n 2, 1) := by decide +kernel
theorem dX4_readPut_56 : decode cX4_readPut 56 = .ok (.bipush 6, 2) := by decide +kernel
theorem dX4_readPut_58 : decode cX4_readPut 58 = .ok (.if_icmp .ne 13, 3) := by decide +kernel
theorem dX4_readPut_61 : decode cX4_readPut 61 = .ok (.aload_n 0, 1) := by decide +kernel
theorem dX4_readPut_62 : decode cX4_readPut 62 = .ok (.iconst 0, 1) := by decide +kernel
theorem dX4_readPut_63 : decode cX4_readPut 63 = .ok (.iconst 3, 1) := by decide +kernel
theorem dX4_readPut_64 : decode cX4_readPut 64 = .ok (.invokevirtual 111, 3) := by decide +kernel
theorem dX4_readPut_67 : decode cX4_readPut 67 = .ok (.istore_n 3, 1) := by decide +kernel
theorem dX4_readPut_68 : decode cX4_readPut 68 = .ok (.goto 17, 3) := by decide +kernel
theorem dX4_readPut_71 : decode cX4_readPut 71 = .ok (.iload_n 2, 1) := by decide +kernel
theorem dX4_readPut_72 : decode cX4_readPut 72 = .ok (.bipush 7, 2) := by decide +kernel
theorem dX4_readPut_74 : decode cX4_readPut 74 = .ok (.if_icmp .ne 11, 3) := by decide +kernel
theorem dX4_readPut_77 : decode cX4_readPut 77 = .ok (.aload_n 0, 1) := by decide +kernel
theorem dX4_readPut_78 : decode cX4_readPut 78 = .ok (.iconst 2, 1) := by decide +kernel
theorem dX4_readPut_79 : decode cX4_readPut 79 = .ok (.bipush 9, 2) := by decide +kernel
theorem dX4_readPut_81 : decode cX4_readPut 81 = .ok (.invokevirtual 111, 3) := by decide +kernel
theorem dX4_readPut_84 : decode cX4_readPut 84 = .ok (.istore_n 3, 1) := by decide +kernel
theorem dX4_readPut_85 : decode cX4_readPut 85 = .ok (.aload_n 0, 1) := by decide +kernel
theorem dX4_readPut_86 : decode cX4_readPut 86 = .ok (.iconst 0, 1) := by decide +kernel
theorem dX4_readPut_87 : decode cX4_readPut 87 = .ok (.bipush 12, 2) := by decide +kernel
theorem dX4_readPut_89 : decode cX4_readPut 89 = .ok (.invokevirtual 111, 3) := by decide +kernel
theorem dX4_readPut_92 : decode cX4_readPut 92 = .ok (.istore 4, 2) := by decide +kernel
theorem dX4_readPut_94 : decode cX4_readPut 94 = .ok (.aload_n 0, 1) := by decide +kernel
theorem dX4_readPut_95 : decode cX4_readPut 95 = .ok (.iconst 0, 1) := by decide +kernel
theorem dX4_readPut_96 : decode cX4_readPut 96 = .ok (.bipush 11, 2) := by decide +kernel
theorem dX4_readPut_98 : decode cX4_readPut 98 = .ok (.invokevirtual 111, 3) := by decide +kernel
theorem dX4_readPut_101 : decode cX4_readPut 101 = .ok (.istore 5, 2) := by decide +kernel
theorem dX4_readPut_103 : decode cX4_readPut 103 = .ok (.aload_n 0, 1) := by decide +kernel
theorem dX4_readPut_104 : decode cX4_readPut 104 = .ok (.bipush 59, 2) := by decide +kernel
theorem dX4_readPut_106 : decode cX4_readPut 106 = .ok (.invokevirtual 115, 3) := by decide +kernel
theorem dX4_readPut_109 : decode cX4_readPut 109 = .ok (.aload_n 0, 1) := by decide +kernel
theorem dX4_readPut_110 : decode cX4_readPut 110 = .ok (.iload_n 1, 1) := by decide +kernel
theorem dX4_readPut_111 : decode cX4_readPut 111 = .ok (.iload_n 2, 1) := by decide +kernel
theorem dX4_readPut_112 : decode cX4_readPut 112 = .ok (.iload_n 3, 1) := by decide +kernel
theorem dX4_readPut_113 : decode cX4_readPut 113 = .ok (.iload 4, 2) := by decide +kernel
theorem dX4_readPut_115 : decode cX4_readPut 115 = .ok (.iload 5, 2) := by decide +kernel
theorem dX4_readPut_117 : decode cX4_readPut 117 = .ok (.invokevirtual 118, 3) := by decide +kernel
theorem dX4_readPut_120 : decode cX4_readPut 120 = .ok (.return_, 1) := by decide +kernel
theorem dX4_readAgain_0 : decode cX4_readAgain 0 = .ok (.aload_n 0, 1) := by decide +kernel
theorem dX4_readAgain_1 : decode cX4_readAgain 1 = .ok (.invokevirtual 122, 3) := by decide +kernel
theorem dX4_readAgain_4 : decode cX4_readAgain 4 = .ok (.aload_n 0, 1) := by decide +kernel
theorem dX4_readAgain_5 : decode cX4_readAgain 5 = .ok (.bipush 11, 2) := by decide +kernel
theorem dX4_readAgain_7 : decode cX4_readAgain 7 = .ok (.invokevirtual 100, 3) := by decide +kernel
theorem dX4_readAgain_10 : decode cX4_readAgain 10 = .ok (.istore_n 1, 1) := by decide +kernel
theorem dX4_readAgain_11 : decode cX4_readAgain 11 = .ok (.aload_n 0, 1) := by decide +kernel
theorem dX4_readAgain_12 : decode cX4_readAgain 12 = .ok (.iconst 1, 1) := by decide +kernel
theorem dX4_readAgain_13 : decode cX4_readAgain 13 = .ok (.bipush 12, 2) := by decide +kernel
theorem dX4_readAgain_15 : decode cX4_readAgain 15 = .ok (.invokevirtual 111, 3) := by decide +kernel
theorem dX4_readAgain_18 : decode cX4_readAgain 18 = .ok (.istore_n 2, 1) := by decide +kernel
theorem dX4_readAgain_19 : decode cX4_readAgain 19 = .ok (.aload_n 0, 1) := by decide +kernel
theorem dX4_readAgain_20 : decode cX4_readAgain 20 = .ok (.bipush 17, 2) := by decide +kernel
theorem dX4_readAgain_22 : decode cX4_readAgain 22 = .ok (.invokevirtual 115, 3) := by decide +kernel
theorem dX4_readAgain_25 : decode cX4_readAgain 25 = .ok (.aload_n 0, 1) := by decide +kernel
theorem dX4_readAgain_26 : decode cX4_readAgain 26 = .ok (.invokevirtual 125, 3) := by decide +kernel
theorem dX4_readAgain_29 : decode cX4_readAgain 29 = .ok (.istore_n 3, 1) := by decide +kernel
theorem dX4_readAgain_30 : decode cX4_readAgain 30 = .ok (.aload_n 0, 1) := by decide +kernel
theorem dX4_readAgain_31 : decode cX4_readAgain 31 = .ok (.invokevirtual 125, 3) := by decide +kernel
theorem dX4_readAgain_34 : decode cX4_readAgain 34 = .ok (.istore 4, 2) := by decide +kernel
theorem dX4_readAgain_36 : decode cX4_readAgain 36 = .ok (.aload_n 0, 1) := by decide +kernel
theorem dX4_readAgain_37 : decode cX4_readAgain 37 = .ok (.iload_n 1, 1) := by decide +kernel
theorem dX4_readAgain_38 : decode cX4_readAgain 38 = .ok (.iload_n 2, 1) := by decide +kernel
theorem dX4_readAgain_39 : decode cX4_readAgain 39 = .ok (.iload_n 3, 1) := by decide +kernel
theorem dX4_readAgain_40 : decode cX4_readAgain 40 = .ok (.iload 4, 2) := by decide +kernel
theorem dX4_readAgain_42 : decode cX4_readAgain 42 = .ok (.iconst 0, 1) := by decide +kernel
theorem dX4_readAgain_43 : decode cX4_readAgain 43 = .ok (.invokevirtual 118, 3) := by decide +kernel
theorem dX4_readAgain_46 : decode cX4_readAgain 46 = .ok (.aload_n 0, 1) := by decide +kernel
theorem dX4_readAgain_47 : decode cX4_readAgain 47 = .ok (.iload_n 1, 1) := by decide +kernel
theorem dX4_readAgain_48 : decode cX4_readAgain 48 = .ok (.invokevirtual 128, 3) := by decide +kernel
theorem dX4_readAgain_51 : decode cX4_readAgain 51 = .ok (.return_, 1) := by decide +kernel
theorem dX4_readMirror_0 : decode cX4_readMirror 0 = .ok (.aload_n 0, 1) := by decide +kernel
theorem dX4_readMirror_1 : decode cX4_readMirror 1 = .ok (.invokevirtual 122, 3) := by decide +kernel
theorem dX4_readMirror_4 : decode cX4_readMirror 4 = .ok (.aload_n 0, 1) := by decide +kernel
theorem dX4_readMirror_5 : decode cX4_readMirror 5 = .ok (.bipush 12, 2) := by decide +kernel
theorem dX4_readMirror_7 : decode cX4_readMirror 7 = .ok (.invokevirtual 100, 3) := by decide +kernel
theorem dX4_readMirror_10 : decode cX4_readMirror 10 = .ok (.istore_n 1, 1) := by decide +kernel
theorem dX4_readMirror_11 : decode cX4_readMirror 11 = .ok (.aload_n 0, 1) := by decide +kernel
theorem dX4_readMirror_12 : decode cX4_readMirror 12 = .ok (.iconst 0, 1) := by decide +kernel
theorem dX4_readMirror_13 : decode cX4_readMirror 13 = .ok (.bipush 12, 2) := by decide +kernel
theorem dX4_readMirror_15 : decode cX4_readMirror 15 = .ok (.invokevirtual 111, 3) := by decide +kernel
theorem dX4_readMirror_18 : decode cX4_readMirror 18 = .ok (.istore_n 2, 1) := by decide +kernel
theorem dX4_readMirror_19 : decode cX4_readMirror 19 = .ok (.aload_n 0, 1) := by decide +kernel
theorem dX4_readMirror_20 : decode cX4_readMirror 20 = .ok (.iload_n 1, 1) := by decide +kernel
theorem dX4_readMirror_21 : decode cX4_readMirror 21 = .ok (.iload_n 2, 1) := by decide +kernel
theorem dX4_readMirror_22 : decode cX4_readMirror 22 = .ok (.iconst 0, 1) := by decide +kernel
theorem dX4_readMirror_23 : decode cX4_readMirror 23 = .ok (.iconst 0, 1) := by decide +kernel
theorem dX4_readMirror_24 : decode cX4_readMirror 24 = .ok (.iconst 0, 1) := by decide +kernel
theorem dX4_readMirror_25 : decode cX4_readMirror 25 = .ok (.invokevirtual 118, 3) := by decide +kernel
theorem dX4_readMirror_28 : decode cX4_readMirror 28 = .ok (.aload_n 0, 1) := by decide +kernel
theorem dX4_readMirror_29 : decode cX4_readMirror 29 = .ok (.iload_n 1, 1) := by decide +kernel
theorem dX4_readMirror_30 : decode cX4_readMirror 30 = .ok (.invokevirtual 128, 3) := by decide +kernel
theorem dX4_readMirror_33 : decode cX4_readMirror 33 = .ok (.return_, 1) := by decide +kernel
theorem dX4_readLet_0 : decode cX4_readLet 0 = .ok (.aload_n 0, 1) := by decide +kernel
theorem dX4_readLet_1 : decode cX4_readLet 1 = .ok (.invokevirtual 131, 3) := by decide +kernel
theorem dX4_readLet_4 : decode cX4_readLet 4 = .ok (.aload_n 0, 1) := by decide +kernel
theorem dX4_readLet_5 : decode cX4_readLet 5 = .ok (.getfield 51, 3) := by decide +kernel
theorem dX4_readLet_8 : decode cX4_readLet 8 = .ok (.bipush 30, 2) := by decide +kernel
theorem dX4_readLet_10 : decode cX4_readLet 10 = .ok (.if_icmp .lt 8, 3) := by decide +kernel
theorem dX4_readLet_13 : decode cX4_readLet 13 = .ok (.aload_n 0, 1) := by decide +kernel
theorem dX4_readLet_14 : decode cX4_readLet 14 = .ok (.iconst 5, 1) := by decide +kernel
theorem dX4_readLet_15 : decode cX4_readLet 15 = .ok (.invokevirtual 104, 3) := by decide +kernel
theorem dX4_readLet_18 : decode cX4_readLet 18 = .ok (.aload_n 0, 1) := by decide +kernel
theorem dX4_readLet_19 : decode cX4_readLet 19 = .ok (.bipush 13, 2) := by decide +kernel
theorem dX4_readLet_21 : decode cX4_readLet 21 = .ok (.invokevirtual 100, 3) := by decide +kernel
theorem dX4_readLet_24 : decode cX4_readLet 24 = .ok (.istore_n 1, 1) := by decide +kernel
theorem dX4_readLet_25 : decode cX4_readLet 25 = .ok (.aload_n 0, 1) := by decide +kernel
theorem dX4_readLet_26 : decode cX4_readLet 26 = .ok (.invokevirtual 134, 3) := by decide +kernel
theorem dX4_readLet_29 : decode cX4_readLet 29 = .ok (.aload_n 0, 1) := by decide +kernel
theorem dX4_readLet_30 : decode cX4_readLet 30 = .ok (.invokevirtual 137, 3) := by decide +kernel
theorem dX4_readLet_33 : decode cX4_readLet 33 = .ok (.iconst (-1), 1) := by decide +kernel
theorem dX4_readLet_34 : decode cX4_readLet 34 = .ok (.if_icmp .eq 8, 3) := by decide +kernel
theorem dX4_readLet_37 : decode cX4_readLet 37 = .ok (.aload_n 0, 1) := by decide +kernel
theorem dX4_readLet_38 : decode cX4_readLet 38 = .ok (.iconst 3, 1) := by decide +kernel
theorem dX4_readLet_39 : decode cX4_readLet 39 = .ok (.invokevirtual 104, 3) := by decide +kernel
theorem dX4_readLet_42 : decode cX4_readLet 42 = .ok (.aload_n 0, 1) := by decide +kernel
theorem dX4_readLet_43 : decode cX4_readLet 43 = .ok (.getfield 57, 3) := by decide +kernel
theorem dX4_readLet_46 : decode cX4_readLet 46 = .ok (.ifCond .ne 34, 3) := by decide +kernel
theorem dX4_readLet_49 : decode cX4_readLet 49 = .ok (.aload_n 0, 1) := by decide +kernel
theorem dX4_readLet_50 : decode cX4_readLet 50 = .ok (.getfield 30, 3) := by decide +kernel
theorem dX4_readLet_53 : decode cX4_readLet 53 = .ok (.aload_n 0, 1) := by decide +kernel
theorem dX4_readLet_54 : decode cX4_readLet 54 = .ok (.getfield 51, 3) := by decide +kernel
theorem dX4_readLet_57 : decode cX4_readLet 57 = .ok (.aload_n 0, 1) := by decide +kernel
theorem dX4_readLet_58 : decode cX4_readLet 58 = .ok (.getfield 40, 3) := by decide +kernel
theorem dX4_readLet_61 : decode cX4_readLet 61 = .ok (.getfield 140, 3) := by decide +kernel
theorem dX4_readLet_64 : decode cX4_readLet 64 = .ok (.aload_n 0, 1) := by decide +kernel
theorem dX4_readLet_65 : decode cX4_readLet 65 = .ok (.getfield 44, 3) := by decide +kernel
theorem dX4_readLet_68 : decode cX4_readLet 68 = .ok (.laload, 1) := by decide +kernel
theorem dX4_readLet_69 : decode cX4_readLet 69 = .ok (.lastore, 1) := by decide +kernel
theorem dX4_readLet_70 : decode cX4_readLet 70 = .ok (.aload_n 0, 1) := by decide +kernel
theorem dX4_readLet_71 : decode cX4_readLet 71 = .ok (.getfield 34, 3) := by decide +kernel
theorem dX4_readLet_74 : decode cX4_readLet 74 = .ok (.aload_n 0, 1) := by decide +kernel
theorem dX4_readLet_75 : decode cX4_readLet 75 = .ok (.getfield 51, 3) := by decide +kernel
theorem dX4_readLet_78 : decode cX4_readLet 78 = .ok (.iload_n 1, 1) := by decide +kernel
theorem dX4_readLet_79 : decode cX4_readLet 79 = .ok (.iastore, 1) := by decide +kernel
theorem dX4_readLet_80 : decode cX4_readLet 80 = .ok (.aload_n 0, 1) := by decide +kernel
theorem dX4_readLet_81 : decode cX4_readLet 81 = .ok (.invokevirtual 108, 3) := by decide +kernel
theorem dX4_readLet_84 : decode cX4_readLet 84 = .ok (.aload_n 0, 1) := by decide +kernel
theorem dX4_readLet_85 : decode cX4_readLet 85 = .ok (.iload_n 1, 1) := by decide +kernel
theorem dX4_readLet_86 : decode cX4_readLet 86 = .ok (.invokevirtual 128, 3) := by decide +kernel
theorem dX4_readLet_89 : decode cX4_readLet 89 = .ok (.return_, 1) := by decide +kernel
theorem dX4_readUse_0 : decode cX4_readUse 0 = .ok (.aload_n 0, 1) := by decide +kernel
theorem dX4_readUse_1 : decode cX4_readUse 1 = .ok (.bipush 14, 2) := by decide +kernel
theorem dX4_readUse_3 : decode cX4_readUse 3 = .ok (.invokevirtual 100, 3) := by decide +kernel
theorem dX4_readUse_6 : decode cX4_readUse 6 = .ok (.istore_n 1, 1) := by decide +kernel
theorem dX4_readUse_7 : decode cX4_readUse 7 = .ok (.aload_n 0, 1) := by decide +kernel
theorem dX4_readUse_8 : decode cX4_readUse 8 = .ok (.invokevirtual 134, 3) := by decide +kernel
theorem dX4_readUse_11 : decode cX4_readUse 11 = .ok (.aload_n 0, 1) := by decide +kernel
theorem dX4_readUse_12 : decode cX4_readUse 12 = .ok (.invokevirtual 137, 3) := by decide +kernel
theorem dX4_readUse_15 : decode cX4_readUse 15 = .ok (.istore_n 2, 1) := by decide +kernel
theorem dX4_readUse_16 : decode cX4_readUse 16 = .ok (.iload_n 2, 1) := by decide +kernel
theorem dX4_readUse_17 : decode cX4_readUse 17 = .ok (.iconst (-1), 1) := by decide +kernel
theorem dX4_readUse_18 : decode cX4_readUse 18 = .ok (.if_icmp .ne 8, 3) := by decide +kernel
theorem dX4_readUse_21 : decode cX4_readUse 21 = .ok (.aload_n 0, 1) := by decide +kernel
theorem dX4_readUse_22 : decode cX4_readUse 22 = .ok (.iconst 2, 1) := by decide +kernel
theorem dX4_readUse_23 : decode cX4_readUse 23 = .ok (.invokevirtual 104, 3) := by decide +kernel
theorem dX4_readUse_26 : decode cX4_readUse 26 = .ok (.aload_n 0, 1) := by decide +kernel
theorem dX4_readUse_27 : decode cX4_readUse 27 = .ok (.invokevirtual 108, 3) := by decide +kernel
theorem dX4_readUse_30 : decode cX4_readUse 30 = .ok (.aload_n 0, 1) := by decide +kernel
theorem dX4_readUse_31 : decode cX4_readUse 31 = .ok (.bipush 17, 2) := by decide +kernel
theorem dX4_readUse_33 : decode cX4_readUse 33 = .ok (.invokevirtual 115, 3) := by decide +kernel
theorem dX4_readUse_36 : decode cX4_readUse 36 = .ok (.aload_n 0, 1) := by decide +kernel
theorem dX4_readUse_37 : decode cX4_readUse 37 = .ok (.invokevirtual 125, 3) := by decide +kernel
theorem dX4_readUse_40 : decode cX4_readUse 40 = .ok (.istore_n 3, 1) := by decide +kernel
theorem dX4_readUse_41 : decode cX4_readUse 41 = .ok (.aload_n 0, 1) := by decide +kernel
theorem dX4_readUse_42 : decode cX4_readUse 42 = .ok (.invokevirtual 125, 3) := by decide +kernel
theorem dX4_readUse_45 : decode cX4_readUse 45 = .ok (.istore 4, 2) := by decide +kernel
theorem dX4_readUse_47 : decode cX4_readUse 47 = .ok (.aload_n 0, 1) := by decide +kernel
theorem dX4_readUse_48 : decode cX4_readUse 48 = .ok (.bipush 59, 2) := by decide +kernel
theorem dX4_readUse_50 : decode cX4_readUse 50 = .ok (.invokevirtual 115, 3) := by decide +kernel
theorem dX4_readUse_53 : decode cX4_readUse 53 = .ok (.aload_n 0, 1) := by decide +kernel
theorem dX4_readUse_54 : decode cX4_readUse 54 = .ok (.getfield 57, 3) := by decide +kernel
theorem dX4_readUse_57 : decode cX4_readUse 57 = .ok (.ifCond .ne 18, 3) := by decide +kernel
theorem dX4_readUse_60 : decode cX4_readUse 60 = .ok (.aload_n 0, 1) := by decide +kernel
theorem dX4_readUse_61 : decode cX4_readUse 61 = .ok (.iload_n 1, 1) := by decide +kernel
theorem dX4_readUse_62 : decode cX4_readUse 62 = .ok (.aload_n 0, 1) := by decide +kernel
theorem dX4_readUse_63 : decode cX4_readUse 63 = .ok (.getfield 34, 3) := by decide +kernel
theorem dX4_readUse_66 : decode cX4_readUse 66 = .ok (.iload_n 2, 1) := by decide +kernel
theorem dX4_readUse_67 : decode cX4_readUse 67 = .ok (.iaload, 1) := by decide +kernel
theorem dX4_readUse_68 : decode cX4_readUse 68 = .ok (.iload_n 3, 1) := by decide +kernel
theorem dX4_readUse_69 : decode cX4_readUse 69 = .ok (.iload 4, 2) := by decide +kernel
theorem dX4_readUse_71 : decode cX4_readUse 71 = .ok (.iconst 0, 1) := by decide +kernel
theorem dX4_readUse_72 : decode cX4_readUse 72 = .ok (.invokevirtual 118, 3) := by decide +kernel
theorem dX4_readUse_75 : decode cX4_readUse 75 = .ok (.return_, 1) := by decide +kernel
theorem dX4_readLane_0 : decode cX4_readLane 0 = .ok (.aload_n 0, 1) := by decide +kernel
theorem dX4_readLane_1 : decode cX4_readLane 1 = .ok (.invokevirtual 131, 3) := by decide +kernel
theorem dX4_readLane_4 : decode cX4_readLane 4 = .ok (.aload_n 0, 1) := by decide +kernel
theorem dX4_readLane_5 : decode cX4_readLane 5 = .ok (.bipush 15, 2) := by decide +kernel
theorem dX4_readLane_7 : decode cX4_readLane 7 = .ok (.invokevirtual 100, 3) := by decide +kernel
theorem dX4_readLane_10 : decode cX4_readLane 10 = .ok (.istore_n 1, 1) := by decide +kernel
theorem dX4_readLane_11 : decode cX4_readLane 11 = .ok (.aload_n 0, 1) := by decide +kernel
theorem dX4_readLane_12 : decode cX4_readLane 12 = .ok (.iconst 0, 1) := by decide +kernel
theorem dX4_readLane_13 : decode cX4_readLane 13 = .ok (.bipush 12, 2) := by decide +kernel
theorem dX4_readLane_15 : decode cX4_readLane 15 = .ok (.invokevirtual 111, 3) := by decide +kernel
theorem dX4_readLane_18 : decode cX4_readLane 18 = .ok (.istore_n 2, 1) := by decide +kernel
theorem dX4_readLane_19 : decode cX4_readLane 19 = .ok (.aload_n 0, 1) := by decide +kernel
theorem dX4_readLane_20 : decode cX4_readLane 20 = .ok (.iconst 0, 1) := by decide +kernel
theorem dX4_readLane_21 : decode cX4_readLane 21 = .ok (.iconst 4, 1) := by decide +kernel
theorem dX4_readLane_22 : decode cX4_readLane 22 = .ok (.invokevirtual 111, 3) := by decide +kernel
theorem dX4_readLane_25 : decode cX4_readLane 25 = .ok (.istore_n 3, 1) := by decide +kernel
theorem dX4_readLane_26 : decode cX4_readLane 26 = .ok (.aload_n 0, 1) := by decide +kernel
theorem dX4_readLane_27 : decode cX4_readLane 27 = .ok (.bipush 59, 2) := by decide +kernel
theorem dX4_readLane_29 : decode cX4_readLane 29 = .ok (.invokevirtual 115, 3) := by decide +kernel
theorem dX4_readLane_32 : decode cX4_readLane 32 = .ok (.aload_n 0, 1) := by decide +kernel
theorem dX4_readLane_33 : decode cX4_readLane 33 = .ok (.iload_n 1, 1) := by decide +kernel
theorem dX4_readLane_34 : decode cX4_readLane 34 = .ok (.iload_n 2, 1) := by decide +kernel
theorem dX4_readLane_35 : decode cX4_readLane 35 = .ok (.iload_n 3, 1) := by decide +kernel
theorem dX4_readLane_36 : decode cX4_readLane 36 = .ok (.iconst 4, 1) := by decide +kernel
theorem dX4_readLane_37 : decode cX4_readLane 37 = .ok (.if_icmp .ne 7, 3) := by decide +kernel
theorem dX4_readLane_40 : decode cX4_readLane 40 = .ok (.iconst (-1), 1) := by decide +kernel
theorem dX4_readLane_41 : decode cX4_readLane 41 = .ok (.goto 4, 3) := by decide +kernel
theorem dX4_readLane_44 : decode cX4_readLane 44 = .ok (.iload_n 3, 1) := by decide +kernel
theorem dX4_readLane_45 : decode cX4_readLane 45 = .ok (.iconst 0, 1) := by decide +kernel
theorem dX4_readLane_46 : decode cX4_readLane 46 = .ok (.iconst 0, 1) := by decide +kernel
theorem dX4_readLane_47 : decode cX4_readLane 47 = .ok (.invokevirtual 118, 3) := by decide +kernel
theorem dX4_readLane_50 : decode cX4_readLane 50 = .ok (.return_, 1) := by decide +kernel
theorem dX4_readHopper_0 : decode cX4_readHopper 0 = .ok (.aload_n 0, 1) := by decide +kernel
theorem dX4_readHopper_1 : decode cX4_readHopper 1 = .ok (.invokevirtual 131, 3) := by decide +kernel
theorem dX4_readHopper_4 : decode cX4_readHopper 4 = .ok (.aload_n 0, 1) := by decide +kernel
theorem dX4_readHopper_5 : decode cX4_readHopper 5 = .ok (.bipush 16, 2) := by decide +kernel
theorem dX4_readHopper_7 : decode cX4_readHopper 7 = .ok (.invokevirtual 100, 3) := by decide +kernel
theorem dX4_readHopper_10 : decode cX4_readHopper 10 = .ok (.istore_n 1, 1) := by decide +kernel
theorem dX4_readHopper_11 : decode cX4_readHopper 11 = .ok (.aload_n 0, 1) := by decide +kernel
theorem dX4_readHopper_12 : decode cX4_readHopper 12 = .ok (.iconst 0, 1) := by decide +kernel
theorem dX4_readHopper_13 : decode cX4_readHopper 13 = .ok (.iconst 3, 1) := by decide +kernel
theorem dX4_readHopper_14 : decode cX4_readHopper 14 = .ok (.invokevirtual 111, 3) := by decide +kernel
theorem dX4_readHopper_17 : decode cX4_readHopper 17 = .ok (.istore_n 2, 1) := by decide +kernel
theorem dX4_readHopper_18 : decode cX4_readHopper 18 = .ok (.aload_n 0, 1) := by decide +kernel
theorem dX4_readHopper_19 : decode cX4_readHopper 19 = .ok (.iconst 0, 1) := by decide +kernel
theorem dX4_readHopper_20 : decode cX4_readHopper 20 = .ok (.bipush 12, 2) := by decide +kernel
theorem dX4_readHopper_22 : decode cX4_readHopper 22 = .ok (.invokevirtual 111, 3) := by decide +kernel
theorem dX4_readHopper_25 : decode cX4_readHopper 25 = .ok (.istore_n 3, 1) := by decide +kernel
theorem dX4_readHopper_26 : decode cX4_readHopper 26 = .ok (.aload_n 0, 1) := by decide +kernel
theorem dX4_readHopper_27 : decode cX4_readHopper 27 = .ok (.iconst 0, 1) := by decide +kernel
theorem dX4_readHopper_28 : decode cX4_readHopper 28 = .ok (.iconst 3, 1) := by decide +kernel
theorem dX4_readHopper_29 : decode cX4_readHopper 29 = .ok (.invokevirtual 111, 3) := by decide +kernel
theorem dX4_readHopper_32 : decode cX4_readHopper 32 = .ok (.istore 4, 2) := by decide +kernel
theorem dX4_readHopper_34 : decode cX4_readHopper 34 = .ok (.aload_n 0, 1) := by decide +kernel
theorem dX4_readHopper_35 : decode cX4_readHopper 35 = .ok (.iconst 0, 1) := by decide +kernel
theorem dX4_readHopper_36 : decode cX4_readHopper 36 = .ok (.sipush 999, 3) := by decide +kernel
theorem dX4_readHopper_39 : decode cX4_readHopper 39 = .ok (.invokevirtual 111, 3) := by decide +kernel
theorem dX4_readHopper_42 : decode cX4_readHopper 42 = .ok (.istore 5, 2) := by decide +kernel
theorem dX4_readHopper_44 : decode cX4_readHopper 44 = .ok (.aload_n 0, 1) := by decide +kernel
theorem dX4_readHopper_45 : decode cX4_readHopper 45 = .ok (.bipush 59, 2) := by decide +kernel
theorem dX4_readHopper_47 : decode cX4_readHopper 47 = .ok (.invokevirtual 115, 3) := by decide +kernel
theorem dX4_readHopper_50 : decode cX4_readHopper 50 = .ok (.aload_n 0, 1) := by decide +kernel
theorem dX4_readHopper_51 : decode cX4_readHopper 51 = .ok (.iload_n 1, 1) := by decide +kernel
theorem dX4_readHopper_52 : decode cX4_readHopper 52 = .ok (.iload_n 2, 1) := by decide +kernel
theorem dX4_readHopper_53 : decode cX4_readHopper 53 = .ok (.iload_n 3, 1) := by decide +kernel
theorem dX4_readHopper_54 : decode cX4_readHopper 54 = .ok (.iload 4, 2) := by decide +kernel
theorem dX4_readHopper_56 : decode cX4_readHopper 56 = .ok (.iload 5, 2) := by decide +kernel
theorem dX4_readHopper_58 : decode cX4_readHopper 58 = .ok (.invokevirtual 118, 3) := by decide +kernel
theorem dX4_readHopper_61 : decode cX4_readHopper 61 = .ok (.return_, 1) := by decide +kernel
theorem dX4_readOpen_0 : decode cX4_readOpen 0 = .ok (.aload_n 0, 1) := by decide +kernel
theorem dX4_readOpen_1 : decode cX4_readOpen 1 = .ok (.bipush 40, 2) := by decide +kernel
theorem dX4_readOpen_3 : decode cX4_readOpen 3 = .ok (.invokevirtual 115, 3) := by decide +kernel
theorem dX4_readOpen_6 : decode cX4_readOpen 6 = .ok (.aload_n 0, 1) := by decide +kernel
theorem dX4_readOpen_7 : decode cX4_readOpen 7 = .ok (.getfield 57, 3) := by decide +kernel
theorem dX4_readOpen_10 : decode cX4_readOpen 10 = .ok (.ifCond .ne 35, 3) := by decide +kernel
theorem dX4_readOpen_13 : decode cX4_readOpen 13 = .ok (.aload_n 0, 1) := by decide +kernel
theorem dX4_readOpen_14 : decode cX4_readOpen 14 = .ok (.getfield 54, 3) := by decide +kernel
theorem dX4_readOpen_17 : decode cX4_readOpen 17 = .ok (.aload_n 0, 1) := by decide +kernel
theorem dX4_readOpen_18 : decode cX4_readOpen 18 = .ok (.getfield 37, 3) := by decide +kernel
theorem dX4_readOpen_21 : decode cX4_readOpen 21 = .ok (.arraylength, 1) := by decide +kernel
theorem dX4_readOpen_22 : decode cX4_readOpen 22 = .ok (.if_icmp .ge 23, 3) := by decide +kernel
theorem dX4_readOpen_25 : decode cX4_readOpen 25 = .ok (.aload_n 0, 1) := by decide +kernel
theorem dX4_readOpen_26 : decode cX4_readOpen 26 = .ok (.getfield 37, 3) := by decide +kernel
theorem dX4_readOpen_29 : decode cX4_readOpen 29 = .ok (.aload_n 0, 1) := by decide +kernel
theorem dX4_readOpen_30 : decode cX4_readOpen 30 = .ok (.getfield 54, 3) := by decide +kernel
theorem dX4_readOpen_33 : decode cX4_readOpen 33 = .ok (.iload_n 1, 1) := by decide +kernel
theorem dX4_readOpen_34 : decode cX4_readOpen 34 = .ok (.iastore, 1) := by decide +kernel
theorem dX4_readOpen_35 : decode cX4_readOpen 35 = .ok (.aload_n 0, 1) := by decide +kernel
theorem dX4_readOpen_36 : decode cX4_readOpen 36 = .ok (.dup, 1) := by decide +kernel
theorem dX4_readOpen_37 : decode cX4_readOpen 37 = .ok (.getfield 54, 3) := by decide +kernel
theorem dX4_readOpen_40 : decode cX4_readOpen 40 = .ok (.iconst 1, 1) := by decide +kernel
theorem dX4_readOpen_41 : decode cX4_readOpen 41 = .ok (.iadd, 1) := by decide +kernel
theorem dX4_readOpen_42 : decode cX4_readOpen 42 = .ok (.putfield 54, 3) := by decide +kernel
theorem dX4_readOpen_45 : decode cX4_readOpen 45 = .ok (.return_, 1) := by decide +kernel
theorem dX4_readClose_0 : decode cX4_readClose 0 = .ok (.aload_n 0, 1) := by decide +kernel
theorem dX4_readClose_1 : decode cX4_readClose 1 = .ok (.getfield 54, 3) := by decide +kernel
theorem dX4_readClose_4 : decode cX4_readClose 4 = .ok (.ifCond .ne 8, 3) := by decide +kernel
theorem dX4_readClose_7 : decode cX4_readClose 7 = .ok (.aload_n 0, 1) := by decide +kernel
theorem dX4_readClose_8 : decode cX4_readClose 8 = .ok (.iconst 1, 1) := by decide +kernel
theorem dX4_readClose_9 : decode cX4_readClose 9 = .ok (.invokevirtual 104, 3) := by decide +kernel
theorem dX4_readClose_12 : decode cX4_readClose 12 = .ok (.aload_n 0, 1) := by decide +kernel
theorem dX4_readClose_13 : decode cX4_readClose 13 = .ok (.bipush 41, 2) := by decide +kernel
theorem dX4_readClose_15 : decode cX4_readClose 15 = .ok (.invokevirtual 115, 3) := by decide +kernel
theorem dX4_readClose_18 : decode cX4_readClose 18 = .ok (.aload_n 0, 1) := by decide +kernel
theorem dX4_readClose_19 : decode cX4_readClose 19 = .ok (.bipush 59, 2) := by decide +kernel
theorem dX4_readClose_21 : decode cX4_readClose 21 = .ok (.invokevirtual 115, 3) := by decide +kernel
theorem dX4_readClose_24 : decode cX4_readClose 24 = .ok (.aload_n 0, 1) := by decide +kernel
theorem dX4_readClose_25 : decode cX4_readClose 25 = .ok (.getfield 57, 3) := by decide +kernel
theorem dX4_readClose_28 : decode cX4_readClose 28 = .ok (.ifCond .ne 54, 3) := by decide +kernel
theorem dX4_readClose_31 : decode cX4_readClose 31 = .ok (.aload_n 0, 1) := by decide +kernel
theorem dX4_readClose_32 : decode cX4_readClose 32 = .ok (.dup, 1) := by decide +kernel
theorem dX4_readClose_33 : decode cX4_readClose 33 = .ok (.getfield 54, 3) := by decide +kernel
theorem dX4_readClose_36 : decode cX4_readClose 36 = .ok (.iconst 1, 1) := by decide +kernel
theorem dX4_readClose_37 : decode cX4_readClose 37 = .ok (.isub, 1) := by decide +kernel
theorem dX4_readClose_38 : decode cX4_readClose 38 = .ok (.putfield 54, 3) := by decide +kernel
theorem dX4_readClose_41 : decode cX4_readClose 41 = .ok (.aload_n 0, 1) := by decide +kernel
theorem dX4_readClose_42 : decode cX4_readClose 42 = .ok (.getfield 37, 3) := by decide +kernel
theorem dX4_readClose_45 : decode cX4_readClose 45 = .ok (.aload_n 0, 1) := by decide +kernel
theorem dX4_readClose_46 : decode cX4_readClose 46 = .ok (.getfield 54, 3) := by decide +kernel
theorem dX4_readClose_49 : decode cX4_readClose 49 = .ok (.iaload, 1) := by decide +kernel
theorem dX4_readClose_50 : decode cX4_readClose 50 = .ok (.istore_n 1, 1) := by decide +kernel
theorem dX4_readClose_51 : decode cX4_readClose 51 = .ok (.aload_n 0, 1) := by decide +kernel
theorem dX4_readClose_52 : decode cX4_readClose 52 = .ok (.getfield 15, 3) := by decide +kernel
theorem dX4_readClose_55 : decode cX4_readClose 55 = .ok (.iload_n 1, 1) := by decide +kernel
theorem dX4_readClose_56 : decode cX4_readClose 56 = .ok (.aload_n 0, 1) := by decide +kernel
theorem dX4_readClose_57 : decode cX4_readClose 57 = .ok (.getfield 48, 3) := by decide +kernel
theorem dX4_readClose_60 : decode cX4_readClose 60 = .ok (.iastore, 1) := by decide +kernel
theorem dX4_readClose_61 : decode cX4_readClose 61 = .ok (.aload_n 0, 1) := by decide +kernel
theorem dX4_readClose_62 : decode cX4_readClose 62 = .ok (.getfield 11, 3) := by decide +kernel
theorem dX4_readClose_65 : decode cX4_readClose 65 = .ok (.iload_n 1, 1) := by decide +kernel
theorem dX4_readClose_66 : decode cX4_readClose 66 = .ok (.iaload, 1) := by decide +kernel
theorem dX4_readClose_67 : decode cX4_readClose 67 = .ok (.bipush 13, 2) := by decide +kernel
theorem dX4_readClose_69 : decode cX4_readClose 69 = .ok (.if_icmp .ne 13, 3) := by decide +kernel
theorem dX4_readClose_72 : decode cX4_readClose 72 = .ok (.aload_n 0, 1) := by decide +kernel
theorem dX4_readClose_73 : decode cX4_readClose 73 = .ok (.dup, 1) := by decide +kernel
theorem dX4_readClose_74 : decode cX4_readClose 74 = .ok (.getfield 51, 3) := by decide +kernel
theorem dX4_readClose_77 : decode cX4_readClose 77 = .ok (.iconst 1, 1) := by decide +kernel
theorem dX4_readClose_78 : decode cX4_readClose 78 = .ok (.iadd, 1) := by decide +kernel
theorem dX4_readClose_79 : decode cX4_readClose 79 = .ok (.putfield 51, 3) := by decide +kernel
theorem dX4_readClose_82 : decode cX4_readClose 82 = .ok (.return_, 1) := by decide +kernel
theorem dX4_checkNested_0 : decode cX4_checkNested 0 = .ok (.aload_n 0, 1) := by decide +kernel
theorem dX4_checkNested_1 : decode cX4_checkNested 1 = .ok (.getfield 54, 3) := by decide +kernel
theorem dX4_checkNested_4 : decode cX4_checkNested 4 = .ok (.ifCond .le 23, 3) := by decide +kernel
theorem dX4_checkNested_7 : decode cX4_checkNested 7 = .ok (.aload_n 0, 1) := by decide +kernel
theorem dX4_checkNested_8 : decode cX4_checkNested 8 = .ok (.getfield 11, 3) := by decide +kernel
theorem dX4_checkNested_11 : decode cX4_checkNested 11 = .ok (.aload_n 0, 1) := by decide +kernel
theorem dX4_checkNested_12 : decode cX4_checkNested 12 = .ok (.getfield 37, 3) := by decide +kernel
theorem dX4_checkNested_15 : decode cX4_checkNested 15 = .ok (.iconst 0, 1) := by decide +kernel
theorem dX4_checkNested_16 : decode cX4_checkNested 16 = .ok (.iaload, 1) := by decide +kernel
theorem dX4_checkNested_17 : decode cX4_checkNested 17 = .ok (.iaload, 1) := by decide +kernel
theorem dX4_checkNested_18 : decode cX4_checkNested 18 = .ok (.bipush 13, 2) := by decide +kernel
theorem dX4_checkNested_20 : decode cX4_checkNested 20 = .ok (.if_icmp .ne 7, 3) := by decide +kernel
theorem dX4_checkNested_23 : decode cX4_checkNested 23 = .ok (.iconst 1, 1) := by decide +kernel
theorem dX4_checkNested_24 : decode cX4_checkNested 24 = .ok (.goto 4, 3) := by decide +kernel
theorem dX4_checkNested_27 : decode cX4_checkNested 27 = .ok (.iconst 0, 1) := by decide +kernel
theorem dX4_checkNested_28 : decode cX4_checkNested 28 = .ok (.istore_n 1, 1) := by decide +kernel
theorem dX4_checkNested_29 : decode cX4_checkNested 29 = .ok (.aload_n 0, 1) := by decide +kernel
theorem dX4_checkNested_30 : decode cX4_checkNested 30 = .ok (.getfield 54, 3) := by decide +kernel
theorem dX4_checkNested_33 : decode cX4_checkNested 33 = .ok (.iload_n 1, 1) := by decide +kernel
theorem dX4_checkNested_34 : decode cX4_checkNested 34 = .ok (.ifCond .eq 7, 3) := by decide +kernel
theorem dX4_checkNested_37 : decode cX4_checkNested 37 = .ok (.iconst 1, 1) := by decide +kernel
theorem dX4_checkNested_38 : decode cX4_checkNested 38 = .ok (.goto 4, 3) := by decide +kernel
theorem dX4_checkNested_41 : decode cX4_checkNested 41 = .ok (.iconst 0, 1) := by decide +kernel
theorem dX4_checkNested_42 : decode cX4_checkNested 42 = .ok (.isub, 1) := by decide +kernel
theorem dX4_checkNested_43 : decode cX4_checkNested 43 = .ok (.iconst 4, 1) := by decide +kernel
theorem dX4_checkNested_44 : decode cX4_checkNested 44 = .ok (.if_icmp .lt 8, 3) := by decide +kernel
theorem dX4_checkNested_47 : decode cX4_checkNested 47 = .ok (.aload_n 0, 1) := by decide +kernel
theorem dX4_checkNested_48 : decode cX4_checkNested 48 = .ok (.iconst 5, 1) := by decide +kernel
theorem dX4_checkNested_49 : decode cX4_checkNested 49 = .ok (.invokevirtual 104, 3) := by decide +kernel
theorem dX4_checkNested_52 : decode cX4_checkNested 52 = .ok (.return_, 1) := by decide +kernel
theorem dX4_checkOutside_0 : decode cX4_checkOutside 0 = .ok (.aload_n 0, 1) := by decide +kernel
theorem dX4_checkOutside_1 : decode cX4_checkOutside 1 = .ok (.getfield 54, 3) := by decide +kernel
theorem dX4_checkOutside_4 : decode cX4_checkOutside 4 = .ok (.ifCond .le 8, 3) := by decide +kernel
theorem dX4_checkOutside_7 : decode cX4_checkOutside 7 = .ok (.aload_n 0, 1) := by decide +kernel
theorem dX4_checkOutside_8 : decode cX4_checkOutside 8 = .ok (.iconst 1, 1) := by decide +kernel
theorem dX4_checkOutside_9 : decode cX4_checkOutside 9 = .ok (.invokevirtual 104, 3) := by decide +kernel
theorem dX4_checkOutside_12 : decode cX4_checkOutside 12 = .ok (.return_, 1) := by decide +kernel
theorem dX4_checkName_0 : decode cX4_checkName 0 = .ok (.aload_n 0, 1) := by decide +kernel
theorem dX4_checkName_1 : decode cX4_checkName 1 = .ok (.invokevirtual 72, 3) := by decide +kernel
theorem dX4_checkName_4 : decode cX4_checkName 4 = .ok (.bipush 18, 2) := by decide +kernel
theorem dX4_checkName_6 : decode cX4_checkName 6 = .ok (.if_icmp .eq 8, 3) := by decide +kernel
theorem dX4_checkName_9 : decode cX4_checkName 9 = .ok (.aload_n 0, 1) := by decide +kernel
theorem dX4_checkName_10 : decode cX4_checkName 10 = .ok (.iconst 1, 1) := by decide +kernel
theorem dX4_checkName_11 : decode cX4_checkName 11 = .ok (.invokevirtual 104, 3) := by decide +kernel
theorem dX4_checkName_14 : decode cX4_checkName 14 = .ok (.return_, 1) := by decide +kernel
theorem dX4_begin_0 : decode cX4_begin 0 = .ok (.aload_n 0, 1) := by decide +kernel
theorem dX4_begin_1 : decode cX4_begin 1 = .ok (.getfield 48, 3) := by decide +kernel
theorem dX4_begin_4 : decode cX4_begin 4 = .ok (.bipush 125, 2) := by decide +kernel
theorem dX4_begin_6 : decode cX4_begin 6 = .ok (.if_icmp .lt 8, 3) := by decide +kernel
theorem dX4_begin_9 : decode cX4_begin 9 = .ok (.aload_n 0, 1) := by decide +kernel
theorem dX4_begin_10 : decode cX4_begin 10 = .ok (.iconst 1, 1) := by decide +kernel
theorem dX4_begin_11 : decode cX4_begin 11 = .ok (.invokevirtual 104, 3) := by decide +kernel
theorem dX4_begin_14 : decode cX4_begin 14 = .ok (.aload_n 0, 1) := by decide +kernel
theorem dX4_begin_15 : decode cX4_begin 15 = .ok (.getfield 57, 3) := by decide +kernel
theorem dX4_begin_18 : decode cX4_begin 18 = .ok (.ifCond .eq 5, 3) := by decide +kernel
theorem dX4_begin_21 : decode cX4_begin 21 = .ok (.iconst 0, 1) := by decide +kernel
theorem dX4_begin_22 : decode cX4_begin 22 = .ok (.ireturn, 1) := by decide +kernel
theorem dX4_begin_23 : decode cX4_begin 23 = .ok (.aload_n 0, 1) := by decide +kernel
theorem dX4_begin_24 : decode cX4_begin 24 = .ok (.invokevirtual 108, 3) := by decide +kernel
theorem dX4_begin_27 : decode cX4_begin 27 = .ok (.aload_n 0, 1) := by decide +kernel
theorem dX4_begin_28 : decode cX4_begin 28 = .ok (.getfield 11, 3) := by decide +kernel
theorem dX4_begin_31 : decode cX4_begin 31 = .ok (.aload_n 0, 1) := by decide +kernel
theorem dX4_begin_32 : decode cX4_begin 32 = .ok (.getfield 48, 3) := by decide +kernel
theorem dX4_begin_35 : decode cX4_begin 35 = .ok (.iload_n 1, 1) := by decide +kernel
theorem dX4_begin_36 : decode cX4_begin 36 = .ok (.iastore, 1) := by decide +kernel
theorem dX4_begin_37 : decode cX4_begin 37 = .ok (.aload_n 0, 1) := by decide +kernel
theorem dX4_begin_38 : decode cX4_begin 38 = .ok (.getfield 15, 3) := by decide +kernel
theorem dX4_begin_41 : decode cX4_begin 41 = .ok (.aload_n 0, 1) := by decide +kernel
theorem dX4_begin_42 : decode cX4_begin 42 = .ok (.getfield 48, 3) := by decide +kernel
theorem dX4_begin_45 : decode cX4_begin 45 = .ok (.aload_n 0, 1) := by decide +kernel
theorem dX4_begin_46 : decode cX4_begin 46 = .ok (.getfield 48, 3) := by decide +kernel
theorem dX4_begin_49 : decode cX4_begin 49 = .ok (.iconst 1, 1) := by decide +kernel
theorem dX4_begin_50 : decode cX4_begin 50 = .ok (.iadd, 1) := by decide +kernel
theorem dX4_begin_51 : decode cX4_begin 51 = .ok (.iastore, 1) := by decide +kernel
theorem dX4_begin_52 : decode cX4_begin 52 = .ok (.aload_n 0, 1) := by decide +kernel
theorem dX4_begin_53 : decode cX4_begin 53 = .ok (.dup, 1) := by decide +kernel
theorem dX4_begin_54 : decode cX4_begin 54 = .ok (.getfield 48, 3) := by decide +kernel
theorem dX4_begin_57 : decode cX4_begin 57 = .ok (.iconst 1, 1) := by decide +kernel
theorem dX4_begin_58 : decode cX4_begin 58 = .ok (.iadd, 1) := by decide +kernel
theorem dX4_begin_59 : decode cX4_begin 59 = .ok (.putfield 48, 3) := by decide +kernel
theorem dX4_begin_62 : decode cX4_begin 62 = .ok (.aload_n 0, 1) := by decide +kernel
theorem dX4_begin_63 : decode cX4_begin 63 = .ok (.getfield 48, 3) := by decide +kernel
theorem dX4_begin_66 : decode cX4_begin 66 = .ok (.iconst 1, 1) := by decide +kernel
theorem dX4_begin_67 : decode cX4_begin 67 = .ok (.isub, 1) := by decide +kernel
theorem dX4_begin_68 : decode cX4_begin 68 = .ok (.ireturn, 1) := by decide +kernel
theorem dX4_write_0 : decode cX4_write 0 = .ok (.aload_n 0, 1) := by decide +kernel
theorem dX4_write_1 : decode cX4_write 1 = .ok (.getfield 18, 3) := by decide +kernel
theorem dX4_write_4 : decode cX4_write 4 = .ok (.iload_n 1, 1) := by decide +kernel
theorem dX4_write_5 : decode cX4_write 5 = .ok (.iload_n 2, 1) := by decide +kernel
theorem dX4_write_6 : decode cX4_write 6 = .ok (.iastore, 1) := by decide +kernel
theorem dX4_write_7 : decode cX4_write 7 = .ok (.aload_n 0, 1) := by decide +kernel
theorem dX4_write_8 : decode cX4_write 8 = .ok (.getfield 21, 3) := by decide +kernel
theorem dX4_write_11 : decode cX4_write 11 = .ok (.iload_n 1, 1) := by decide +kernel
theorem dX4_write_12 : decode cX4_write 12 = .ok (.iload_n 3, 1) := by decide +kernel
theorem dX4_write_13 : decode cX4_write 13 = .ok (.iastore, 1) := by decide +kernel
theorem dX4_write_14 : decode cX4_write 14 = .ok (.aload_n 0, 1) := by decide +kernel
theorem dX4_write_15 : decode cX4_write 15 = .ok (.getfield 24, 3) := by decide +kernel
theorem dX4_write_18 : decode cX4_write 18 = .ok (.iload_n 1, 1) := by decide +kernel
theorem dX4_write_19 : decode cX4_write 19 = .ok (.iload 4, 2) := by decide +kernel
theorem dX4_write_21 : decode cX4_write 21 = .ok (.iastore, 1) := by decide +kernel
theorem dX4_write_22 : decode cX4_write 22 = .ok (.aload_n 0, 1) := by decide +kernel
theorem dX4_write_23 : decode cX4_write 23 = .ok (.getfield 27, 3) := by decide +kernel
theorem dX4_write_26 : decode cX4_write 26 = .ok (.iload_n 1, 1) := by decide +kernel
theorem dX4_write_27 : decode cX4_write 27 = .ok (.iload 5, 2) := by decide +kernel
theorem dX4_write_29 : decode cX4_write 29 = .ok (.iastore, 1) := by decide +kernel
theorem dX4_write_30 : decode cX4_write 30 = .ok (.return_, 1) := by decide +kernel
theorem dX4_readNumber_0 : decode cX4_readNumber 0 = .ok (.aload_n 0, 1) := by decide +kernel
theorem dX4_readNumber_1 : decode cX4_readNumber 1 = .ok (.getfield 40, 3) := by decide +kernel
theorem dX4_readNumber_4 : decode cX4_readNumber 4 = .ok (.getfield 140, 3) := by decide +kernel
theorem dX4_readNumber_7 : decode cX4_readNumber 7 = .ok (.aload_n 0, 1) := by decide +kernel
theorem dX4_readNumber_8 : decode cX4_readNumber 8 = .ok (.getfield 44, 3) := by decide +kernel
theorem dX4_readNumber_11 : decode cX4_readNumber 11 = .ok (.laload, 1) := by decide +kernel
theorem dX4_readNumber_12 : decode cX4_readNumber 12 = .ok (.lstore_n 3, 1) := by decide +kernel
theorem dX4_readNumber_13 : decode cX4_readNumber 13 = .ok (.aload_n 0, 1) := by decide +kernel
theorem dX4_readNumber_14 : decode cX4_readNumber 14 = .ok (.invokevirtual 72, 3) := by decide +kernel
theorem dX4_readNumber_17 : decode cX4_readNumber 17 = .ok (.bipush 19, 2) := by decide +kernel
theorem dX4_readNumber_19 : decode cX4_readNumber 19 = .ok (.if_icmp .eq 11, 3) := by decide +kernel
theorem dX4_readNumber_22 : decode cX4_readNumber 22 = .ok (.aload_n 0, 1) := by decide +kernel
theorem dX4_readNumber_23 : decode cX4_readNumber 23 = .ok (.iconst 1, 1) := by decide +kernel
theorem dX4_readNumber_24 : decode cX4_readNumber 24 = .ok (.invokevirtual 104, 3) := by decide +kernel
theorem dX4_readNumber_27 : decode cX4_readNumber 27 = .ok (.goto 22, 3) := by decide +kernel
theorem dX4_readNumber_30 : decode cX4_readNumber 30 = .ok (.lload_n 3, 1) := by decide +kernel
theorem dX4_readNumber_31 : decode cX4_readNumber 31 = .ok (.iload_n 1, 1) := by decide +kernel
theorem dX4_readNumber_32 : decode cX4_readNumber 32 = .ok (.i2l, 1) := by decide +kernel
theorem dX4_readNumber_33 : decode cX4_readNumber 33 = .ok (.lcmp, 1) := by decide +kernel
theorem dX4_readNumber_34 : decode cX4_readNumber 34 = .ok (.ifCond .lt 10, 3) := by decide +kernel
theorem dX4_readNumber_37 : decode cX4_readNumber 37 = .ok (.lload_n 3, 1) := by decide +kernel
theorem dX4_readNumber_38 : decode cX4_readNumber 38 = .ok (.iload_n 2, 1) := by decide +kernel
theorem dX4_readNumber_39 : decode cX4_readNumber 39 = .ok (.i2l, 1) := by decide +kernel
theorem dX4_readNumber_40 : decode cX4_readNumber 40 = .ok (.lcmp, 1) := by decide +kernel
theorem dX4_readNumber_41 : decode cX4_readNumber 41 = .ok (.ifCond .le 8, 3) := by decide +kernel
theorem dX4_readNumber_44 : decode cX4_readNumber 44 = .ok (.aload_n 0, 1) := by decide +kernel
theorem dX4_readNumber_45 : decode cX4_readNumber 45 = .ok (.iconst 4, 1) := by decide +kernel
theorem dX4_readNumber_46 : decode cX4_readNumber 46 = .ok (.invokevirtual 104, 3) := by decide +kernel
theorem dX4_readNumber_49 : decode cX4_readNumber 49 = .ok (.aload_n 0, 1) := by decide +kernel
theorem dX4_readNumber_50 : decode cX4_readNumber 50 = .ok (.invokevirtual 108, 3) := by decide +kernel
theorem dX4_readNumber_53 : decode cX4_readNumber 53 = .ok (.lload_n 3, 1) := by decide +kernel
theorem dX4_readNumber_54 : decode cX4_readNumber 54 = .ok (.l2i, 1) := by decide +kernel
theorem dX4_readNumber_55 : decode cX4_readNumber 55 = .ok (.ireturn, 1) := by decide +kernel
theorem dX4_readShift_0 : decode cX4_readShift 0 = .ok (.aload_n 0, 1) := by decide +kernel
theorem dX4_readShift_1 : decode cX4_readShift 1 = .ok (.invokevirtual 72, 3) := by decide +kernel
theorem dX4_readShift_4 : decode cX4_readShift 4 = .ok (.bipush 45, 2) := by decide +kernel
theorem dX4_readShift_6 : decode cX4_readShift 6 = .ok (.if_icmp .ne 7, 3) := by decide +kernel
theorem dX4_readShift_9 : decode cX4_readShift 9 = .ok (.iconst 1, 1) := by decide +kernel
theorem dX4_readShift_10 : decode cX4_readShift 10 = .ok (.goto 4, 3) := by decide +kernel
theorem dX4_readShift_13 : decode cX4_readShift 13 = .ok (.iconst 0, 1) := by decide +kernel
theorem dX4_readShift_14 : decode cX4_readShift 14 = .ok (.istore_n 1, 1) := by decide +kernel
theorem dX4_readShift_15 : decode cX4_readShift 15 = .ok (.iload_n 1, 1) := by decide +kernel
theorem dX4_readShift_16 : decode cX4_readShift 16 = .ok (.ifCond .eq 7, 3) := by decide +kernel
theorem dX4_readShift_19 : decode cX4_readShift 19 = .ok (.aload_n 0, 1) := by decide +kernel
theorem dX4_readShift_20 : decode cX4_readShift 20 = .ok (.invokevirtual 108, 3) := by decide +kernel
theorem dX4_readShift_23 : decode cX4_readShift 23 = .ok (.aload_n 0, 1) := by decide +kernel
theorem dX4_readShift_24 : decode cX4_readShift 24 = .ok (.iconst 0, 1) := by decide +kernel
theorem dX4_readShift_25 : decode cX4_readShift 25 = .ok (.bipush 12, 2) := by decide +kernel
theorem dX4_readShift_27 : decode cX4_readShift 27 = .ok (.invokevirtual 111, 3) := by decide +kernel
theorem dX4_readShift_30 : decode cX4_readShift 30 = .ok (.istore_n 2, 1) := by decide +kernel
theorem dX4_readShift_31 : decode cX4_readShift 31 = .ok (.iload_n 1, 1) := by decide +kernel
theorem dX4_readShift_32 : decode cX4_readShift 32 = .ok (.ifCond .eq 8, 3) := by decide +kernel
theorem dX4_readShift_35 : decode cX4_readShift 35 = .ok (.iload_n 2, 1) := by decide +kernel
theorem dX4_readShift_36 : decode cX4_readShift 36 = .ok (.ineg, 1) := by decide +kernel
theorem dX4_readShift_37 : decode cX4_readShift 37 = .ok (.goto 4, 3) := by decide +kernel
theorem dX4_readShift_40 : decode cX4_readShift 40 = .ok (.iload_n 2, 1) := by decide +kernel
theorem dX4_readShift_41 : decode cX4_readShift 41 = .ok (.ireturn, 1) := by decide +kernel
theorem dX4_readKind_0 : decode cX4_readKind 0 = .ok (.aload_n 0, 1) := by decide +kernel
theorem dX4_readKind_1 : decode cX4_readKind 1 = .ok (.invokevirtual 72, 3) := by decide +kernel
theorem dX4_readKind_4 : decode cX4_readKind 4 = .ok (.iload_n 1, 1) := by decide +kernel
theorem dX4_readKind_5 : decode cX4_readKind 5 = .ok (.if_icmp .eq 8, 3) := by decide +kernel
theorem dX4_readKind_8 : decode cX4_readKind 8 = .ok (.aload_n 0, 1) := by decide +kernel
theorem dX4_readKind_9 : decode cX4_readKind 9 = .ok (.iconst 1, 1) := by decide +kernel
theorem dX4_readKind_10 : decode cX4_readKind 10 = .ok (.invokevirtual 104, 3) := by decide +kernel
theorem dX4_readKind_13 : decode cX4_readKind 13 = .ok (.aload_n 0, 1) := by decide +kernel
theorem dX4_readKind_14 : decode cX4_readKind 14 = .ok (.invokevirtual 108, 3) := by decide +kernel
theorem dX4_readKind_17 : decode cX4_readKind 17 = .ok (.return_, 1) := by decide +kernel
theorem dX4_kindAtHand_0 : decode cX4_kindAtHand 0 = .ok (.aload_n 0, 1) := by decide +kernel
