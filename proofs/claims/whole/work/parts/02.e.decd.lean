theorem dX12_beside_76 : decode cX12_beside 76 = .ok (.imul, 1) := by decide +kernel
theorem dX12_beside_77 : decode cX12_beside 77 = .ok (.iload_n 2, 1) := by decide +kernel
theorem dX12_beside_78 : decode cX12_beside 78 = .ok (.iadd, 1) := by decide +kernel
theorem dX12_beside_79 : decode cX12_beside 79 = .ok (.ireturn, 1) := by decide +kernel
theorem dX12_isToothed_0 : decode cX12_isToothed 0 = .ok (.aload_n 0, 1) := by decide +kernel
theorem dX12_isToothed_1 : decode cX12_isToothed 1 = .ok (.getfield 86, 3) := by decide +kernel
theorem dX12_isToothed_4 : decode cX12_isToothed 4 = .ok (.sipush 156, 3) := by decide +kernel
theorem dX12_isToothed_7 : decode cX12_isToothed 7 = .ok (.iload_n 1, 1) := by decide +kernel
theorem dX12_isToothed_8 : decode cX12_isToothed 8 = .ok (.imul, 1) := by decide +kernel
theorem dX12_isToothed_9 : decode cX12_isToothed 9 = .ok (.iload_n 2, 1) := by decide +kernel
theorem dX12_isToothed_10 : decode cX12_isToothed 10 = .ok (.iadd, 1) := by decide +kernel
theorem dX12_isToothed_11 : decode cX12_isToothed 11 = .ok (.iaload, 1) := by decide +kernel
theorem dX12_isToothed_12 : decode cX12_isToothed 12 = .ok (.iconst 4, 1) := by decide +kernel
theorem dX12_isToothed_13 : decode cX12_isToothed 13 = .ok (.if_icmp .eq 20, 3) := by decide +kernel
theorem dX12_isToothed_16 : decode cX12_isToothed 16 = .ok (.aload_n 0, 1) := by decide +kernel
theorem dX12_isToothed_17 : decode cX12_isToothed 17 = .ok (.getfield 86, 3) := by decide +kernel
theorem dX12_isToothed_20 : decode cX12_isToothed 20 = .ok (.sipush 156, 3) := by decide +kernel
theorem dX12_isToothed_23 : decode cX12_isToothed 23 = .ok (.iload_n 1, 1) := by decide +kernel
theorem dX12_isToothed_24 : decode cX12_isToothed 24 = .ok (.imul, 1) := by decide +kernel
theorem dX12_isToothed_25 : decode cX12_isToothed 25 = .ok (.iload_n 2, 1) := by decide +kernel
theorem dX12_isToothed_26 : decode cX12_isToothed 26 = .ok (.iadd, 1) := by decide +kernel
theorem dX12_isToothed_27 : decode cX12_isToothed 27 = .ok (.iaload, 1) := by decide +kernel
theorem dX12_isToothed_28 : decode cX12_isToothed 28 = .ok (.bipush 8, 2) := by decide +kernel
theorem dX12_isToothed_30 : decode cX12_isToothed 30 = .ok (.if_icmp .ne 7, 3) := by decide +kernel
theorem dX12_isToothed_33 : decode cX12_isToothed 33 = .ok (.iconst 1, 1) := by decide +kernel
theorem dX12_isToothed_34 : decode cX12_isToothed 34 = .ok (.goto 4, 3) := by decide +kernel
theorem dX12_isToothed_37 : decode cX12_isToothed 37 = .ok (.iconst 0, 1) := by decide +kernel
theorem dX12_isToothed_38 : decode cX12_isToothed 38 = .ok (.ireturn, 1) := by decide +kernel
theorem dX12_findTrains_0 : decode cX12_findTrains 0 = .ok (.iconst 0, 1) := by decide +kernel
theorem dX12_findTrains_1 : decode cX12_findTrains 1 = .ok (.istore_n 3, 1) := by decide +kernel
theorem dX12_findTrains_2 : decode cX12_findTrains 2 = .ok (.iload_n 3, 1) := by decide +kernel
theorem dX12_findTrains_3 : decode cX12_findTrains 3 = .ok (.sipush 156, 3) := by decide +kernel
theorem dX12_findTrains_6 : decode cX12_findTrains 6 = .ok (.if_icmp .ge 22, 3) := by decide +kernel
theorem dX12_findTrains_9 : decode cX12_findTrains 9 = .ok (.aload_n 0, 1) := by decide +kernel
theorem dX12_findTrains_10 : decode cX12_findTrains 10 = .ok (.getfield 107, 3) := by decide +kernel
theorem dX12_findTrains_13 : decode cX12_findTrains 13 = .ok (.sipush 156, 3) := by decide +kernel
theorem dX12_findTrains_16 : decode cX12_findTrains 16 = .ok (.iload_n 2, 1) := by decide +kernel
theorem dX12_findTrains_17 : decode cX12_findTrains 17 = .ok (.imul, 1) := by decide +kernel
theorem dX12_findTrains_18 : decode cX12_findTrains 18 = .ok (.iload_n 3, 1) := by decide +kernel
theorem dX12_findTrains_19 : decode cX12_findTrains 19 = .ok (.iadd, 1) := by decide +kernel
theorem dX12_findTrains_20 : decode cX12_findTrains 20 = .ok (.iconst (-1), 1) := by decide +kernel
theorem dX12_findTrains_21 : decode cX12_findTrains 21 = .ok (.iastore, 1) := by decide +kernel
theorem dX12_findTrains_22 : decode cX12_findTrains 22 = .ok (.iinc 3 1, 3) := by decide +kernel
theorem dX12_findTrains_25 : decode cX12_findTrains 25 = .ok (.goto (-23), 3) := by decide +kernel
theorem dX12_findTrains_28 : decode cX12_findTrains 28 = .ok (.iconst 0, 1) := by decide +kernel
theorem dX12_findTrains_29 : decode cX12_findTrains 29 = .ok (.istore_n 3, 1) := by decide +kernel
theorem dX12_findTrains_30 : decode cX12_findTrains 30 = .ok (.iload_n 3, 1) := by decide +kernel
theorem dX12_findTrains_31 : decode cX12_findTrains 31 = .ok (.sipush 156, 3) := by decide +kernel
theorem dX12_findTrains_34 : decode cX12_findTrains 34 = .ok (.if_icmp .ge 158, 3) := by decide +kernel
theorem dX12_findTrains_37 : decode cX12_findTrains 37 = .ok (.aload_n 0, 1) := by decide +kernel
theorem dX12_findTrains_38 : decode cX12_findTrains 38 = .ok (.iload_n 1, 1) := by decide +kernel
theorem dX12_findTrains_39 : decode cX12_findTrains 39 = .ok (.iload_n 3, 1) := by decide +kernel
theorem dX12_findTrains_40 : decode cX12_findTrains 40 = .ok (.invokevirtual 291, 3) := by decide +kernel
theorem dX12_findTrains_43 : decode cX12_findTrains 43 = .ok (.ifCond .eq 143, 3) := by decide +kernel
theorem dX12_findTrains_46 : decode cX12_findTrains 46 = .ok (.aload_n 0, 1) := by decide +kernel
theorem dX12_findTrains_47 : decode cX12_findTrains 47 = .ok (.getfield 107, 3) := by decide +kernel
theorem dX12_findTrains_50 : decode cX12_findTrains 50 = .ok (.sipush 156, 3) := by decide +kernel
theorem dX12_findTrains_53 : decode cX12_findTrains 53 = .ok (.iload_n 2, 1) := by decide +kernel
theorem dX12_findTrains_54 : decode cX12_findTrains 54 = .ok (.imul, 1) := by decide +kernel
theorem dX12_findTrains_55 : decode cX12_findTrains 55 = .ok (.iload_n 3, 1) := by decide +kernel
theorem dX12_findTrains_56 : decode cX12_findTrains 56 = .ok (.iadd, 1) := by decide +kernel
theorem dX12_findTrains_57 : decode cX12_findTrains 57 = .ok (.iaload, 1) := by decide +kernel
theorem dX12_findTrains_58 : decode cX12_findTrains 58 = .ok (.ifCond .ge 128, 3) := by decide +kernel
theorem dX12_findTrains_61 : decode cX12_findTrains 61 = .ok (.iconst 1, 1) := by decide +kernel
theorem dX12_findTrains_62 : decode cX12_findTrains 62 = .ok (.istore 4, 2) := by decide +kernel
theorem dX12_findTrains_64 : decode cX12_findTrains 64 = .ok (.aload_n 0, 1) := by decide +kernel
theorem dX12_findTrains_65 : decode cX12_findTrains 65 = .ok (.getfield 110, 3) := by decide +kernel
theorem dX12_findTrains_68 : decode cX12_findTrains 68 = .ok (.iconst 0, 1) := by decide +kernel
theorem dX12_findTrains_69 : decode cX12_findTrains 69 = .ok (.iload_n 3, 1) := by decide +kernel
theorem dX12_findTrains_70 : decode cX12_findTrains 70 = .ok (.iastore, 1) := by decide +kernel
theorem dX12_findTrains_71 : decode cX12_findTrains 71 = .ok (.aload_n 0, 1) := by decide +kernel
theorem dX12_findTrains_72 : decode cX12_findTrains 72 = .ok (.getfield 107, 3) := by decide +kernel
theorem dX12_findTrains_75 : decode cX12_findTrains 75 = .ok (.sipush 156, 3) := by decide +kernel
theorem dX12_findTrains_78 : decode cX12_findTrains 78 = .ok (.iload_n 2, 1) := by decide +kernel
theorem dX12_findTrains_79 : decode cX12_findTrains 79 = .ok (.imul, 1) := by decide +kernel
theorem dX12_findTrains_80 : decode cX12_findTrains 80 = .ok (.iload_n 3, 1) := by decide +kernel
theorem dX12_findTrains_81 : decode cX12_findTrains 81 = .ok (.iadd, 1) := by decide +kernel
theorem dX12_findTrains_82 : decode cX12_findTrains 82 = .ok (.iload_n 3, 1) := by decide +kernel
theorem dX12_findTrains_83 : decode cX12_findTrains 83 = .ok (.iastore, 1) := by decide +kernel
theorem dX12_findTrains_84 : decode cX12_findTrains 84 = .ok (.iconst 0, 1) := by decide +kernel
theorem dX12_findTrains_85 : decode cX12_findTrains 85 = .ok (.istore 5, 2) := by decide +kernel
theorem dX12_findTrains_87 : decode cX12_findTrains 87 = .ok (.iload 5, 2) := by decide +kernel
theorem dX12_findTrains_89 : decode cX12_findTrains 89 = .ok (.iload 4, 2) := by decide +kernel
theorem dX12_findTrains_91 : decode cX12_findTrains 91 = .ok (.if_icmp .ge 95, 3) := by decide +kernel
theorem dX12_findTrains_94 : decode cX12_findTrains 94 = .ok (.iconst 0, 1) := by decide +kernel
theorem dX12_findTrains_95 : decode cX12_findTrains 95 = .ok (.istore 6, 2) := by decide +kernel
theorem dX12_findTrains_97 : decode cX12_findTrains 97 = .ok (.iload 6, 2) := by decide +kernel
theorem dX12_findTrains_99 : decode cX12_findTrains 99 = .ok (.iconst 4, 1) := by decide +kernel
theorem dX12_findTrains_100 : decode cX12_findTrains 100 = .ok (.if_icmp .ge 80, 3) := by decide +kernel
theorem dX12_findTrains_103 : decode cX12_findTrains 103 = .ok (.aload_n 0, 1) := by decide +kernel
theorem dX12_findTrains_104 : decode cX12_findTrains 104 = .ok (.getfield 110, 3) := by decide +kernel
theorem dX12_findTrains_107 : decode cX12_findTrains 107 = .ok (.iload 5, 2) := by decide +kernel
theorem dX12_findTrains_109 : decode cX12_findTrains 109 = .ok (.iaload, 1) := by decide +kernel
theorem dX12_findTrains_110 : decode cX12_findTrains 110 = .ok (.iload 6, 2) := by decide +kernel
theorem dX12_findTrains_112 : decode cX12_findTrains 112 = .ok (.invokestatic 295, 3) := by decide +kernel
theorem dX12_findTrains_115 : decode cX12_findTrains 115 = .ok (.istore 7, 2) := by decide +kernel
theorem dX12_findTrains_117 : decode cX12_findTrains 117 = .ok (.iload 7, 2) := by decide +kernel
theorem dX12_findTrains_119 : decode cX12_findTrains 119 = .ok (.ifCond .lt 55, 3) := by decide +kernel
theorem dX12_findTrains_122 : decode cX12_findTrains 122 = .ok (.aload_n 0, 1) := by decide +kernel
theorem dX12_findTrains_123 : decode cX12_findTrains 123 = .ok (.iload_n 1, 1) := by decide +kernel
theorem dX12_findTrains_124 : decode cX12_findTrains 124 = .ok (.iload 7, 2) := by decide +kernel
theorem dX12_findTrains_126 : decode cX12_findTrains 126 = .ok (.invokevirtual 291, 3) := by decide +kernel
theorem dX12_findTrains_129 : decode cX12_findTrains 129 = .ok (.ifCond .eq 45, 3) := by decide +kernel
theorem dX12_findTrains_132 : decode cX12_findTrains 132 = .ok (.aload_n 0, 1) := by decide +kernel
theorem dX12_findTrains_133 : decode cX12_findTrains 133 = .ok (.getfield 107, 3) := by decide +kernel
theorem dX12_findTrains_136 : decode cX12_findTrains 136 = .ok (.sipush 156, 3) := by decide +kernel
theorem dX12_findTrains_139 : decode cX12_findTrains 139 = .ok (.iload_n 2, 1) := by decide +kernel
theorem dX12_findTrains_140 : decode cX12_findTrains 140 = .ok (.imul, 1) := by decide +kernel
theorem dX12_findTrains_141 : decode cX12_findTrains 141 = .ok (.iload 7, 2) := by decide +kernel
theorem dX12_findTrains_143 : decode cX12_findTrains 143 = .ok (.iadd, 1) := by decide +kernel
theorem dX12_findTrains_144 : decode cX12_findTrains 144 = .ok (.iaload, 1) := by decide +kernel
theorem dX12_findTrains_145 : decode cX12_findTrains 145 = .ok (.ifCond .ge 29, 3) := by decide +kernel
theorem dX12_findTrains_148 : decode cX12_findTrains 148 = .ok (.aload_n 0, 1) := by decide +kernel
theorem dX12_findTrains_149 : decode cX12_findTrains 149 = .ok (.getfield 107, 3) := by decide +kernel
theorem dX12_findTrains_152 : decode cX12_findTrains 152 = .ok (.sipush 156, 3) := by decide +kernel
theorem dX12_findTrains_155 : decode cX12_findTrains 155 = .ok (.iload_n 2, 1) := by decide +kernel
theorem dX12_findTrains_156 : decode cX12_findTrains 156 = .ok (.imul, 1) := by decide +kernel
theorem dX12_findTrains_157 : decode cX12_findTrains 157 = .ok (.iload 7, 2) := by decide +kernel
theorem dX12_findTrains_159 : decode cX12_findTrains 159 = .ok (.iadd, 1) := by decide +kernel
theorem dX12_findTrains_160 : decode cX12_findTrains 160 = .ok (.iload_n 3, 1) := by decide +kernel
theorem dX12_findTrains_161 : decode cX12_findTrains 161 = .ok (.iastore, 1) := by decide +kernel
theorem dX12_findTrains_162 : decode cX12_findTrains 162 = .ok (.aload_n 0, 1) := by decide +kernel
theorem dX12_findTrains_163 : decode cX12_findTrains 163 = .ok (.getfield 110, 3) := by decide +kernel
theorem dX12_findTrains_166 : decode cX12_findTrains 166 = .ok (.iload 4, 2) := by decide +kernel
theorem dX12_findTrains_168 : decode cX12_findTrains 168 = .ok (.iload 7, 2) := by decide +kernel
theorem dX12_findTrains_170 : decode cX12_findTrains 170 = .ok (.iastore, 1) := by decide +kernel
theorem dX12_findTrains_171 : decode cX12_findTrains 171 = .ok (.iinc 4 1, 3) := by decide +kernel
theorem dX12_findTrains_174 : decode cX12_findTrains 174 = .ok (.iinc 6 1, 3) := by decide +kernel
theorem dX12_findTrains_177 : decode cX12_findTrains 177 = .ok (.goto (-80), 3) := by decide +kernel
theorem dX12_findTrains_180 : decode cX12_findTrains 180 = .ok (.iinc 5 1, 3) := by decide +kernel
theorem dX12_findTrains_183 : decode cX12_findTrains 183 = .ok (.goto (-96), 3) := by decide +kernel
theorem dX12_findTrains_186 : decode cX12_findTrains 186 = .ok (.iinc 3 1, 3) := by decide +kernel
theorem dX12_findTrains_189 : decode cX12_findTrains 189 = .ok (.goto (-159), 3) := by decide +kernel
theorem dX12_findTrains_192 : decode cX12_findTrains 192 = .ok (.return_, 1) := by decide +kernel
theorem dX12_flips_0 : decode cX12_flips 0 = .ok (.iconst 0, 1) := by decide +kernel
theorem dX12_flips_1 : decode cX12_flips 1 = .ok (.istore 4, 2) := by decide +kernel
theorem dX12_flips_3 : decode cX12_flips 3 = .ok (.iload 4, 2) := by decide +kernel
theorem dX12_flips_5 : decode cX12_flips 5 = .ok (.sipush 156, 3) := by decide +kernel
theorem dX12_flips_8 : decode cX12_flips 8 = .ok (.if_icmp .ge 71, 3) := by decide +kernel
theorem dX12_flips_11 : decode cX12_flips 11 = .ok (.aload_n 0, 1) := by decide +kernel
theorem dX12_flips_12 : decode cX12_flips 12 = .ok (.getfield 107, 3) := by decide +kernel
theorem dX12_flips_15 : decode cX12_flips 15 = .ok (.sipush 156, 3) := by decide +kernel
theorem dX12_flips_18 : decode cX12_flips 18 = .ok (.iload_n 2, 1) := by decide +kernel
theorem dX12_flips_19 : decode cX12_flips 19 = .ok (.imul, 1) := by decide +kernel
theorem dX12_flips_20 : decode cX12_flips 20 = .ok (.iload 4, 2) := by decide +kernel
theorem dX12_flips_22 : decode cX12_flips 22 = .ok (.iadd, 1) := by decide +kernel
theorem dX12_flips_23 : decode cX12_flips 23 = .ok (.iaload, 1) := by decide +kernel
theorem dX12_flips_24 : decode cX12_flips 24 = .ok (.iload_n 3, 1) := by decide +kernel
theorem dX12_flips_25 : decode cX12_flips 25 = .ok (.if_icmp .ne 48, 3) := by decide +kernel
theorem dX12_flips_28 : decode cX12_flips 28 = .ok (.aload_n 0, 1) := by decide +kernel
theorem dX12_flips_29 : decode cX12_flips 29 = .ok (.getfield 86, 3) := by decide +kernel
theorem dX12_flips_32 : decode cX12_flips 32 = .ok (.sipush 156, 3) := by decide +kernel
theorem dX12_flips_35 : decode cX12_flips 35 = .ok (.iload_n 1, 1) := by decide +kernel
theorem dX12_flips_36 : decode cX12_flips 36 = .ok (.imul, 1) := by decide +kernel
theorem dX12_flips_37 : decode cX12_flips 37 = .ok (.iload 4, 2) := by decide +kernel
theorem dX12_flips_39 : decode cX12_flips 39 = .ok (.iadd, 1) := by decide +kernel
theorem dX12_flips_40 : decode cX12_flips 40 = .ok (.iaload, 1) := by decide +kernel
theorem dX12_flips_41 : decode cX12_flips 41 = .ok (.iconst 4, 1) := by decide +kernel
theorem dX12_flips_42 : decode cX12_flips 42 = .ok (.if_icmp .ne 31, 3) := by decide +kernel
theorem dX12_flips_45 : decode cX12_flips 45 = .ok (.aload_n 0, 1) := by decide +kernel
theorem dX12_flips_46 : decode cX12_flips 46 = .ok (.getfield 92, 3) := by decide +kernel
theorem dX12_flips_49 : decode cX12_flips 49 = .ok (.sipush 156, 3) := by decide +kernel
theorem dX12_flips_52 : decode cX12_flips 52 = .ok (.iload_n 1, 1) := by decide +kernel
theorem dX12_flips_53 : decode cX12_flips 53 = .ok (.imul, 1) := by decide +kernel
theorem dX12_flips_54 : decode cX12_flips 54 = .ok (.iload 4, 2) := by decide +kernel
theorem dX12_flips_56 : decode cX12_flips 56 = .ok (.iadd, 1) := by decide +kernel
theorem dX12_flips_57 : decode cX12_flips 57 = .ok (.iconst 1, 1) := by decide +kernel
theorem dX12_flips_58 : decode cX12_flips 58 = .ok (.aload_n 0, 1) := by decide +kernel
theorem dX12_flips_59 : decode cX12_flips 59 = .ok (.getfield 92, 3) := by decide +kernel
theorem dX12_flips_62 : decode cX12_flips 62 = .ok (.sipush 156, 3) := by decide +kernel
theorem dX12_flips_65 : decode cX12_flips 65 = .ok (.iload_n 1, 1) := by decide +kernel
theorem dX12_flips_66 : decode cX12_flips 66 = .ok (.imul, 1) := by decide +kernel
theorem dX12_flips_67 : decode cX12_flips 67 = .ok (.iload 4, 2) := by decide +kernel
theorem dX12_flips_69 : decode cX12_flips 69 = .ok (.iadd, 1) := by decide +kernel
theorem dX12_flips_70 : decode cX12_flips 70 = .ok (.iaload, 1) := by decide +kernel
theorem dX12_flips_71 : decode cX12_flips 71 = .ok (.isub, 1) := by decide +kernel
theorem dX12_flips_72 : decode cX12_flips 72 = .ok (.iastore, 1) := by decide +kernel
theorem dX12_flips_73 : decode cX12_flips 73 = .ok (.iinc 4 1, 3) := by decide +kernel
theorem dX12_flips_76 : decode cX12_flips 76 = .ok (.goto (-73), 3) := by decide +kernel
theorem dX12_flips_79 : decode cX12_flips 79 = .ok (.return_, 1) := by decide +kernel
theorem dX12_sends_0 : decode cX12_sends 0 = .ok (.sipush 156, 3) := by decide +kernel
theorem dX12_sends_3 : decode cX12_sends 3 = .ok (.iload_n 1, 1) := by decide +kernel
theorem dX12_sends_4 : decode cX12_sends 4 = .ok (.imul, 1) := by decide +kernel
theorem dX12_sends_5 : decode cX12_sends 5 = .ok (.iload_n 3, 1) := by decide +kernel
theorem dX12_sends_6 : decode cX12_sends 6 = .ok (.iadd, 1) := by decide +kernel
theorem dX12_sends_7 : decode cX12_sends 7 = .ok (.istore 7, 2) := by decide +kernel
theorem dX12_sends_9 : decode cX12_sends 9 = .ok (.aload_n 0, 1) := by decide +kernel
theorem dX12_sends_10 : decode cX12_sends 10 = .ok (.getfield 86, 3) := by decide +kernel
theorem dX12_sends_13 : decode cX12_sends 13 = .ok (.iload 7, 2) := by decide +kernel
theorem dX12_sends_15 : decode cX12_sends 15 = .ok (.iaload, 1) := by decide +kernel
theorem dX12_sends_16 : decode cX12_sends 16 = .ok (.tableswitch 201 1 9 #[52, 54, 56, 67, 201, 114, 132, 201, 172], 52) := by decide +kernel
theorem dX12_sends_68 : decode cX12_sends 68 = .ok (.iconst 0, 1) := by decide +kernel
theorem dX12_sends_69 : decode cX12_sends 69 = .ok (.ireturn, 1) := by decide +kernel
theorem dX12_sends_70 : decode cX12_sends 70 = .ok (.iconst 1, 1) := by decide +kernel
theorem dX12_sends_71 : decode cX12_sends 71 = .ok (.ireturn, 1) := by decide +kernel
theorem dX12_sends_72 : decode cX12_sends 72 = .ok (.iload 5, 2) := by decide +kernel
theorem dX12_sends_74 : decode cX12_sends 74 = .ok (.ifCond .eq 7, 3) := by decide +kernel
theorem dX12_sends_77 : decode cX12_sends 77 = .ok (.iconst 1, 1) := by decide +kernel
theorem dX12_sends_78 : decode cX12_sends 78 = .ok (.goto 4, 3) := by decide +kernel
theorem dX12_sends_81 : decode cX12_sends 81 = .ok (.iconst 0, 1) := by decide +kernel
theorem dX12_sends_82 : decode cX12_sends 82 = .ok (.ireturn, 1) := by decide +kernel
theorem dX12_sends_83 : decode cX12_sends 83 = .ok (.aload_n 0, 1) := by decide +kernel
theorem dX12_sends_84 : decode cX12_sends 84 = .ok (.getfield 92, 3) := by decide +kernel
theorem dX12_sends_87 : decode cX12_sends 87 = .ok (.iload 7, 2) := by decide +kernel
theorem dX12_sends_89 : decode cX12_sends 89 = .ok (.iaload, 1) := by decide +kernel
theorem dX12_sends_90 : decode cX12_sends 90 = .ok (.istore 8, 2) := by decide +kernel
theorem dX12_sends_92 : decode cX12_sends 92 = .ok (.aload_n 0, 1) := by decide +kernel
theorem dX12_sends_93 : decode cX12_sends 93 = .ok (.getfield 107, 3) := by decide +kernel
theorem dX12_sends_96 : decode cX12_sends 96 = .ok (.sipush 156, 3) := by decide +kernel
theorem dX12_sends_99 : decode cX12_sends 99 = .ok (.iload_n 2, 1) := by decide +kernel
theorem dX12_sends_100 : decode cX12_sends 100 = .ok (.imul, 1) := by decide +kernel
theorem dX12_sends_101 : decode cX12_sends 101 = .ok (.iload_n 3, 1) := by decide +kernel
theorem dX12_sends_102 : decode cX12_sends 102 = .ok (.iadd, 1) := by decide +kernel
theorem dX12_sends_103 : decode cX12_sends 103 = .ok (.iaload, 1) := by decide +kernel
theorem dX12_sends_104 : decode cX12_sends 104 = .ok (.iload 6, 2) := by decide +kernel
theorem dX12_sends_106 : decode cX12_sends 106 = .ok (.if_icmp .eq 21, 3) := by decide +kernel
theorem dX12_sends_109 : decode cX12_sends 109 = .ok (.aload_n 0, 1) := by decide +kernel
theorem dX12_sends_110 : decode cX12_sends 110 = .ok (.iload_n 1, 1) := by decide +kernel
theorem dX12_sends_111 : decode cX12_sends 111 = .ok (.iload_n 2, 1) := by decide +kernel
theorem dX12_sends_112 : decode cX12_sends 112 = .ok (.aload_n 0, 1) := by decide +kernel
theorem dX12_sends_113 : decode cX12_sends 113 = .ok (.getfield 107, 3) := by decide +kernel
theorem dX12_sends_116 : decode cX12_sends 116 = .ok (.sipush 156, 3) := by decide +kernel
theorem dX12_sends_119 : decode cX12_sends 119 = .ok (.iload_n 2, 1) := by decide +kernel
theorem dX12_sends_120 : decode cX12_sends 120 = .ok (.imul, 1) := by decide +kernel
theorem dX12_sends_121 : decode cX12_sends 121 = .ok (.iload_n 3, 1) := by decide +kernel
theorem dX12_sends_122 : decode cX12_sends 122 = .ok (.iadd, 1) := by decide +kernel
theorem dX12_sends_123 : decode cX12_sends 123 = .ok (.iaload, 1) := by decide +kernel
theorem dX12_sends_124 : decode cX12_sends 124 = .ok (.invokevirtual 298, 3) := by decide +kernel
theorem dX12_sends_127 : decode cX12_sends 127 = .ok (.iload 8, 2) := by decide +kernel
theorem dX12_sends_129 : decode cX12_sends 129 = .ok (.ireturn, 1) := by decide +kernel
theorem dX12_sends_130 : decode cX12_sends 130 = .ok (.aload_n 0, 1) := by decide +kernel
theorem dX12_sends_131 : decode cX12_sends 131 = .ok (.getfield 89, 3) := by decide +kernel
theorem dX12_sends_134 : decode cX12_sends 134 = .ok (.iload 7, 2) := by decide +kernel
theorem dX12_sends_136 : decode cX12_sends 136 = .ok (.iaload, 1) := by decide +kernel
theorem dX12_sends_137 : decode cX12_sends 137 = .ok (.iload 4, 2) := by decide +kernel
theorem dX12_sends_139 : decode cX12_sends 139 = .ok (.if_icmp .ne 7, 3) := by decide +kernel
theorem dX12_sends_142 : decode cX12_sends 142 = .ok (.iconst 0, 1) := by decide +kernel
theorem dX12_sends_143 : decode cX12_sends 143 = .ok (.goto 4, 3) := by decide +kernel
theorem dX12_sends_146 : decode cX12_sends 146 = .ok (.iconst 1, 1) := by decide +kernel
theorem dX12_sends_147 : decode cX12_sends 147 = .ok (.ireturn, 1) := by decide +kernel
theorem dX12_sends_148 : decode cX12_sends 148 = .ok (.aload_n 0, 1) := by decide +kernel
theorem dX12_sends_149 : decode cX12_sends 149 = .ok (.getfield 92, 3) := by decide +kernel
theorem dX12_sends_152 : decode cX12_sends 152 = .ok (.iload 7, 2) := by decide +kernel
theorem dX12_sends_154 : decode cX12_sends 154 = .ok (.aload_n 0, 1) := by decide +kernel
theorem dX12_sends_155 : decode cX12_sends 155 = .ok (.getfield 92, 3) := by decide +kernel
theorem dX12_sends_158 : decode cX12_sends 158 = .ok (.iload 7, 2) := by decide +kernel
theorem dX12_sends_160 : decode cX12_sends 160 = .ok (.iaload, 1) := by decide +kernel
theorem dX12_sends_161 : decode cX12_sends 161 = .ok (.iconst 1, 1) := by decide +kernel
theorem dX12_sends_162 : decode cX12_sends 162 = .ok (.iadd, 1) := by decide +kernel
theorem dX12_sends_163 : decode cX12_sends 163 = .ok (.aload_n 0, 1) := by decide +kernel
theorem dX12_sends_164 : decode cX12_sends 164 = .ok (.getfield 89, 3) := by decide +kernel
theorem dX12_sends_167 : decode cX12_sends 167 = .ok (.iload 7, 2) := by decide +kernel
theorem dX12_sends_169 : decode cX12_sends 169 = .ok (.iaload, 1) := by decide +kernel
theorem dX12_sends_170 : decode cX12_sends 170 = .ok (.irem, 1) := by decide +kernel
theorem dX12_sends_171 : decode cX12_sends 171 = .ok (.iastore, 1) := by decide +kernel
theorem dX12_sends_172 : decode cX12_sends 172 = .ok (.aload_n 0, 1) := by decide +kernel
theorem dX12_sends_173 : decode cX12_sends 173 = .ok (.getfield 92, 3) := by decide +kernel
theorem dX12_sends_176 : decode cX12_sends 176 = .ok (.iload 7, 2) := by decide +kernel
theorem dX12_sends_178 : decode cX12_sends 178 = .ok (.iaload, 1) := by decide +kernel
theorem dX12_sends_179 : decode cX12_sends 179 = .ok (.ifCond .ne 7, 3) := by decide +kernel
theorem dX12_sends_182 : decode cX12_sends 182 = .ok (.iconst 1, 1) := by decide +kernel
theorem dX12_sends_183 : decode cX12_sends 183 = .ok (.goto 4, 3) := by decide +kernel
theorem dX12_sends_186 : decode cX12_sends 186 = .ok (.iconst 0, 1) := by decide +kernel
theorem dX12_sends_187 : decode cX12_sends 187 = .ok (.ireturn, 1) := by decide +kernel
theorem dX12_sends_188 : decode cX12_sends 188 = .ok (.aload_n 0, 1) := by decide +kernel
theorem dX12_sends_189 : decode cX12_sends 189 = .ok (.getfield 92, 3) := by decide +kernel
theorem dX12_sends_192 : decode cX12_sends 192 = .ok (.iload 7, 2) := by decide +kernel
theorem dX12_sends_194 : decode cX12_sends 194 = .ok (.iaload, 1) := by decide +kernel
theorem dX12_sends_195 : decode cX12_sends 195 = .ok (.istore 9, 2) := by decide +kernel
theorem dX12_sends_197 : decode cX12_sends 197 = .ok (.aload_n 0, 1) := by decide +kernel
theorem dX12_sends_198 : decode cX12_sends 198 = .ok (.getfield 92, 3) := by decide +kernel
theorem dX12_sends_201 : decode cX12_sends 201 = .ok (.iload 7, 2) := by decide +kernel
theorem dX12_sends_203 : decode cX12_sends 203 = .ok (.iload 5, 2) := by decide +kernel
theorem dX12_sends_205 : decode cX12_sends 205 = .ok (.ifCond .eq 7, 3) := by decide +kernel
theorem dX12_sends_208 : decode cX12_sends 208 = .ok (.iconst 1, 1) := by decide +kernel
theorem dX12_sends_209 : decode cX12_sends 209 = .ok (.goto 4, 3) := by decide +kernel
theorem dX12_sends_212 : decode cX12_sends 212 = .ok (.iconst 0, 1) := by decide +kernel
theorem dX12_sends_213 : decode cX12_sends 213 = .ok (.iastore, 1) := by decide +kernel
theorem dX12_sends_214 : decode cX12_sends 214 = .ok (.iload 9, 2) := by decide +kernel
theorem dX12_sends_216 : decode cX12_sends 216 = .ok (.ireturn, 1) := by decide +kernel
theorem dX12_sends_217 : decode cX12_sends 217 = .ok (.iconst 2, 1) := by decide +kernel
theorem dX12_sends_218 : decode cX12_sends 218 = .ok (.ireturn, 1) := by decide +kernel
theorem dX12_drops_0 : decode cX12_drops 0 = .ok (.aload_n 0, 1) := by decide +kernel
theorem dX12_drops_1 : decode cX12_drops 1 = .ok (.getfield 98, 3) := by decide +kernel
theorem dX12_drops_4 : decode cX12_drops 4 = .ok (.iconst 4, 1) := by decide +kernel
theorem dX12_drops_5 : decode cX12_drops 5 = .ok (.iload_n 1, 1) := by decide +kernel
theorem dX12_drops_6 : decode cX12_drops 6 = .ok (.imul, 1) := by decide +kernel
theorem dX12_drops_7 : decode cX12_drops 7 = .ok (.iload_n 3, 1) := by decide +kernel
theorem dX12_drops_8 : decode cX12_drops 8 = .ok (.iadd, 1) := by decide +kernel
theorem dX12_drops_9 : decode cX12_drops 9 = .ok (.iaload, 1) := by decide +kernel
theorem dX12_drops_10 : decode cX12_drops 10 = .ok (.istore 5, 2) := by decide +kernel
theorem dX12_drops_12 : decode cX12_drops 12 = .ok (.iload_n 3, 1) := by decide +kernel
theorem dX12_drops_13 : decode cX12_drops 13 = .ok (.iconst 2, 1) := by decide +kernel
theorem dX12_drops_14 : decode cX12_drops 14 = .ok (.irem, 1) := by decide +kernel
theorem dX12_drops_15 : decode cX12_drops 15 = .ok (.ifCond .ne 7, 3) := by decide +kernel
theorem dX12_drops_18 : decode cX12_drops 18 = .ok (.iconst 1, 1) := by decide +kernel
theorem dX12_drops_19 : decode cX12_drops 19 = .ok (.goto 4, 3) := by decide +kernel
theorem dX12_drops_22 : decode cX12_drops 22 = .ok (.iconst 0, 1) := by decide +kernel
theorem dX12_drops_23 : decode cX12_drops 23 = .ok (.istore 6, 2) := by decide +kernel
theorem dX12_drops_25 : decode cX12_drops 25 = .ok (.iconst 0, 1) := by decide +kernel
theorem dX12_drops_26 : decode cX12_drops 26 = .ok (.istore 7, 2) := by decide +kernel
theorem dX12_drops_28 : decode cX12_drops 28 = .ok (.iload 7, 2) := by decide +kernel
theorem dX12_drops_30 : decode cX12_drops 30 = .ok (.bipush 12, 2) := by decide +kernel
theorem dX12_drops_32 : decode cX12_drops 32 = .ok (.if_icmp .ge 164, 3) := by decide +kernel
theorem dX12_drops_35 : decode cX12_drops 35 = .ok (.bipush 13, 2) := by decide +kernel
theorem dX12_drops_37 : decode cX12_drops 37 = .ok (.iload 7, 2) := by decide +kernel
theorem dX12_drops_39 : decode cX12_drops 39 = .ok (.imul, 1) := by decide +kernel
theorem dX12_drops_40 : decode cX12_drops 40 = .ok (.iload 5, 2) := by decide +kernel
theorem dX12_drops_42 : decode cX12_drops 42 = .ok (.iadd, 1) := by decide +kernel
theorem dX12_drops_43 : decode cX12_drops 43 = .ok (.istore 8, 2) := by decide +kernel
theorem dX12_drops_45 : decode cX12_drops 45 = .ok (.aload_n 0, 1) := by decide +kernel
theorem dX12_drops_46 : decode cX12_drops 46 = .ok (.getfield 86, 3) := by decide +kernel
theorem dX12_drops_49 : decode cX12_drops 49 = .ok (.sipush 156, 3) := by decide +kernel
theorem dX12_drops_52 : decode cX12_drops 52 = .ok (.iload_n 1, 1) := by decide +kernel
theorem dX12_drops_53 : decode cX12_drops 53 = .ok (.imul, 1) := by decide +kernel
theorem dX12_drops_54 : decode cX12_drops 54 = .ok (.iload 8, 2) := by decide +kernel
theorem dX12_drops_56 : decode cX12_drops 56 = .ok (.iadd, 1) := by decide +kernel
theorem dX12_drops_57 : decode cX12_drops 57 = .ok (.iaload, 1) := by decide +kernel
theorem dX12_drops_58 : decode cX12_drops 58 = .ok (.istore 9, 2) := by decide +kernel
theorem dX12_drops_60 : decode cX12_drops 60 = .ok (.iload 9, 2) := by decide +kernel
theorem dX12_drops_62 : decode cX12_drops 62 = .ok (.iconst 5, 1) := by decide +kernel
theorem dX12_drops_63 : decode cX12_drops 63 = .ok (.if_icmp .eq 10, 3) := by decide +kernel
theorem dX12_drops_66 : decode cX12_drops 66 = .ok (.iload 9, 2) := by decide +kernel
theorem dX12_drops_68 : decode cX12_drops 68 = .ok (.bipush 8, 2) := by decide +kernel
theorem dX12_drops_70 : decode cX12_drops 70 = .ok (.if_icmp .ne 25, 3) := by decide +kernel
theorem dX12_drops_73 : decode cX12_drops 73 = .ok (.bipush 16, 2) := by decide +kernel
theorem dX12_drops_75 : decode cX12_drops 75 = .ok (.iload 7, 2) := by decide +kernel
theorem dX12_drops_77 : decode cX12_drops 77 = .ok (.imul, 1) := by decide +kernel
theorem dX12_drops_78 : decode cX12_drops 78 = .ok (.iload 9, 2) := by decide +kernel
theorem dX12_drops_80 : decode cX12_drops 80 = .ok (.iconst 5, 1) := by decide +kernel
theorem dX12_drops_81 : decode cX12_drops 81 = .ok (.if_icmp .ne 9, 3) := by decide +kernel
theorem dX12_drops_84 : decode cX12_drops 84 = .ok (.sipush 256, 3) := by decide +kernel
theorem dX12_drops_87 : decode cX12_drops 87 = .ok (.goto 6, 3) := by decide +kernel
theorem dX12_drops_90 : decode cX12_drops 90 = .ok (.sipush 512, 3) := by decide +kernel
theorem dX12_drops_93 : decode cX12_drops 93 = .ok (.iadd, 1) := by decide +kernel
theorem dX12_drops_94 : decode cX12_drops 94 = .ok (.ireturn, 1) := by decide +kernel
theorem dX12_drops_95 : decode cX12_drops 95 = .ok (.aload_n 0, 1) := by decide +kernel
theorem dX12_drops_96 : decode cX12_drops 96 = .ok (.iload_n 1, 1) := by decide +kernel
theorem dX12_drops_97 : decode cX12_drops 97 = .ok (.iload_n 2, 1) := by decide +kernel
theorem dX12_drops_98 : decode cX12_drops 98 = .ok (.iload 8, 2) := by decide +kernel
theorem dX12_drops_100 : decode cX12_drops 100 = .ok (.aload_n 0, 1) := by decide +kernel
theorem dX12_drops_101 : decode cX12_drops 101 = .ok (.getfield 101, 3) := by decide +kernel
theorem dX12_drops_104 : decode cX12_drops 104 = .ok (.iconst 4, 1) := by decide +kernel
theorem dX12_drops_105 : decode cX12_drops 105 = .ok (.iload_n 1, 1) := by decide +kernel
theorem dX12_drops_106 : decode cX12_drops 106 = .ok (.imul, 1) := by decide +kernel
theorem dX12_drops_107 : decode cX12_drops 107 = .ok (.iload_n 3, 1) := by decide +kernel
theorem dX12_drops_108 : decode cX12_drops 108 = .ok (.iadd, 1) := by decide +kernel
theorem dX12_drops_109 : decode cX12_drops 109 = .ok (.iaload, 1) := by decide +kernel
theorem dX12_drops_110 : decode cX12_drops 110 = .ok (.iload 6, 2) := by decide +kernel
theorem dX12_drops_112 : decode cX12_drops 112 = .ok (.iload 4, 2) := by decide +kernel
theorem dX12_drops_114 : decode cX12_drops 114 = .ok (.invokevirtual 302, 3) := by decide +kernel
theorem dX12_drops_117 : decode cX12_drops 117 = .ok (.istore 10, 2) := by decide +kernel
theorem dX12_drops_119 : decode cX12_drops 119 = .ok (.iload 5, 2) := by decide +kernel
theorem dX12_drops_121 : decode cX12_drops 121 = .ok (.iload 10, 2) := by decide +kernel
theorem dX12_drops_123 : decode cX12_drops 123 = .ok (.iconst 2, 1) := by decide +kernel
theorem dX12_drops_124 : decode cX12_drops 124 = .ok (.if_icmp .ne 7, 3) := by decide +kernel
theorem dX12_drops_127 : decode cX12_drops 127 = .ok (.iconst 0, 1) := by decide +kernel
theorem dX12_drops_128 : decode cX12_drops 128 = .ok (.goto 13, 3) := by decide +kernel
theorem dX12_drops_131 : decode cX12_drops 131 = .ok (.iload 10, 2) := by decide +kernel
theorem dX12_drops_133 : decode cX12_drops 133 = .ok (.ifCond .ne 7, 3) := by decide +kernel
theorem dX12_drops_136 : decode cX12_drops 136 = .ok (.iconst (-1), 1) := by decide +kernel
theorem dX12_drops_137 : decode cX12_drops 137 = .ok (.goto 4, 3) := by decide +kernel
theorem dX12_drops_140 : decode cX12_drops 140 = .ok (.iconst 1, 1) := by decide +kernel
theorem dX12_drops_141 : decode cX12_drops 141 = .ok (.iadd, 1) := by decide +kernel
theorem dX12_drops_142 : decode cX12_drops 142 = .ok (.istore 5, 2) := by decide +kernel
theorem dX12_drops_144 : decode cX12_drops 144 = .ok (.iload 10, 2) := by decide +kernel
theorem dX12_drops_146 : decode cX12_drops 146 = .ok (.iconst 2, 1) := by decide +kernel
theorem dX12_drops_147 : decode cX12_drops 147 = .ok (.if_icmp .ne 8, 3) := by decide +kernel
theorem dX12_drops_150 : decode cX12_drops 150 = .ok (.iload 6, 2) := by decide +kernel
theorem dX12_drops_152 : decode cX12_drops 152 = .ok (.goto 14, 3) := by decide +kernel
theorem dX12_drops_155 : decode cX12_drops 155 = .ok (.iload 10, 2) := by decide +kernel
theorem dX12_drops_157 : decode cX12_drops 157 = .ok (.iconst 1, 1) := by decide +kernel
theorem dX12_drops_158 : decode cX12_drops 158 = .ok (.if_icmp .ne 7, 3) := by decide +kernel
theorem dX12_drops_161 : decode cX12_drops 161 = .ok (.iconst 1, 1) := by decide +kernel
theorem dX12_drops_162 : decode cX12_drops 162 = .ok (.goto 4, 3) := by decide +kernel
theorem dX12_drops_165 : decode cX12_drops 165 = .ok (.iconst 0, 1) := by decide +kernel
theorem dX12_drops_166 : decode cX12_drops 166 = .ok (.istore 6, 2) := by decide +kernel
theorem dX12_drops_168 : decode cX12_drops 168 = .ok (.iload 5, 2) := by decide +kernel
theorem dX12_drops_170 : decode cX12_drops 170 = .ok (.ifCond .lt 10, 3) := by decide +kernel
theorem dX12_drops_173 : decode cX12_drops 173 = .ok (.iload 5, 2) := by decide +kernel
theorem dX12_drops_175 : decode cX12_drops 175 = .ok (.bipush 13, 2) := by decide +kernel
theorem dX12_drops_177 : decode cX12_drops 177 = .ok (.if_icmp .lt 13, 3) := by decide +kernel
theorem dX12_drops_180 : decode cX12_drops 180 = .ok (.bipush 16, 2) := by decide +kernel
theorem dX12_drops_182 : decode cX12_drops 182 = .ok (.iload 7, 2) := by decide +kernel
theorem dX12_drops_184 : decode cX12_drops 184 = .ok (.imul, 1) := by decide +kernel
theorem dX12_drops_185 : decode cX12_drops 185 = .ok (.sipush 768, 3) := by decide +kernel
theorem dX12_drops_188 : decode cX12_drops 188 = .ok (.iadd, 1) := by decide +kernel
theorem dX12_drops_189 : decode cX12_drops 189 = .ok (.ireturn, 1) := by decide +kernel
theorem dX12_drops_190 : decode cX12_drops 190 = .ok (.iinc 7 1, 3) := by decide +kernel
theorem dX12_drops_193 : decode cX12_drops 193 = .ok (.goto (-165), 3) := by decide +kernel
theorem dX12_drops_196 : decode cX12_drops 196 = .ok (.iload 5, 2) := by decide +kernel
theorem dX12_drops_198 : decode cX12_drops 198 = .ok (.ireturn, 1) := by decide +kernel
theorem dX12_isHopper_0 : decode cX12_isHopper 0 = .ok (.iload_n 0, 1) := by decide +kernel
theorem dX12_isHopper_1 : decode cX12_isHopper 1 = .ok (.ifCond .lt 12, 3) := by decide +kernel
theorem dX12_isHopper_4 : decode cX12_isHopper 4 = .ok (.iload_n 0, 1) := by decide +kernel
theorem dX12_isHopper_5 : decode cX12_isHopper 5 = .ok (.iconst 4, 1) := by decide +kernel
theorem dX12_isHopper_6 : decode cX12_isHopper 6 = .ok (.if_icmp .ge 7, 3) := by decide +kernel
theorem dX12_isHopper_9 : decode cX12_isHopper 9 = .ok (.iconst 1, 1) := by decide +kernel
theorem dX12_isHopper_10 : decode cX12_isHopper 10 = .ok (.goto 4, 3) := by decide +kernel
theorem dX12_isHopper_13 : decode cX12_isHopper 13 = .ok (.iconst 0, 1) := by decide +kernel
theorem dX12_isHopper_14 : decode cX12_isHopper 14 = .ok (.ireturn, 1) := by decide +kernel
theorem dX12_run_0 : decode cX12_run 0 = .ok (.aload_n 0, 1) := by decide +kernel
theorem dX12_run_1 : decode cX12_run 1 = .ok (.iconst 0, 1) := by decide +kernel
theorem dX12_run_2 : decode cX12_run 2 = .ok (.putfield 1, 3) := by decide +kernel
theorem dX12_run_5 : decode cX12_run 5 = .ok (.iload_n 1, 1) := by decide +kernel
theorem dX12_run_6 : decode cX12_run 6 = .ok (.invokestatic 306, 3) := by decide +kernel
theorem dX12_run_9 : decode cX12_run 9 = .ok (.ifCond .eq 15, 3) := by decide +kernel
theorem dX12_run_12 : decode cX12_run 12 = .ok (.iload_n 2, 1) := by decide +kernel
theorem dX12_run_13 : decode cX12_run 13 = .ok (.iconst 1, 1) := by decide +kernel
theorem dX12_run_14 : decode cX12_run 14 = .ok (.if_icmp .lt 10, 3) := by decide +kernel
theorem dX12_run_17 : decode cX12_run 17 = .ok (.iload_n 2, 1) := by decide +kernel
theorem dX12_run_18 : decode cX12_run 18 = .ok (.sipush 200, 3) := by decide +kernel
theorem dX12_run_21 : decode cX12_run 21 = .ok (.if_icmp .le 5, 3) := by decide +kernel
theorem dX12_run_24 : decode cX12_run 24 = .ok (.iconst (-1), 1) := by decide +kernel
theorem dX12_run_25 : decode cX12_run 25 = .ok (.ireturn, 1) := by decide +kernel
theorem dX12_run_26 : decode cX12_run 26 = .ok (.aload_n 0, 1) := by decide +kernel
theorem dX12_run_27 : decode cX12_run 27 = .ok (.iconst 0, 1) := by decide +kernel
theorem dX12_run_28 : decode cX12_run 28 = .ok (.iconst 0, 1) := by decide +kernel
theorem dX12_run_29 : decode cX12_run 29 = .ok (.invokevirtual 309, 3) := by decide +kernel
theorem dX12_run_32 : decode cX12_run 32 = .ok (.iload_n 1, 1) := by decide +kernel
theorem dX12_run_33 : decode cX12_run 33 = .ok (.istore_n 3, 1) := by decide +kernel
theorem dX12_run_34 : decode cX12_run 34 = .ok (.iconst 0, 1) := by decide +kernel
theorem dX12_run_35 : decode cX12_run 35 = .ok (.istore 4, 2) := by decide +kernel
theorem dX12_run_37 : decode cX12_run 37 = .ok (.iload 4, 2) := by decide +kernel
theorem dX12_run_39 : decode cX12_run 39 = .ok (.iload_n 2, 1) := by decide +kernel
theorem dX12_run_40 : decode cX12_run 40 = .ok (.if_icmp .ge 116, 3) := by decide +kernel
theorem dX12_run_43 : decode cX12_run 43 = .ok (.aload_n 0, 1) := by decide +kernel
theorem dX12_run_44 : decode cX12_run 44 = .ok (.getfield 104, 3) := by decide +kernel
theorem dX12_run_47 : decode cX12_run 47 = .ok (.iload_n 3, 1) := by decide +kernel
theorem dX12_run_48 : decode cX12_run 48 = .ok (.iaload, 1) := by decide +kernel
theorem dX12_run_49 : decode cX12_run 49 = .ok (.ifCond .ne 5, 3) := by decide +kernel
theorem dX12_run_52 : decode cX12_run 52 = .ok (.iconst 5, 1) := by decide +kernel
theorem dX12_run_53 : decode cX12_run 53 = .ok (.ireturn, 1) := by decide +kernel
theorem dX12_run_54 : decode cX12_run 54 = .ok (.aload_n 0, 1) := by decide +kernel
theorem dX12_run_55 : decode cX12_run 55 = .ok (.getfield 104, 3) := by decide +kernel
theorem dX12_run_58 : decode cX12_run 58 = .ok (.iload_n 3, 1) := by decide +kernel
theorem dX12_run_59 : decode cX12_run 59 = .ok (.dup2, 1) := by decide +kernel
theorem dX12_run_60 : decode cX12_run 60 = .ok (.iaload, 1) := by decide +kernel
theorem dX12_run_61 : decode cX12_run 61 = .ok (.iconst 1, 1) := by decide +kernel
theorem dX12_run_62 : decode cX12_run 62 = .ok (.isub, 1) := by decide +kernel
theorem dX12_run_63 : decode cX12_run 63 = .ok (.iastore, 1) := by decide +kernel
theorem dX12_run_64 : decode cX12_run 64 = .ok (.aload_n 0, 1) := by decide +kernel
theorem dX12_run_65 : decode cX12_run 65 = .ok (.iconst 0, 1) := by decide +kernel
theorem dX12_run_66 : decode cX12_run 66 = .ok (.iconst 0, 1) := by decide +kernel
theorem dX12_run_67 : decode cX12_run 67 = .ok (.iload_n 3, 1) := by decide +kernel
theorem dX12_run_68 : decode cX12_run 68 = .ok (.bipush (-2), 2) := by decide +kernel
theorem dX12_run_70 : decode cX12_run 70 = .ok (.invokevirtual 312, 3) := by decide +kernel
theorem dX12_run_73 : decode cX12_run 73 = .ok (.istore 5, 2) := by decide +kernel
theorem dX12_run_75 : decode cX12_run 75 = .ok (.aload_n 0, 1) := by decide +kernel
theorem dX12_run_76 : decode cX12_run 76 = .ok (.getfield 113, 3) := by decide +kernel
theorem dX12_run_79 : decode cX12_run 79 = .ok (.aload_n 0, 1) := by decide +kernel
theorem dX12_run_80 : decode cX12_run 80 = .ok (.getfield 316, 3) := by decide +kernel
theorem dX12_run_83 : decode cX12_run 83 = .ok (.bipush 100, 2) := by decide +kernel
theorem dX12_run_85 : decode cX12_run 85 = .ok (.irem, 1) := by decide +kernel
theorem dX12_run_86 : decode cX12_run 86 = .ok (.iload_n 3, 1) := by decide +kernel
theorem dX12_run_87 : decode cX12_run 87 = .ok (.iconst 4, 1) := by decide +kernel
theorem dX12_run_88 : decode cX12_run 88 = .ok (.iload 5, 2) := by decide +kernel
theorem dX12_run_90 : decode cX12_run 90 = .ok (.imul, 1) := by decide +kernel
theorem dX12_run_91 : decode cX12_run 91 = .ok (.iadd, 1) := by decide +kernel
theorem dX12_run_92 : decode cX12_run 92 = .ok (.iastore, 1) := by decide +kernel
theorem dX12_run_93 : decode cX12_run 93 = .ok (.aload_n 0, 1) := by decide +kernel
theorem dX12_run_94 : decode cX12_run 94 = .ok (.dup, 1) := by decide +kernel
theorem dX12_run_95 : decode cX12_run 95 = .ok (.getfield 316, 3) := by decide +kernel
theorem dX12_run_98 : decode cX12_run 98 = .ok (.iconst 1, 1) := by decide +kernel
theorem dX12_run_99 : decode cX12_run 99 = .ok (.iadd, 1) := by decide +kernel
theorem dX12_run_100 : decode cX12_run 100 = .ok (.putfield 316, 3) := by decide +kernel
theorem dX12_run_103 : decode cX12_run 103 = .ok (.aload_n 0, 1) := by decide +kernel
theorem dX12_run_104 : decode cX12_run 104 = .ok (.dup, 1) := by decide +kernel
theorem dX12_run_105 : decode cX12_run 105 = .ok (.getfield 319, 3) := by decide +kernel
theorem dX12_run_108 : decode cX12_run 108 = .ok (.iconst 1, 1) := by decide +kernel
theorem dX12_run_109 : decode cX12_run 109 = .ok (.iadd, 1) := by decide +kernel
theorem dX12_run_110 : decode cX12_run 110 = .ok (.putfield 319, 3) := by decide +kernel
theorem dX12_run_113 : decode cX12_run 113 = .ok (.iload 5, 2) := by decide +kernel
theorem dX12_run_115 : decode cX12_run 115 = .ok (.sipush 256, 3) := by decide +kernel
theorem dX12_run_118 : decode cX12_run 118 = .ok (.if_icmp .lt 12, 3) := by decide +kernel
theorem dX12_run_121 : decode cX12_run 121 = .ok (.iconst 1, 1) := by decide +kernel
theorem dX12_run_122 : decode cX12_run 122 = .ok (.iload 5, 2) := by decide +kernel
theorem dX12_run_124 : decode cX12_run 124 = .ok (.sipush 256, 3) := by decide +kernel
theorem dX12_run_127 : decode cX12_run 127 = .ok (.idiv, 1) := by decide +kernel
theorem dX12_run_128 : decode cX12_run 128 = .ok (.iadd, 1) := by decide +kernel
theorem dX12_run_129 : decode cX12_run 129 = .ok (.ireturn, 1) := by decide +kernel
theorem dX12_run_130 : decode cX12_run 130 = .ok (.aload_n 0, 1) := by decide +kernel
theorem dX12_run_131 : decode cX12_run 131 = .ok (.getfield 95, 3) := by decide +kernel
theorem dX12_run_134 : decode cX12_run 134 = .ok (.iload 5, 2) := by decide +kernel
theorem dX12_run_136 : decode cX12_run 136 = .ok (.iaload, 1) := by decide +kernel
theorem dX12_run_137 : decode cX12_run 137 = .ok (.ifCond .ge 5, 3) := by decide +kernel
theorem dX12_run_140 : decode cX12_run 140 = .ok (.iconst 1, 1) := by decide +kernel
theorem dX12_run_141 : decode cX12_run 141 = .ok (.ireturn, 1) := by decide +kernel
theorem dX12_run_142 : decode cX12_run 142 = .ok (.aload_n 0, 1) := by decide +kernel
theorem dX12_run_143 : decode cX12_run 143 = .ok (.getfield 95, 3) := by decide +kernel
theorem dX12_run_146 : decode cX12_run 146 = .ok (.iload 5, 2) := by decide +kernel
theorem dX12_run_148 : decode cX12_run 148 = .ok (.iaload, 1) := by decide +kernel
theorem dX12_run_149 : decode cX12_run 149 = .ok (.istore_n 3, 1) := by decide +kernel
theorem dX12_run_150 : decode cX12_run 150 = .ok (.iinc 4 1, 3) := by decide +kernel
theorem dX12_run_153 : decode cX12_run 153 = .ok (.goto (-116), 3) := by decide +kernel
theorem dX12_run_156 : decode cX12_run 156 = .ok (.iconst 0, 1) := by decide +kernel
theorem dX12_run_157 : decode cX12_run 157 = .ok (.ireturn, 1) := by decide +kernel
theorem dX12_logged_0 : decode cX12_logged 0 = .ok (.aload_n 0, 1) := by decide +kernel
theorem dX12_logged_1 : decode cX12_logged 1 = .ok (.iconst 0, 1) := by decide +kernel
theorem dX12_logged_2 : decode cX12_logged 2 = .ok (.putfield 1, 3) := by decide +kernel
theorem dX12_logged_5 : decode cX12_logged 5 = .ok (.iload_n 1, 1) := by decide +kernel
theorem dX12_logged_6 : decode cX12_logged 6 = .ok (.ifCond .lt 17, 3) := by decide +kernel
theorem dX12_logged_9 : decode cX12_logged 9 = .ok (.iload_n 1, 1) := by decide +kernel
theorem dX12_logged_10 : decode cX12_logged 10 = .ok (.bipush 100, 2) := by decide +kernel
theorem dX12_logged_12 : decode cX12_logged 12 = .ok (.if_icmp .ge 11, 3) := by decide +kernel
theorem dX12_logged_15 : decode cX12_logged 15 = .ok (.iload_n 1, 1) := by decide +kernel
theorem dX12_logged_16 : decode cX12_logged 16 = .ok (.aload_n 0, 1) := by decide +kernel
theorem dX12_logged_17 : decode cX12_logged 17 = .ok (.getfield 316, 3) := by decide +kernel
theorem dX12_logged_20 : decode cX12_logged 20 = .ok (.if_icmp .lt 7, 3) := by decide +kernel
theorem dX12_logged_23 : decode cX12_logged 23 = .ok (.iconst (-1), 1) := by decide +kernel
theorem dX12_logged_24 : decode cX12_logged 24 = .ok (.goto 19, 3) := by decide +kernel
theorem dX12_logged_27 : decode cX12_logged 27 = .ok (.aload_n 0, 1) := by decide +kernel
theorem dX12_logged_28 : decode cX12_logged 28 = .ok (.getfield 113, 3) := by decide +kernel
theorem dX12_logged_31 : decode cX12_logged 31 = .ok (.aload_n 0, 1) := by decide +kernel
theorem dX12_logged_32 : decode cX12_logged 32 = .ok (.getfield 316, 3) := by decide +kernel
theorem dX12_logged_35 : decode cX12_logged 35 = .ok (.iconst 1, 1) := by decide +kernel
theorem dX12_logged_36 : decode cX12_logged 36 = .ok (.isub, 1) := by decide +kernel
theorem dX12_logged_37 : decode cX12_logged 37 = .ok (.iload_n 1, 1) := by decide +kernel
theorem dX12_logged_38 : decode cX12_logged 38 = .ok (.isub, 1) := by decide +kernel
theorem dX12_logged_39 : decode cX12_logged 39 = .ok (.bipush 100, 2) := by decide +kernel
theorem dX12_logged_41 : decode cX12_logged 41 = .ok (.irem, 1) := by decide +kernel
theorem dX12_logged_42 : decode cX12_logged 42 = .ok (.iaload, 1) := by decide +kernel
theorem dX12_logged_43 : decode cX12_logged 43 = .ok (.ireturn, 1) := by decide +kernel
theorem dX12_code_0 : decode cX12_code 0 = .ok (.lconst 0, 1) := by decide +kernel
theorem dX12_code_1 : decode cX12_code 1 = .ok (.lstore_n 2, 1) := by decide +kernel
theorem dX12_code_2 : decode cX12_code 2 = .ok (.sipush 156, 3) := by decide +kernel
theorem dX12_code_5 : decode cX12_code 5 = .ok (.iload_n 1, 1) := by decide +kernel
theorem dX12_code_6 : decode cX12_code 6 = .ok (.imul, 1) := by decide +kernel
theorem dX12_code_7 : decode cX12_code 7 = .ok (.istore 4, 2) := by decide +kernel
theorem dX12_code_9 : decode cX12_code 9 = .ok (.iload 4, 2) := by decide +kernel
theorem dX12_code_11 : decode cX12_code 11 = .ok (.sipush 156, 3) := by decide +kernel
theorem dX12_code_14 : decode cX12_code 14 = .ok (.iload_n 1, 1) := by decide +kernel
theorem dX12_code_15 : decode cX12_code 15 = .ok (.imul, 1) := by decide +kernel
theorem dX12_code_16 : decode cX12_code 16 = .ok (.sipush 156, 3) := by decide +kernel
theorem dX12_code_19 : decode cX12_code 19 = .ok (.iadd, 1) := by decide +kernel
theorem dX12_code_20 : decode cX12_code 20 = .ok (.if_icmp .ge 35, 3) := by decide +kernel
theorem dX12_code_23 : decode cX12_code 23 = .ok (.aload_n 0, 1) := by decide +kernel
theorem dX12_code_24 : decode cX12_code 24 = .ok (.getfield 86, 3) := by decide +kernel
theorem dX12_code_27 : decode cX12_code 27 = .ok (.iload 4, 2) := by decide +kernel
theorem dX12_code_29 : decode cX12_code 29 = .ok (.iaload, 1) := by decide +kernel
theorem dX12_code_30 : decode cX12_code 30 = .ok (.invokestatic 250, 3) := by decide +kernel
theorem dX12_code_33 : decode cX12_code 33 = .ok (.ifCond .eq 16, 3) := by decide +kernel
theorem dX12_code_36 : decode cX12_code 36 = .ok (.lload_n 2, 1) := by decide +kernel
theorem dX12_code_37 : decode cX12_code 37 = .ok (.iconst 4, 1) := by decide +kernel
theorem dX12_code_38 : decode cX12_code 38 = .ok (.lshl, 1) := by decide +kernel
theorem dX12_code_39 : decode cX12_code 39 = .ok (.aload_n 0, 1) := by decide +kernel
theorem dX12_code_40 : decode cX12_code 40 = .ok (.getfield 92, 3) := by decide +kernel
theorem dX12_code_43 : decode cX12_code 43 = .ok (.iload 4, 2) := by decide +kernel
theorem dX12_code_45 : decode cX12_code 45 = .ok (.iaload, 1) := by decide +kernel
theorem dX12_code_46 : decode cX12_code 46 = .ok (.i2l, 1) := by decide +kernel
theorem dX12_code_47 : decode cX12_code 47 = .ok (.lor, 1) := by decide +kernel
theorem dX12_code_48 : decode cX12_code 48 = .ok (.lstore_n 2, 1) := by decide +kernel
theorem dX12_code_49 : decode cX12_code 49 = .ok (.iinc 4 1, 3) := by decide +kernel
theorem dX12_code_52 : decode cX12_code 52 = .ok (.goto (-43), 3) := by decide +kernel
theorem dX12_code_55 : decode cX12_code 55 = .ok (.lload_n 2, 1) := by decide +kernel
theorem dX12_code_56 : decode cX12_code 56 = .ok (.lreturn, 1) := by decide +kernel
theorem dX12_uncode_0 : decode cX12_uncode 0 = .ok (.lload_n 2, 1) := by decide +kernel
theorem dX12_uncode_1 : decode cX12_uncode 1 = .ok (.lstore 4, 2) := by decide +kernel
theorem dX12_uncode_3 : decode cX12_uncode 3 = .ok (.sipush 156, 3) := by decide +kernel
theorem dX12_uncode_6 : decode cX12_uncode 6 = .ok (.iload_n 1, 1) := by decide +kernel
theorem dX12_uncode_7 : decode cX12_uncode 7 = .ok (.imul, 1) := by decide +kernel
theorem dX12_uncode_8 : decode cX12_uncode 8 = .ok (.sipush 156, 3) := by decide +kernel
theorem dX12_uncode_11 : decode cX12_uncode 11 = .ok (.iadd, 1) := by decide +kernel
theorem dX12_uncode_12 : decode cX12_uncode 12 = .ok (.iconst 1, 1) := by decide +kernel
theorem dX12_uncode_13 : decode cX12_uncode 13 = .ok (.isub, 1) := by decide +kernel
theorem dX12_uncode_14 : decode cX12_uncode 14 = .ok (.istore 6, 2) := by decide +kernel
theorem dX12_uncode_16 : decode cX12_uncode 16 = .ok (.iload 6, 2) := by decide +kernel
theorem dX12_uncode_18 : decode cX12_uncode 18 = .ok (.sipush 156, 3) := by decide +kernel
theorem dX12_uncode_21 : decode cX12_uncode 21 = .ok (.iload_n 1, 1) := by decide +kernel
theorem dX12_uncode_22 : decode cX12_uncode 22 = .ok (.imul, 1) := by decide +kernel
theorem dX12_uncode_23 : decode cX12_uncode 23 = .ok (.if_icmp .lt 42, 3) := by decide +kernel
theorem dX12_uncode_26 : decode cX12_uncode 26 = .ok (.aload_n 0, 1) := by decide +kernel
theorem dX12_uncode_27 : decode cX12_uncode 27 = .ok (.getfield 86, 3) := by decide +kernel
theorem dX12_uncode_30 : decode cX12_uncode 30 = .ok (.iload 6, 2) := by decide +kernel
theorem dX12_uncode_32 : decode cX12_uncode 32 = .ok (.iaload, 1) := by decide +kernel
theorem dX12_uncode_33 : decode cX12_uncode 33 = .ok (.invokestatic 250, 3) := by decide +kernel
theorem dX12_uncode_36 : decode cX12_uncode 36 = .ok (.ifCond .eq 23, 3) := by decide +kernel
theorem dX12_uncode_39 : decode cX12_uncode 39 = .ok (.aload_n 0, 1) := by decide +kernel
theorem dX12_uncode_40 : decode cX12_uncode 40 = .ok (.getfield 92, 3) := by decide +kernel
theorem dX12_uncode_43 : decode cX12_uncode 43 = .ok (.iload 6, 2) := by decide +kernel
theorem dX12_uncode_45 : decode cX12_uncode 45 = .ok (.lload 4, 2) := by decide +kernel
theorem dX12_uncode_47 : decode cX12_uncode 47 = .ok (.ldc2_w 322, 3) := by decide +kernel
theorem dX12_uncode_50 : decode cX12_uncode 50 = .ok (.land, 1) := by decide +kernel
theorem dX12_uncode_51 : decode cX12_uncode 51 = .ok (.l2i, 1) := by decide +kernel
theorem dX12_uncode_52 : decode cX12_uncode 52 = .ok (.iastore, 1) := by decide +kernel
theorem dX12_uncode_53 : decode cX12_uncode 53 = .ok (.lload 4, 2) := by decide +kernel
theorem dX12_uncode_55 : decode cX12_uncode 55 = .ok (.iconst 4, 1) := by decide +kernel
theorem dX12_uncode_56 : decode cX12_uncode 56 = .ok (.lushr, 1) := by decide +kernel
theorem dX12_uncode_57 : decode cX12_uncode 57 = .ok (.lstore 4, 2) := by decide +kernel
theorem dX12_uncode_59 : decode cX12_uncode 59 = .ok (.iinc 6 (-1), 3) := by decide +kernel
theorem dX12_uncode_62 : decode cX12_uncode 62 = .ok (.goto (-46), 3) := by decide +kernel
theorem dX12_uncode_65 : decode cX12_uncode 65 = .ok (.return_, 1) := by decide +kernel
theorem dX12_begins_0 : decode cX12_begins 0 = .ok (.aload_n 0, 1) := by decide +kernel
theorem dX12_begins_1 : decode cX12_begins 1 = .ok (.iconst 0, 1) := by decide +kernel
theorem dX12_begins_2 : decode cX12_begins 2 = .ok (.putfield 324, 3) := by decide +kernel
theorem dX12_begins_5 : decode cX12_begins 5 = .ok (.iconst 0, 1) := by decide +kernel
theorem dX12_begins_6 : decode cX12_begins 6 = .ok (.istore_n 1, 1) := by decide +kernel
theorem dX12_begins_7 : decode cX12_begins 7 = .ok (.iload_n 1, 1) := by decide +kernel
theorem dX12_begins_8 : decode cX12_begins 8 = .ok (.sipush 8192, 3) := by decide +kernel
theorem dX12_begins_11 : decode cX12_begins 11 = .ok (.if_icmp .ge 16, 3) := by decide +kernel
theorem dX12_begins_14 : decode cX12_begins 14 = .ok (.aload_n 0, 1) := by decide +kernel
theorem dX12_begins_15 : decode cX12_begins 15 = .ok (.getfield 128, 3) := by decide +kernel
theorem dX12_begins_18 : decode cX12_begins 18 = .ok (.iload_n 1, 1) := by decide +kernel
theorem dX12_begins_19 : decode cX12_begins 19 = .ok (.iconst 0, 1) := by decide +kernel
theorem dX12_begins_20 : decode cX12_begins 20 = .ok (.iastore, 1) := by decide +kernel
theorem dX12_begins_21 : decode cX12_begins 21 = .ok (.iinc 1 1, 3) := by decide +kernel
theorem dX12_begins_24 : decode cX12_begins 24 = .ok (.goto (-17), 3) := by decide +kernel
theorem dX12_begins_27 : decode cX12_begins 27 = .ok (.return_, 1) := by decide +kernel
theorem dX12_placeIn_0 : decode cX12_placeIn 0 = .ok (.lload_n 1, 1) := by decide +kernel
theorem dX12_placeIn_1 : decode cX12_placeIn 1 = .ok (.ldc2_w 327, 3) := by decide +kernel
theorem dX12_placeIn_4 : decode cX12_placeIn 4 = .ok (.lmul, 1) := by decide +kernel
theorem dX12_placeIn_5 : decode cX12_placeIn 5 = .ok (.lload_n 3, 1) := by decide +kernel
theorem dX12_placeIn_6 : decode cX12_placeIn 6 = .ok (.ladd, 1) := by decide +kernel
theorem dX12_placeIn_7 : decode cX12_placeIn 7 = .ok (.ldc2_w 329, 3) := by decide +kernel
theorem dX12_placeIn_10 : decode cX12_placeIn 10 = .ok (.lmul, 1) := by decide +kernel
theorem dX12_placeIn_11 : decode cX12_placeIn 11 = .ok (.lstore 5, 2) := by decide +kernel
theorem dX12_placeIn_13 : decode cX12_placeIn 13 = .ok (.lload 5, 2) := by decide +kernel
theorem dX12_placeIn_15 : decode cX12_placeIn 15 = .ok (.bipush 20, 2) := by decide +kernel
theorem dX12_placeIn_17 : decode cX12_placeIn 17 = .ok (.lushr, 1) := by decide +kernel
theorem dX12_placeIn_18 : decode cX12_placeIn 18 = .ok (.ldc2_w 331, 3) := by decide +kernel
theorem dX12_placeIn_21 : decode cX12_placeIn 21 = .ok (.land, 1) := by decide +kernel
theorem dX12_placeIn_22 : decode cX12_placeIn 22 = .ok (.l2i, 1) := by decide +kernel
theorem dX12_placeIn_23 : decode cX12_placeIn 23 = .ok (.istore 7, 2) := by decide +kernel
theorem dX12_placeIn_25 : decode cX12_placeIn 25 = .ok (.aload_n 0, 1) := by decide +kernel
theorem dX12_placeIn_26 : decode cX12_placeIn 26 = .ok (.getfield 128, 3) := by decide +kernel
theorem dX12_placeIn_29 : decode cX12_placeIn 29 = .ok (.iload 7, 2) := by decide +kernel
theorem dX12_placeIn_31 : decode cX12_placeIn 31 = .ok (.iaload, 1) := by decide +kernel
theorem dX12_placeIn_32 : decode cX12_placeIn 32 = .ok (.ifCond .le 54, 3) := by decide +kernel
theorem dX12_placeIn_35 : decode cX12_placeIn 35 = .ok (.aload_n 0, 1) := by decide +kernel
theorem dX12_placeIn_36 : decode cX12_placeIn 36 = .ok (.getfield 116, 3) := by decide +kernel
theorem dX12_placeIn_39 : decode cX12_placeIn 39 = .ok (.aload_n 0, 1) := by decide +kernel
theorem dX12_placeIn_40 : decode cX12_placeIn 40 = .ok (.getfield 128, 3) := by decide +kernel
theorem dX12_placeIn_43 : decode cX12_placeIn 43 = .ok (.iload 7, 2) := by decide +kernel
theorem dX12_placeIn_45 : decode cX12_placeIn 45 = .ok (.iaload, 1) := by decide +kernel
theorem dX12_placeIn_46 : decode cX12_placeIn 46 = .ok (.iconst 1, 1) := by decide +kernel
theorem dX12_placeIn_47 : decode cX12_placeIn 47 = .ok (.isub, 1) := by decide +kernel
theorem dX12_placeIn_48 : decode cX12_placeIn 48 = .ok (.laload, 1) := by decide +kernel
theorem dX12_placeIn_49 : decode cX12_placeIn 49 = .ok (.lload_n 1, 1) := by decide +kernel
theorem dX12_placeIn_50 : decode cX12_placeIn 50 = .ok (.lcmp, 1) := by decide +kernel
theorem dX12_placeIn_51 : decode cX12_placeIn 51 = .ok (.ifCond .ne 22, 3) := by decide +kernel
theorem dX12_placeIn_54 : decode cX12_placeIn 54 = .ok (.aload_n 0, 1) := by decide +kernel
theorem dX12_placeIn_55 : decode cX12_placeIn 55 = .ok (.getfield 119, 3) := by decide +kernel
theorem dX12_placeIn_58 : decode cX12_placeIn 58 = .ok (.aload_n 0, 1) := by decide +kernel
theorem dX12_placeIn_59 : decode cX12_placeIn 59 = .ok (.getfield 128, 3) := by decide +kernel
theorem dX12_placeIn_62 : decode cX12_placeIn 62 = .ok (.iload 7, 2) := by decide +kernel
theorem dX12_placeIn_64 : decode cX12_placeIn 64 = .ok (.iaload, 1) := by decide +kernel
theorem dX12_placeIn_65 : decode cX12_placeIn 65 = .ok (.iconst 1, 1) := by decide +kernel
theorem dX12_placeIn_66 : decode cX12_placeIn 66 = .ok (.isub, 1) := by decide +kernel
theorem dX12_placeIn_67 : decode cX12_placeIn 67 = .ok (.laload, 1) := by decide +kernel
theorem dX12_placeIn_68 : decode cX12_placeIn 68 = .ok (.lload_n 3, 1) := by decide +kernel
theorem dX12_placeIn_69 : decode cX12_placeIn 69 = .ok (.lcmp, 1) := by decide +kernel
theorem dX12_placeIn_70 : decode cX12_placeIn 70 = .ok (.ifCond .eq 16, 3) := by decide +kernel
theorem dX12_placeIn_73 : decode cX12_placeIn 73 = .ok (.iload 7, 2) := by decide +kernel
theorem dX12_placeIn_75 : decode cX12_placeIn 75 = .ok (.iconst 1, 1) := by decide +kernel
theorem dX12_placeIn_76 : decode cX12_placeIn 76 = .ok (.iadd, 1) := by decide +kernel
theorem dX12_placeIn_77 : decode cX12_placeIn 77 = .ok (.sipush 8192, 3) := by decide +kernel
theorem dX12_placeIn_80 : decode cX12_placeIn 80 = .ok (.irem, 1) := by decide +kernel
theorem dX12_placeIn_81 : decode cX12_placeIn 81 = .ok (.istore 7, 2) := by decide +kernel
theorem dX12_placeIn_83 : decode cX12_placeIn 83 = .ok (.goto (-58), 3) := by decide +kernel
theorem dX12_placeIn_86 : decode cX12_placeIn 86 = .ok (.iload 7, 2) := by decide +kernel
theorem dX12_placeIn_88 : decode cX12_placeIn 88 = .ok (.ireturn, 1) := by decide +kernel
theorem dX12_comesUp_0 : decode cX12_comesUp 0 = .ok (.aload_n 0, 1) := by decide +kernel
theorem dX12_comesUp_1 : decode cX12_comesUp 1 = .ok (.lload_n 1, 1) := by decide +kernel
theorem dX12_comesUp_2 : decode cX12_comesUp 2 = .ok (.lload_n 3, 1) := by decide +kernel
theorem dX12_comesUp_3 : decode cX12_comesUp 3 = .ok (.invokevirtual 333, 3) := by decide +kernel
theorem dX12_comesUp_6 : decode cX12_comesUp 6 = .ok (.istore 8, 2) := by decide +kernel
theorem dX12_comesUp_8 : decode cX12_comesUp 8 = .ok (.aload_n 0, 1) := by decide +kernel
theorem dX12_comesUp_9 : decode cX12_comesUp 9 = .ok (.getfield 128, 3) := by decide +kernel
theorem dX12_comesUp_12 : decode cX12_comesUp 12 = .ok (.iload 8, 2) := by decide +kernel
theorem dX12_comesUp_14 : decode cX12_comesUp 14 = .ok (.iaload, 1) := by decide +kernel
theorem dX12_comesUp_15 : decode cX12_comesUp 15 = .ok (.ifCond .le 5, 3) := by decide +kernel
theorem dX12_comesUp_18 : decode cX12_comesUp 18 = .ok (.iconst 1, 1) := by decide +kernel
theorem dX12_comesUp_19 : decode cX12_comesUp 19 = .ok (.ireturn, 1) := by decide +kernel
theorem dX12_comesUp_20 : decode cX12_comesUp 20 = .ok (.aload_n 0, 1) := by decide +kernel
theorem dX12_comesUp_21 : decode cX12_comesUp 21 = .ok (.getfield 324, 3) := by decide +kernel
theorem dX12_comesUp_24 : decode cX12_comesUp 24 = .ok (.iload 7, 2) := by decide +kernel
theorem dX12_comesUp_26 : decode cX12_comesUp 26 = .ok (.if_icmp .ne 5, 3) := by decide +kernel
theorem dX12_comesUp_29 : decode cX12_comesUp 29 = .ok (.iconst 0, 1) := by decide +kernel
theorem dX12_comesUp_30 : decode cX12_comesUp 30 = .ok (.ireturn, 1) := by decide +kernel
theorem dX12_comesUp_31 : decode cX12_comesUp 31 = .ok (.aload_n 0, 1) := by decide +kernel
theorem dX12_comesUp_32 : decode cX12_comesUp 32 = .ok (.getfield 128, 3) := by decide +kernel
theorem dX12_comesUp_35 : decode cX12_comesUp 35 = .ok (.iload 8, 2) := by decide +kernel
theorem dX12_comesUp_37 : decode cX12_comesUp 37 = .ok (.aload_n 0, 1) := by decide +kernel
theorem dX12_comesUp_38 : decode cX12_comesUp 38 = .ok (.getfield 324, 3) := by decide +kernel
theorem dX12_comesUp_41 : decode cX12_comesUp 41 = .ok (.iconst 1, 1) := by decide +kernel
theorem dX12_comesUp_42 : decode cX12_comesUp 42 = .ok (.iadd, 1) := by decide +kernel
theorem dX12_comesUp_43 : decode cX12_comesUp 43 = .ok (.iastore, 1) := by decide +kernel
theorem dX12_comesUp_44 : decode cX12_comesUp 44 = .ok (.aload_n 0, 1) := by decide +kernel
theorem dX12_comesUp_45 : decode cX12_comesUp 45 = .ok (.getfield 116, 3) := by decide +kernel
theorem dX12_comesUp_48 : decode cX12_comesUp 48 = .ok (.aload_n 0, 1) := by decide +kernel
theorem dX12_comesUp_49 : decode cX12_comesUp 49 = .ok (.getfield 324, 3) := by decide +kernel
theorem dX12_comesUp_52 : decode cX12_comesUp 52 = .ok (.lload_n 1, 1) := by decide +kernel
theorem dX12_comesUp_53 : decode cX12_comesUp 53 = .ok (.lastore, 1) := by decide +kernel
theorem dX12_comesUp_54 : decode cX12_comesUp 54 = .ok (.aload_n 0, 1) := by decide +kernel
theorem dX12_comesUp_55 : decode cX12_comesUp 55 = .ok (.getfield 119, 3) := by decide +kernel
theorem dX12_comesUp_58 : decode cX12_comesUp 58 = .ok (.aload_n 0, 1) := by decide +kernel
theorem dX12_comesUp_59 : decode cX12_comesUp 59 = .ok (.getfield 324, 3) := by decide +kernel
theorem dX12_comesUp_62 : decode cX12_comesUp 62 = .ok (.lload_n 3, 1) := by decide +kernel
theorem dX12_comesUp_63 : decode cX12_comesUp 63 = .ok (.lastore, 1) := by decide +kernel
theorem dX12_comesUp_64 : decode cX12_comesUp 64 = .ok (.aload_n 0, 1) := by decide +kernel
theorem dX12_comesUp_65 : decode cX12_comesUp 65 = .ok (.getfield 122, 3) := by decide +kernel
theorem dX12_comesUp_68 : decode cX12_comesUp 68 = .ok (.aload_n 0, 1) := by decide +kernel
theorem dX12_comesUp_69 : decode cX12_comesUp 69 = .ok (.getfield 324, 3) := by decide +kernel
theorem dX12_comesUp_72 : decode cX12_comesUp 72 = .ok (.iload 5, 2) := by decide +kernel
theorem dX12_comesUp_74 : decode cX12_comesUp 74 = .ok (.iastore, 1) := by decide +kernel
theorem dX12_comesUp_75 : decode cX12_comesUp 75 = .ok (.aload_n 0, 1) := by decide +kernel
theorem dX12_comesUp_76 : decode cX12_comesUp 76 = .ok (.getfield 125, 3) := by decide +kernel
theorem dX12_comesUp_79 : decode cX12_comesUp 79 = .ok (.aload_n 0, 1) := by decide +kernel
theorem dX12_comesUp_80 : decode cX12_comesUp 80 = .ok (.getfield 324, 3) := by decide +kernel
theorem dX12_comesUp_83 : decode cX12_comesUp 83 = .ok (.iload 6, 2) := by decide +kernel
theorem dX12_comesUp_85 : decode cX12_comesUp 85 = .ok (.iastore, 1) := by decide +kernel
theorem dX12_comesUp_86 : decode cX12_comesUp 86 = .ok (.aload_n 0, 1) := by decide +kernel
theorem dX12_comesUp_87 : decode cX12_comesUp 87 = .ok (.dup, 1) := by decide +kernel
theorem dX12_comesUp_88 : decode cX12_comesUp 88 = .ok (.getfield 324, 3) := by decide +kernel
theorem dX12_comesUp_91 : decode cX12_comesUp 91 = .ok (.iconst 1, 1) := by decide +kernel
theorem dX12_comesUp_92 : decode cX12_comesUp 92 = .ok (.iadd, 1) := by decide +kernel
theorem dX12_comesUp_93 : decode cX12_comesUp 93 = .ok (.putfield 324, 3) := by decide +kernel
theorem dX12_comesUp_96 : decode cX12_comesUp 96 = .ok (.iconst 1, 1) := by decide +kernel
theorem dX12_comesUp_97 : decode cX12_comesUp 97 = .ok (.ireturn, 1) := by decide +kernel
theorem dX12_comesRound_0 : decode cX12_comesRound 0 = .ok (.aload_n 0, 1) := by decide +kernel
theorem dX12_comesRound_1 : decode cX12_comesRound 1 = .ok (.iconst 0, 1) := by decide +kernel
theorem dX12_comesRound_2 : decode cX12_comesRound 2 = .ok (.bipush 26, 2) := by decide +kernel
theorem dX12_comesRound_4 : decode cX12_comesRound 4 = .ok (.invokevirtual 256, 3) := by decide +kernel
theorem dX12_comesRound_7 : decode cX12_comesRound 7 = .ok (.aload_n 0, 1) := by decide +kernel
theorem dX12_comesRound_8 : decode cX12_comesRound 8 = .ok (.bipush 26, 2) := by decide +kernel
theorem dX12_comesRound_10 : decode cX12_comesRound 10 = .ok (.iconst 0, 1) := by decide +kernel
theorem dX12_comesRound_11 : decode cX12_comesRound 11 = .ok (.invokevirtual 309, 3) := by decide +kernel
theorem dX12_comesRound_14 : decode cX12_comesRound 14 = .ok (.aload_n 0, 1) := by decide +kernel
theorem dX12_comesRound_15 : decode cX12_comesRound 15 = .ok (.invokevirtual 337, 3) := by decide +kernel
theorem dX12_comesRound_18 : decode cX12_comesRound 18 = .ok (.iload_n 1, 1) := by decide +kernel
theorem dX12_comesRound_19 : decode cX12_comesRound 19 = .ok (.istore_n 2, 1) := by decide +kernel
theorem dX12_comesRound_20 : decode cX12_comesRound 20 = .ok (.iconst 1, 1) := by decide +kernel
theorem dX12_comesRound_21 : decode cX12_comesRound 21 = .ok (.istore_n 3, 1) := by decide +kernel
theorem dX12_comesRound_22 : decode cX12_comesRound 22 = .ok (.iload_n 3, 1) := by decide +kernel
theorem dX12_comesRound_23 : decode cX12_comesRound 23 = .ok (.ifCond .eq 141, 3) := by decide +kernel
theorem dX12_comesRound_26 : decode cX12_comesRound 26 = .ok (.aload_n 0, 1) := by decide +kernel
theorem dX12_comesRound_27 : decode cX12_comesRound 27 = .ok (.bipush 26, 2) := by decide +kernel
theorem dX12_comesRound_29 : decode cX12_comesRound 29 = .ok (.invokevirtual 340, 3) := by decide +kernel
theorem dX12_comesRound_32 : decode cX12_comesRound 32 = .ok (.lstore 4, 2) := by decide +kernel
theorem dX12_comesRound_34 : decode cX12_comesRound 34 = .ok (.aload_n 0, 1) := by decide +kernel
theorem dX12_comesRound_35 : decode cX12_comesRound 35 = .ok (.getfield 128, 3) := by decide +kernel
theorem dX12_comesRound_38 : decode cX12_comesRound 38 = .ok (.aload_n 0, 1) := by decide +kernel
theorem dX12_comesRound_39 : decode cX12_comesRound 39 = .ok (.lload 4, 2) := by decide +kernel
theorem dX12_comesRound_41 : decode cX12_comesRound 41 = .ok (.iload_n 2, 1) := by decide +kernel
theorem dX12_comesRound_42 : decode cX12_comesRound 42 = .ok (.i2l, 1) := by decide +kernel
theorem dX12_comesRound_43 : decode cX12_comesRound 43 = .ok (.invokevirtual 333, 3) := by decide +kernel
theorem dX12_comesRound_46 : decode cX12_comesRound 46 = .ok (.iaload, 1) := by decide +kernel
theorem dX12_comesRound_47 : decode cX12_comesRound 47 = .ok (.istore 6, 2) := by decide +kernel
theorem dX12_comesRound_49 : decode cX12_comesRound 49 = .ok (.iload 6, 2) := by decide +kernel
theorem dX12_comesRound_51 : decode cX12_comesRound 51 = .ok (.ifCond .le 26, 3) := by decide +kernel
theorem dX12_comesRound_54 : decode cX12_comesRound 54 = .ok (.aload_n 0, 1) := by decide +kernel
theorem dX12_comesRound_55 : decode cX12_comesRound 55 = .ok (.iload 6, 2) := by decide +kernel
theorem dX12_comesRound_57 : decode cX12_comesRound 57 = .ok (.iconst 1, 1) := by decide +kernel
theorem dX12_comesRound_58 : decode cX12_comesRound 58 = .ok (.isub, 1) := by decide +kernel
theorem dX12_comesRound_59 : decode cX12_comesRound 59 = .ok (.putfield 344, 3) := by decide +kernel
theorem dX12_comesRound_62 : decode cX12_comesRound 62 = .ok (.aload_n 0, 1) := by decide +kernel
theorem dX12_comesRound_63 : decode cX12_comesRound 63 = .ok (.aload_n 0, 1) := by decide +kernel
theorem dX12_comesRound_64 : decode cX12_comesRound 64 = .ok (.getfield 324, 3) := by decide +kernel
theorem dX12_comesRound_67 : decode cX12_comesRound 67 = .ok (.aload_n 0, 1) := by decide +kernel
theorem dX12_comesRound_68 : decode cX12_comesRound 68 = .ok (.getfield 344, 3) := by decide +kernel
theorem dX12_comesRound_71 : decode cX12_comesRound 71 = .ok (.isub, 1) := by decide +kernel
theorem dX12_comesRound_72 : decode cX12_comesRound 72 = .ok (.putfield 347, 3) := by decide +kernel
theorem dX12_comesRound_75 : decode cX12_comesRound 75 = .ok (.iconst 1, 1) := by decide +kernel
theorem dX12_comesRound_76 : decode cX12_comesRound 76 = .ok (.ireturn, 1) := by decide +kernel
theorem dX12_comesRound_77 : decode cX12_comesRound 77 = .ok (.aload_n 0, 1) := by decide +kernel
theorem dX12_comesRound_78 : decode cX12_comesRound 78 = .ok (.lload 4, 2) := by decide +kernel
theorem dX12_comesRound_80 : decode cX12_comesRound 80 = .ok (.iload_n 2, 1) := by decide +kernel
theorem dX12_comesRound_81 : decode cX12_comesRound 81 = .ok (.i2l, 1) := by decide +kernel
theorem dX12_comesRound_82 : decode cX12_comesRound 82 = .ok (.iconst (-1), 1) := by decide +kernel
theorem dX12_comesRound_83 : decode cX12_comesRound 83 = .ok (.iconst (-1), 1) := by decide +kernel
theorem dX12_comesRound_84 : decode cX12_comesRound 84 = .ok (.sipush 4000, 3) := by decide +kernel
theorem dX12_comesRound_87 : decode cX12_comesRound 87 = .ok (.invokevirtual 350, 3) := by decide +kernel
theorem dX12_comesRound_90 : decode cX12_comesRound 90 = .ok (.istore_n 3, 1) := by decide +kernel
theorem dX12_comesRound_91 : decode cX12_comesRound 91 = .ok (.iload_n 3, 1) := by decide +kernel
theorem dX12_comesRound_92 : decode cX12_comesRound 92 = .ok (.ifCond .eq 16, 3) := by decide +kernel
theorem dX12_comesRound_95 : decode cX12_comesRound 95 = .ok (.aload_n 0, 1) := by decide +kernel
theorem dX12_comesRound_96 : decode cX12_comesRound 96 = .ok (.bipush 26, 2) := by decide +kernel
theorem dX12_comesRound_98 : decode cX12_comesRound 98 = .ok (.iconst 0, 1) := by decide +kernel
theorem dX12_comesRound_99 : decode cX12_comesRound 99 = .ok (.iload_n 2, 1) := by decide +kernel
theorem dX12_comesRound_100 : decode cX12_comesRound 100 = .ok (.bipush (-2), 2) := by decide +kernel
theorem dX12_comesRound_102 : decode cX12_comesRound 102 = .ok (.invokevirtual 312, 3) := by decide +kernel
theorem dX12_comesRound_105 : decode cX12_comesRound 105 = .ok (.goto 6, 3) := by decide +kernel
theorem dX12_comesRound_108 : decode cX12_comesRound 108 = .ok (.sipush 768, 3) := by decide +kernel
theorem dX12_comesRound_111 : decode cX12_comesRound 111 = .ok (.istore 7, 2) := by decide +kernel
theorem dX12_comesRound_113 : decode cX12_comesRound 113 = .ok (.iload 7, 2) := by decide +kernel
theorem dX12_comesRound_115 : decode cX12_comesRound 115 = .ok (.sipush 256, 3) := by decide +kernel
theorem dX12_comesRound_118 : decode cX12_comesRound 118 = .ok (.if_icmp .ge 21, 3) := by decide +kernel
theorem dX12_comesRound_121 : decode cX12_comesRound 121 = .ok (.aload_n 0, 1) := by decide +kernel
theorem dX12_comesRound_122 : decode cX12_comesRound 122 = .ok (.getfield 95, 3) := by decide +kernel
theorem dX12_comesRound_125 : decode cX12_comesRound 125 = .ok (.sipush 338, 3) := by decide +kernel
theorem dX12_comesRound_128 : decode cX12_comesRound 128 = .ok (.iload 7, 2) := by decide +kernel
theorem dX12_comesRound_130 : decode cX12_comesRound 130 = .ok (.iadd, 1) := by decide +kernel
theorem dX12_comesRound_131 : decode cX12_comesRound 131 = .ok (.iaload, 1) := by decide +kernel
theorem dX12_comesRound_132 : decode cX12_comesRound 132 = .ok (.ifCond .lt 7, 3) := by decide +kernel
theorem dX12_comesRound_135 : decode cX12_comesRound 135 = .ok (.iconst 1, 1) := by decide +kernel
theorem dX12_comesRound_136 : decode cX12_comesRound 136 = .ok (.goto 4, 3) := by decide +kernel
theorem dX12_comesRound_139 : decode cX12_comesRound 139 = .ok (.iconst 0, 1) := by decide +kernel
theorem dX12_comesRound_140 : decode cX12_comesRound 140 = .ok (.istore_n 3, 1) := by decide +kernel
theorem dX12_comesRound_141 : decode cX12_comesRound 141 = .ok (.iload_n 3, 1) := by decide +kernel
theorem dX12_comesRound_142 : decode cX12_comesRound 142 = .ok (.ifCond .eq 17, 3) := by decide +kernel
theorem dX12_comesRound_145 : decode cX12_comesRound 145 = .ok (.aload_n 0, 1) := by decide +kernel
theorem dX12_comesRound_146 : decode cX12_comesRound 146 = .ok (.getfield 95, 3) := by decide +kernel
theorem dX12_comesRound_149 : decode cX12_comesRound 149 = .ok (.sipush 338, 3) := by decide +kernel
theorem dX12_comesRound_152 : decode cX12_comesRound 152 = .ok (.iload 7, 2) := by decide +kernel
theorem dX12_comesRound_154 : decode cX12_comesRound 154 = .ok (.iadd, 1) := by decide +kernel
theorem dX12_comesRound_155 : decode cX12_comesRound 155 = .ok (.iaload, 1) := by decide +kernel
theorem dX12_comesRound_156 : decode cX12_comesRound 156 = .ok (.goto 4, 3) := by decide +kernel
theorem dX12_comesRound_159 : decode cX12_comesRound 159 = .ok (.iload_n 2, 1) := by decide +kernel
theorem dX12_comesRound_160 : decode cX12_comesRound 160 = .ok (.istore_n 2, 1) := by decide +kernel
theorem dX12_comesRound_161 : decode cX12_comesRound 161 = .ok (.goto (-139), 3) := by decide +kernel
theorem dX12_comesRound_164 : decode cX12_comesRound 164 = .ok (.iconst 0, 1) := by decide +kernel
theorem dX12_comesRound_165 : decode cX12_comesRound 165 = .ok (.ireturn, 1) := by decide +kernel
theorem dX12_round_0 : decode cX12_round 0 = .ok (.aload_n 0, 1) := by decide +kernel
theorem dX12_round_1 : decode cX12_round 1 = .ok (.iconst 0, 1) := by decide +kernel
theorem dX12_round_2 : decode cX12_round 2 = .ok (.putfield 1, 3) := by decide +kernel
theorem dX12_round_5 : decode cX12_round 5 = .ok (.iload_n 1, 1) := by decide +kernel
theorem dX12_round_6 : decode cX12_round 6 = .ok (.invokestatic 306, 3) := by decide +kernel
theorem dX12_round_9 : decode cX12_round 9 = .ok (.ifCond .eq 20, 3) := by decide +kernel
theorem dX12_round_12 : decode cX12_round 12 = .ok (.iload_n 2, 1) := by decide +kernel
theorem dX12_round_13 : decode cX12_round 13 = .ok (.ifCond .lt 16, 3) := by decide +kernel
theorem dX12_round_16 : decode cX12_round 16 = .ok (.iload_n 2, 1) := by decide +kernel
theorem dX12_round_17 : decode cX12_round 17 = .ok (.iconst 1, 1) := by decide +kernel
theorem dX12_round_18 : decode cX12_round 18 = .ok (.if_icmp .gt 11, 3) := by decide +kernel
theorem dX12_round_21 : decode cX12_round 21 = .ok (.aload_n 0, 1) := by decide +kernel
theorem dX12_round_22 : decode cX12_round 22 = .ok (.iload_n 1, 1) := by decide +kernel
theorem dX12_round_23 : decode cX12_round 23 = .ok (.invokevirtual 354, 3) := by decide +kernel
theorem dX12_round_26 : decode cX12_round 26 = .ok (.ifCond .ne 7, 3) := by decide +kernel
theorem dX12_round_29 : decode cX12_round 29 = .ok (.iconst (-1), 1) := by decide +kernel
theorem dX12_round_30 : decode cX12_round 30 = .ok (.goto 18, 3) := by decide +kernel
theorem dX12_round_33 : decode cX12_round 33 = .ok (.iload_n 2, 1) := by decide +kernel
theorem dX12_round_34 : decode cX12_round 34 = .ok (.ifCond .ne 10, 3) := by decide +kernel
theorem dX12_round_37 : decode cX12_round 37 = .ok (.aload_n 0, 1) := by decide +kernel
theorem dX12_round_38 : decode cX12_round 38 = .ok (.getfield 344, 3) := by decide +kernel
theorem dX12_round_41 : decode cX12_round 41 = .ok (.goto 7, 3) := by decide +kernel
theorem dX12_round_44 : decode cX12_round 44 = .ok (.aload_n 0, 1) := by decide +kernel
theorem dX12_round_45 : decode cX12_round 45 = .ok (.getfield 347, 3) := by decide +kernel
theorem dX12_round_48 : decode cX12_round 48 = .ok (.ireturn, 1) := by decide +kernel
theorem dX12_isShelf_0 : decode cX12_isShelf 0 = .ok (.iload_n 0, 1) := by decide +kernel
theorem dX12_isShelf_1 : decode cX12_isShelf 1 = .ok (.ifCond .lt 12, 3) := by decide +kernel
theorem dX12_isShelf_4 : decode cX12_isShelf 4 = .ok (.iload_n 0, 1) := by decide +kernel
theorem dX12_isShelf_5 : decode cX12_isShelf 5 = .ok (.iconst 4, 1) := by decide +kernel
theorem dX12_isShelf_6 : decode cX12_isShelf 6 = .ok (.if_icmp .ge 7, 3) := by decide +kernel
theorem dX12_isShelf_9 : decode cX12_isShelf 9 = .ok (.iconst 1, 1) := by decide +kernel
theorem dX12_isShelf_10 : decode cX12_isShelf 10 = .ok (.goto 4, 3) := by decide +kernel
theorem dX12_isShelf_13 : decode cX12_isShelf 13 = .ok (.iconst 0, 1) := by decide +kernel
theorem dX12_isShelf_14 : decode cX12_isShelf 14 = .ok (.ireturn, 1) := by decide +kernel
theorem dX12_shelf_0 : decode cX12_shelf 0 = .ok (.aload_n 0, 1) := by decide +kernel
theorem dX12_shelf_1 : decode cX12_shelf 1 = .ok (.iconst 0, 1) := by decide +kernel
theorem dX12_shelf_2 : decode cX12_shelf 2 = .ok (.putfield 1, 3) := by decide +kernel
theorem dX12_shelf_5 : decode cX12_shelf 5 = .ok (.iload_n 1, 1) := by decide +kernel
theorem dX12_shelf_6 : decode cX12_shelf 6 = .ok (.invokestatic 357, 3) := by decide +kernel
theorem dX12_shelf_9 : decode cX12_shelf 9 = .ok (.ifCond .eq 16, 3) := by decide +kernel
theorem dX12_shelf_12 : decode cX12_shelf 12 = .ok (.iload_n 2, 1) := by decide +kernel
theorem dX12_shelf_13 : decode cX12_shelf 13 = .ok (.ifCond .eq 14, 3) := by decide +kernel
theorem dX12_shelf_16 : decode cX12_shelf 16 = .ok (.aload_n 0, 1) := by decide +kernel
theorem dX12_shelf_17 : decode cX12_shelf 17 = .ok (.getfield 131, 3) := by decide +kernel
theorem dX12_shelf_20 : decode cX12_shelf 20 = .ok (.iload_n 1, 1) := by decide +kernel
theorem dX12_shelf_21 : decode cX12_shelf 21 = .ok (.baload, 1) := by decide +kernel
theorem dX12_shelf_22 : decode cX12_shelf 22 = .ok (.ifCond .ne 5, 3) := by decide +kernel
theorem dX12_shelf_25 : decode cX12_shelf 25 = .ok (.iconst 0, 1) := by decide +kernel
theorem dX12_shelf_26 : decode cX12_shelf 26 = .ok (.ireturn, 1) := by decide +kernel
theorem dX12_shelf_27 : decode cX12_shelf 27 = .ok (.iload_n 2, 1) := by decide +kernel
theorem dX12_shelf_28 : decode cX12_shelf 28 = .ok (.ifCond .eq 19, 3) := by decide +kernel
theorem dX12_shelf_31 : decode cX12_shelf 31 = .ok (.aload_n 0, 1) := by decide +kernel
theorem dX12_shelf_32 : decode cX12_shelf 32 = .ok (.iconst 1, 1) := by decide +kernel
theorem dX12_shelf_33 : decode cX12_shelf 33 = .ok (.iload_n 1, 1) := by decide +kernel
theorem dX12_shelf_34 : decode cX12_shelf 34 = .ok (.iadd, 1) := by decide +kernel
theorem dX12_shelf_35 : decode cX12_shelf 35 = .ok (.iconst 0, 1) := by decide +kernel
theorem dX12_shelf_36 : decode cX12_shelf 36 = .ok (.invokevirtual 256, 3) := by decide +kernel
theorem dX12_shelf_39 : decode cX12_shelf 39 = .ok (.aload_n 0, 1) := by decide +kernel
theorem dX12_shelf_40 : decode cX12_shelf 40 = .ok (.iconst 0, 1) := by decide +kernel
theorem dX12_shelf_41 : decode cX12_shelf 41 = .ok (.putfield 279, 3) := by decide +kernel
theorem dX12_shelf_44 : decode cX12_shelf 44 = .ok (.goto 18, 3) := by decide +kernel
theorem dX12_shelf_47 : decode cX12_shelf 47 = .ok (.aload_n 0, 1) := by decide +kernel
theorem dX12_shelf_48 : decode cX12_shelf 48 = .ok (.iconst 0, 1) := by decide +kernel
theorem dX12_shelf_49 : decode cX12_shelf 49 = .ok (.iconst 1, 1) := by decide +kernel
theorem dX12_shelf_50 : decode cX12_shelf 50 = .ok (.iload_n 1, 1) := by decide +kernel
theorem dX12_shelf_51 : decode cX12_shelf 51 = .ok (.iadd, 1) := by decide +kernel
theorem dX12_shelf_52 : decode cX12_shelf 52 = .ok (.invokevirtual 256, 3) := by decide +kernel
theorem dX12_shelf_55 : decode cX12_shelf 55 = .ok (.aload_n 0, 1) := by decide +kernel
theorem dX12_shelf_56 : decode cX12_shelf 56 = .ok (.getfield 131, 3) := by decide +kernel
theorem dX12_shelf_59 : decode cX12_shelf 59 = .ok (.iload_n 1, 1) := by decide +kernel
theorem dX12_shelf_60 : decode cX12_shelf 60 = .ok (.iconst 1, 1) := by decide +kernel
theorem dX12_shelf_61 : decode cX12_shelf 61 = .ok (.bastore, 1) := by decide +kernel
theorem dX12_shelf_62 : decode cX12_shelf 62 = .ok (.iconst 1, 1) := by decide +kernel
theorem dX12_shelf_63 : decode cX12_shelf 63 = .ok (.ireturn, 1) := by decide +kernel
theorem dX12_traces_0 : decode cX12_traces 0 = .ok (.aload_n 0, 1) := by decide +kernel
theorem dX12_traces_1 : decode cX12_traces 1 = .ok (.iload_n 2, 1) := by decide +kernel
theorem dX12_traces_2 : decode cX12_traces 2 = .ok (.ifCond .ge 7, 3) := by decide +kernel
theorem dX12_traces_5 : decode cX12_traces 5 = .ok (.iconst 0, 1) := by decide +kernel
theorem dX12_traces_6 : decode cX12_traces 6 = .ok (.goto 4, 3) := by decide +kernel
theorem dX12_traces_9 : decode cX12_traces 9 = .ok (.iconst 1, 1) := by decide +kernel
theorem dX12_traces_10 : decode cX12_traces 10 = .ok (.putfield 360, 3) := by decide +kernel
theorem dX12_traces_13 : decode cX12_traces 13 = .ok (.iload_n 1, 1) := by decide +kernel
theorem dX12_traces_14 : decode cX12_traces 14 = .ok (.istore_n 3, 1) := by decide +kernel
theorem dX12_traces_15 : decode cX12_traces 15 = .ok (.aload_n 0, 1) := by decide +kernel
theorem dX12_traces_16 : decode cX12_traces 16 = .ok (.getfield 122, 3) := by decide +kernel
theorem dX12_traces_19 : decode cX12_traces 19 = .ok (.iload_n 3, 1) := by decide +kernel
theorem dX12_traces_20 : decode cX12_traces 20 = .ok (.iaload, 1) := by decide +kernel
theorem dX12_traces_21 : decode cX12_traces 21 = .ok (.ifCond .lt 23, 3) := by decide +kernel
theorem dX12_traces_24 : decode cX12_traces 24 = .ok (.aload_n 0, 1) := by decide +kernel
theorem dX12_traces_25 : decode cX12_traces 25 = .ok (.dup, 1) := by decide +kernel
theorem dX12_traces_26 : decode cX12_traces 26 = .ok (.getfield 360, 3) := by decide +kernel
theorem dX12_traces_29 : decode cX12_traces 29 = .ok (.iconst 1, 1) := by decide +kernel
theorem dX12_traces_30 : decode cX12_traces 30 = .ok (.iadd, 1) := by decide +kernel
theorem dX12_traces_31 : decode cX12_traces 31 = .ok (.putfield 360, 3) := by decide +kernel
theorem dX12_traces_34 : decode cX12_traces 34 = .ok (.aload_n 0, 1) := by decide +kernel
theorem dX12_traces_35 : decode cX12_traces 35 = .ok (.getfield 122, 3) := by decide +kernel
theorem dX12_traces_38 : decode cX12_traces 38 = .ok (.iload_n 3, 1) := by decide +kernel
theorem dX12_traces_39 : decode cX12_traces 39 = .ok (.iaload, 1) := by decide +kernel
theorem dX12_traces_40 : decode cX12_traces 40 = .ok (.istore_n 3, 1) := by decide +kernel
theorem dX12_traces_41 : decode cX12_traces 41 = .ok (.goto (-26), 3) := by decide +kernel
theorem dX12_traces_44 : decode cX12_traces 44 = .ok (.aload_n 0, 1) := by decide +kernel
theorem dX12_traces_45 : decode cX12_traces 45 = .ok (.getfield 360, 3) := by decide +kernel
theorem dX12_traces_48 : decode cX12_traces 48 = .ok (.istore_n 3, 1) := by decide +kernel
theorem dX12_traces_49 : decode cX12_traces 49 = .ok (.iload_n 2, 1) := by decide +kernel
theorem dX12_traces_50 : decode cX12_traces 50 = .ok (.ifCond .lt 13, 3) := by decide +kernel
theorem dX12_traces_53 : decode cX12_traces 53 = .ok (.iinc 3 (-1), 3) := by decide +kernel
theorem dX12_traces_56 : decode cX12_traces 56 = .ok (.aload_n 0, 1) := by decide +kernel
theorem dX12_traces_57 : decode cX12_traces 57 = .ok (.getfield 135, 3) := by decide +kernel
theorem dX12_traces_60 : decode cX12_traces 60 = .ok (.iload_n 3, 1) := by decide +kernel
theorem dX12_traces_61 : decode cX12_traces 61 = .ok (.iload_n 2, 1) := by decide +kernel
theorem dX12_traces_62 : decode cX12_traces 62 = .ok (.iastore, 1) := by decide +kernel
theorem dX12_traces_63 : decode cX12_traces 63 = .ok (.iload_n 1, 1) := by decide +kernel
theorem dX12_traces_64 : decode cX12_traces 64 = .ok (.istore 4, 2) := by decide +kernel
theorem dX12_traces_66 : decode cX12_traces 66 = .ok (.aload_n 0, 1) := by decide +kernel
theorem dX12_traces_67 : decode cX12_traces 67 = .ok (.getfield 122, 3) := by decide +kernel
theorem dX12_traces_70 : decode cX12_traces 70 = .ok (.iload 4, 2) := by decide +kernel
theorem dX12_traces_72 : decode cX12_traces 72 = .ok (.iaload, 1) := by decide +kernel
theorem dX12_traces_73 : decode cX12_traces 73 = .ok (.ifCond .lt 31, 3) := by decide +kernel
theorem dX12_traces_76 : decode cX12_traces 76 = .ok (.iinc 3 (-1), 3) := by decide +kernel
theorem dX12_traces_79 : decode cX12_traces 79 = .ok (.aload_n 0, 1) := by decide +kernel
theorem dX12_traces_80 : decode cX12_traces 80 = .ok (.getfield 135, 3) := by decide +kernel
theorem dX12_traces_83 : decode cX12_traces 83 = .ok (.iload_n 3, 1) := by decide +kernel
theorem dX12_traces_84 : decode cX12_traces 84 = .ok (.aload_n 0, 1) := by decide +kernel
theorem dX12_traces_85 : decode cX12_traces 85 = .ok (.getfield 125, 3) := by decide +kernel
theorem dX12_traces_88 : decode cX12_traces 88 = .ok (.iload 4, 2) := by decide +kernel
theorem dX12_traces_90 : decode cX12_traces 90 = .ok (.iaload, 1) := by decide +kernel
theorem dX12_traces_91 : decode cX12_traces 91 = .ok (.iastore, 1) := by decide +kernel
theorem dX12_traces_92 : decode cX12_traces 92 = .ok (.aload_n 0, 1) := by decide +kernel
theorem dX12_traces_93 : decode cX12_traces 93 = .ok (.getfield 122, 3) := by decide +kernel
theorem dX12_traces_96 : decode cX12_traces 96 = .ok (.iload 4, 2) := by decide +kernel
theorem dX12_traces_98 : decode cX12_traces 98 = .ok (.iaload, 1) := by decide +kernel
theorem dX12_traces_99 : decode cX12_traces 99 = .ok (.istore 4, 2) := by decide +kernel
theorem dX12_traces_101 : decode cX12_traces 101 = .ok (.goto (-35), 3) := by decide +kernel
theorem dX12_traces_104 : decode cX12_traces 104 = .ok (.return_, 1) := by decide +kernel
theorem dX12_tellsApart_0 : decode cX12_tellsApart 0 = .ok (.aload_n 0, 1) := by decide +kernel
theorem dX12_tellsApart_1 : decode cX12_tellsApart 1 = .ok (.iload_n 1, 1) := by decide +kernel
theorem dX12_tellsApart_2 : decode cX12_tellsApart 2 = .ok (.bipush 26, 2) := by decide +kernel
theorem dX12_tellsApart_4 : decode cX12_tellsApart 4 = .ok (.invokevirtual 256, 3) := by decide +kernel
theorem dX12_tellsApart_7 : decode cX12_tellsApart 7 = .ok (.aload_n 0, 1) := by decide +kernel
theorem dX12_tellsApart_8 : decode cX12_tellsApart 8 = .ok (.iload_n 2, 1) := by decide +kernel
theorem dX12_tellsApart_9 : decode cX12_tellsApart 9 = .ok (.bipush 27, 2) := by decide +kernel
theorem dX12_tellsApart_11 : decode cX12_tellsApart 11 = .ok (.invokevirtual 256, 3) := by decide +kernel
theorem dX12_tellsApart_14 : decode cX12_tellsApart 14 = .ok (.aload_n 0, 1) := by decide +kernel
theorem dX12_tellsApart_15 : decode cX12_tellsApart 15 = .ok (.bipush 26, 2) := by decide +kernel
theorem dX12_tellsApart_17 : decode cX12_tellsApart 17 = .ok (.iconst 0, 1) := by decide +kernel
theorem dX12_tellsApart_18 : decode cX12_tellsApart 18 = .ok (.invokevirtual 309, 3) := by decide +kernel
theorem dX12_tellsApart_21 : decode cX12_tellsApart 21 = .ok (.aload_n 0, 1) := by decide +kernel
theorem dX12_tellsApart_22 : decode cX12_tellsApart 22 = .ok (.bipush 27, 2) := by decide +kernel
theorem dX12_tellsApart_24 : decode cX12_tellsApart 24 = .ok (.iconst 1, 1) := by decide +kernel
theorem dX12_tellsApart_25 : decode cX12_tellsApart 25 = .ok (.invokevirtual 309, 3) := by decide +kernel
theorem dX12_tellsApart_28 : decode cX12_tellsApart 28 = .ok (.aload_n 0, 1) := by decide +kernel
theorem dX12_tellsApart_29 : decode cX12_tellsApart 29 = .ok (.invokevirtual 337, 3) := by decide +kernel
theorem dX12_tellsApart_32 : decode cX12_tellsApart 32 = .ok (.aload_n 0, 1) := by decide +kernel
theorem dX12_tellsApart_33 : decode cX12_tellsApart 33 = .ok (.iconst 0, 1) := by decide +kernel
theorem dX12_tellsApart_34 : decode cX12_tellsApart 34 = .ok (.putfield 360, 3) := by decide +kernel
theorem dX12_tellsApart_37 : decode cX12_tellsApart 37 = .ok (.iload_n 1, 1) := by decide +kernel
theorem dX12_tellsApart_38 : decode cX12_tellsApart 38 = .ok (.iload_n 2, 1) := by decide +kernel
theorem dX12_tellsApart_39 : decode cX12_tellsApart 39 = .ok (.if_icmp .ne 4, 3) := by decide +kernel
theorem dX12_tellsApart_42 : decode cX12_tellsApart 42 = .ok (.return_, 1) := by decide +kernel
theorem dX12_tellsApart_43 : decode cX12_tellsApart 43 = .ok (.aload_n 0, 1) := by decide +kernel
theorem dX12_tellsApart_44 : decode cX12_tellsApart 44 = .ok (.aload_n 0, 1) := by decide +kernel
theorem dX12_tellsApart_45 : decode cX12_tellsApart 45 = .ok (.bipush 26, 2) := by decide +kernel
theorem dX12_tellsApart_47 : decode cX12_tellsApart 47 = .ok (.invokevirtual 340, 3) := by decide +kernel
theorem dX12_tellsApart_50 : decode cX12_tellsApart 50 = .ok (.aload_n 0, 1) := by decide +kernel
theorem dX12_tellsApart_51 : decode cX12_tellsApart 51 = .ok (.bipush 27, 2) := by decide +kernel
theorem dX12_tellsApart_53 : decode cX12_tellsApart 53 = .ok (.invokevirtual 340, 3) := by decide +kernel
theorem dX12_tellsApart_56 : decode cX12_tellsApart 56 = .ok (.iconst (-1), 1) := by decide +kernel
theorem dX12_tellsApart_57 : decode cX12_tellsApart 57 = .ok (.iconst (-1), 1) := by decide +kernel
theorem dX12_tellsApart_58 : decode cX12_tellsApart 58 = .ok (.sipush 3000, 3) := by decide +kernel
theorem dX12_tellsApart_61 : decode cX12_tellsApart 61 = .ok (.invokevirtual 350, 3) := by decide +kernel
theorem dX12_tellsApart_64 : decode cX12_tellsApart 64 = .ok (.istore_n 3, 1) := by decide +kernel
theorem dX12_tellsApart_65 : decode cX12_tellsApart 65 = .ok (.iconst 0, 1) := by decide +kernel
theorem dX12_tellsApart_66 : decode cX12_tellsApart 66 = .ok (.istore 4, 2) := by decide +kernel
theorem dX12_tellsApart_68 : decode cX12_tellsApart 68 = .ok (.iload 4, 2) := by decide +kernel
theorem dX12_tellsApart_70 : decode cX12_tellsApart 70 = .ok (.aload_n 0, 1) := by decide +kernel
theorem dX12_tellsApart_71 : decode cX12_tellsApart 71 = .ok (.getfield 324, 3) := by decide +kernel
theorem dX12_tellsApart_74 : decode cX12_tellsApart 74 = .ok (.if_icmp .ge 116, 3) := by decide +kernel
theorem dX12_tellsApart_77 : decode cX12_tellsApart 77 = .ok (.iconst 0, 1) := by decide +kernel
theorem dX12_tellsApart_78 : decode cX12_tellsApart 78 = .ok (.istore 5, 2) := by decide +kernel
theorem dX12_tellsApart_80 : decode cX12_tellsApart 80 = .ok (.iload 5, 2) := by decide +kernel
theorem dX12_tellsApart_82 : decode cX12_tellsApart 82 = .ok (.iconst 4, 1) := by decide +kernel
theorem dX12_tellsApart_83 : decode cX12_tellsApart 83 = .ok (.if_icmp .ge 101, 3) := by decide +kernel
theorem dX12_tellsApart_86 : decode cX12_tellsApart 86 = .ok (.aload_n 0, 1) := by decide +kernel
theorem dX12_tellsApart_87 : decode cX12_tellsApart 87 = .ok (.bipush 26, 2) := by decide +kernel
theorem dX12_tellsApart_89 : decode cX12_tellsApart 89 = .ok (.aload_n 0, 1) := by decide +kernel
theorem dX12_tellsApart_90 : decode cX12_tellsApart 90 = .ok (.getfield 116, 3) := by decide +kernel
theorem dX12_tellsApart_93 : decode cX12_tellsApart 93 = .ok (.iload 4, 2) := by decide +kernel
theorem dX12_tellsApart_95 : decode cX12_tellsApart 95 = .ok (.laload, 1) := by decide +kernel
theorem dX12_tellsApart_96 : decode cX12_tellsApart 96 = .ok (.invokevirtual 363, 3) := by decide +kernel
theorem dX12_tellsApart_99 : decode cX12_tellsApart 99 = .ok (.aload_n 0, 1) := by decide +kernel
theorem dX12_tellsApart_100 : decode cX12_tellsApart 100 = .ok (.bipush 27, 2) := by decide +kernel
theorem dX12_tellsApart_102 : decode cX12_tellsApart 102 = .ok (.aload_n 0, 1) := by decide +kernel
theorem dX12_tellsApart_103 : decode cX12_tellsApart 103 = .ok (.getfield 119, 3) := by decide +kernel
theorem dX12_tellsApart_106 : decode cX12_tellsApart 106 = .ok (.iload 4, 2) := by decide +kernel
theorem dX12_tellsApart_108 : decode cX12_tellsApart 108 = .ok (.laload, 1) := by decide +kernel
theorem dX12_tellsApart_109 : decode cX12_tellsApart 109 = .ok (.invokevirtual 363, 3) := by decide +kernel
theorem dX12_tellsApart_112 : decode cX12_tellsApart 112 = .ok (.aload_n 0, 1) := by decide +kernel
theorem dX12_tellsApart_113 : decode cX12_tellsApart 113 = .ok (.bipush 26, 2) := by decide +kernel
theorem dX12_tellsApart_115 : decode cX12_tellsApart 115 = .ok (.iconst 0, 1) := by decide +kernel
theorem dX12_tellsApart_116 : decode cX12_tellsApart 116 = .ok (.iload 5, 2) := by decide +kernel
theorem dX12_tellsApart_118 : decode cX12_tellsApart 118 = .ok (.bipush (-2), 2) := by decide +kernel
theorem dX12_tellsApart_120 : decode cX12_tellsApart 120 = .ok (.invokevirtual 312, 3) := by decide +kernel
theorem dX12_tellsApart_123 : decode cX12_tellsApart 123 = .ok (.aload_n 0, 1) := by decide +kernel
theorem dX12_tellsApart_124 : decode cX12_tellsApart 124 = .ok (.bipush 27, 2) := by decide +kernel
theorem dX12_tellsApart_126 : decode cX12_tellsApart 126 = .ok (.iconst 1, 1) := by decide +kernel
theorem dX12_tellsApart_127 : decode cX12_tellsApart 127 = .ok (.iload 5, 2) := by decide +kernel
theorem dX12_tellsApart_129 : decode cX12_tellsApart 129 = .ok (.bipush (-2), 2) := by decide +kernel
theorem dX12_tellsApart_131 : decode cX12_tellsApart 131 = .ok (.invokevirtual 312, 3) := by decide +kernel
theorem dX12_tellsApart_134 : decode cX12_tellsApart 134 = .ok (.if_icmp .eq 12, 3) := by decide +kernel
theorem dX12_tellsApart_137 : decode cX12_tellsApart 137 = .ok (.aload_n 0, 1) := by decide +kernel
theorem dX12_tellsApart_138 : decode cX12_tellsApart 138 = .ok (.iload 4, 2) := by decide +kernel
theorem dX12_tellsApart_140 : decode cX12_tellsApart 140 = .ok (.iload 5, 2) := by decide +kernel
theorem dX12_tellsApart_142 : decode cX12_tellsApart 142 = .ok (.invokevirtual 367, 3) := by decide +kernel
theorem dX12_tellsApart_145 : decode cX12_tellsApart 145 = .ok (.return_, 1) := by decide +kernel
theorem dX12_tellsApart_146 : decode cX12_tellsApart 146 = .ok (.aload_n 0, 1) := by decide +kernel
theorem dX12_tellsApart_147 : decode cX12_tellsApart 147 = .ok (.aload_n 0, 1) := by decide +kernel
theorem dX12_tellsApart_148 : decode cX12_tellsApart 148 = .ok (.bipush 26, 2) := by decide +kernel
theorem dX12_tellsApart_150 : decode cX12_tellsApart 150 = .ok (.invokevirtual 340, 3) := by decide +kernel
theorem dX12_tellsApart_153 : decode cX12_tellsApart 153 = .ok (.aload_n 0, 1) := by decide +kernel
theorem dX12_tellsApart_154 : decode cX12_tellsApart 154 = .ok (.bipush 27, 2) := by decide +kernel
theorem dX12_tellsApart_156 : decode cX12_tellsApart 156 = .ok (.invokevirtual 340, 3) := by decide +kernel
theorem dX12_tellsApart_159 : decode cX12_tellsApart 159 = .ok (.iload 4, 2) := by decide +kernel
theorem dX12_tellsApart_161 : decode cX12_tellsApart 161 = .ok (.iload 5, 2) := by decide +kernel
theorem dX12_tellsApart_163 : decode cX12_tellsApart 163 = .ok (.sipush 3000, 3) := by decide +kernel
theorem dX12_tellsApart_166 : decode cX12_tellsApart 166 = .ok (.invokevirtual 350, 3) := by decide +kernel
theorem dX12_tellsApart_169 : decode cX12_tellsApart 169 = .ok (.ifCond .ne 9, 3) := by decide +kernel
theorem dX12_tellsApart_172 : decode cX12_tellsApart 172 = .ok (.aload_n 0, 1) := by decide +kernel
theorem dX12_tellsApart_173 : decode cX12_tellsApart 173 = .ok (.iconst (-1), 1) := by decide +kernel
theorem dX12_tellsApart_174 : decode cX12_tellsApart 174 = .ok (.putfield 360, 3) := by decide +kernel
theorem dX12_tellsApart_177 : decode cX12_tellsApart 177 = .ok (.return_, 1) := by decide +kernel
theorem dX12_tellsApart_178 : decode cX12_tellsApart 178 = .ok (.iinc 5 1, 3) := by decide +kernel
theorem dX12_tellsApart_181 : decode cX12_tellsApart 181 = .ok (.goto (-101), 3) := by decide +kernel
theorem dX12_tellsApart_184 : decode cX12_tellsApart 184 = .ok (.iinc 4 1, 3) := by decide +kernel
theorem dX12_tellsApart_187 : decode cX12_tellsApart 187 = .ok (.goto (-119), 3) := by decide +kernel
theorem dX12_tellsApart_190 : decode cX12_tellsApart 190 = .ok (.return_, 1) := by decide +kernel
theorem dX12_areLaid_0 : decode cX12_areLaid 0 = .ok (.iload_n 1, 1) := by decide +kernel
theorem dX12_areLaid_1 : decode cX12_areLaid 1 = .ok (.invokestatic 357, 3) := by decide +kernel
theorem dX12_areLaid_4 : decode cX12_areLaid 4 = .ok (.ifCond .eq 32, 3) := by decide +kernel
theorem dX12_areLaid_7 : decode cX12_areLaid 7 = .ok (.iload_n 2, 1) := by decide +kernel
theorem dX12_areLaid_8 : decode cX12_areLaid 8 = .ok (.invokestatic 357, 3) := by decide +kernel
theorem dX12_areLaid_11 : decode cX12_areLaid 11 = .ok (.ifCond .eq 25, 3) := by decide +kernel
theorem dX12_areLaid_14 : decode cX12_areLaid 14 = .ok (.aload_n 0, 1) := by decide +kernel
theorem dX12_areLaid_15 : decode cX12_areLaid 15 = .ok (.getfield 131, 3) := by decide +kernel
theorem dX12_areLaid_18 : decode cX12_areLaid 18 = .ok (.iload_n 1, 1) := by decide +kernel
theorem dX12_areLaid_19 : decode cX12_areLaid 19 = .ok (.baload, 1) := by decide +kernel
theorem dX12_areLaid_20 : decode cX12_areLaid 20 = .ok (.ifCond .eq 16, 3) := by decide +kernel
theorem dX12_areLaid_23 : decode cX12_areLaid 23 = .ok (.aload_n 0, 1) := by decide +kernel
theorem dX12_areLaid_24 : decode cX12_areLaid 24 = .ok (.getfield 131, 3) := by decide +kernel
theorem dX12_areLaid_27 : decode cX12_areLaid 27 = .ok (.iload_n 2, 1) := by decide +kernel
theorem dX12_areLaid_28 : decode cX12_areLaid 28 = .ok (.baload, 1) := by decide +kernel
theorem dX12_areLaid_29 : decode cX12_areLaid 29 = .ok (.ifCond .eq 7, 3) := by decide +kernel
theorem dX12_areLaid_32 : decode cX12_areLaid 32 = .ok (.iconst 1, 1) := by decide +kernel
theorem dX12_areLaid_33 : decode cX12_areLaid 33 = .ok (.goto 4, 3) := by decide +kernel
theorem dX12_areLaid_36 : decode cX12_areLaid 36 = .ok (.iconst 0, 1) := by decide +kernel
theorem dX12_areLaid_37 : decode cX12_areLaid 37 = .ok (.ireturn, 1) := by decide +kernel
theorem dX12_alike_0 : decode cX12_alike 0 = .ok (.aload_n 0, 1) := by decide +kernel
theorem dX12_alike_1 : decode cX12_alike 1 = .ok (.iconst 0, 1) := by decide +kernel
theorem dX12_alike_2 : decode cX12_alike 2 = .ok (.putfield 1, 3) := by decide +kernel
theorem dX12_alike_5 : decode cX12_alike 5 = .ok (.aload_n 0, 1) := by decide +kernel
theorem dX12_alike_6 : decode cX12_alike 6 = .ok (.iload_n 1, 1) := by decide +kernel
theorem dX12_alike_7 : decode cX12_alike 7 = .ok (.iload_n 2, 1) := by decide +kernel
theorem dX12_alike_8 : decode cX12_alike 8 = .ok (.invokevirtual 370, 3) := by decide +kernel
theorem dX12_alike_11 : decode cX12_alike 11 = .ok (.ifCond .ne 5, 3) := by decide +kernel
theorem dX12_alike_14 : decode cX12_alike 14 = .ok (.iconst (-1), 1) := by decide +kernel
theorem dX12_alike_15 : decode cX12_alike 15 = .ok (.ireturn, 1) := by decide +kernel
theorem dX12_alike_16 : decode cX12_alike 16 = .ok (.aload_n 0, 1) := by decide +kernel
theorem dX12_alike_17 : decode cX12_alike 17 = .ok (.iconst 1, 1) := by decide +kernel
theorem dX12_alike_18 : decode cX12_alike 18 = .ok (.iload_n 1, 1) := by decide +kernel
theorem dX12_alike_19 : decode cX12_alike 19 = .ok (.iadd, 1) := by decide +kernel
theorem dX12_alike_20 : decode cX12_alike 20 = .ok (.iconst 1, 1) := by decide +kernel
theorem dX12_alike_21 : decode cX12_alike 21 = .ok (.iload_n 2, 1) := by decide +kernel
theorem dX12_alike_22 : decode cX12_alike 22 = .ok (.iadd, 1) := by decide +kernel
theorem dX12_alike_23 : decode cX12_alike 23 = .ok (.invokevirtual 373, 3) := by decide +kernel
theorem dX12_alike_26 : decode cX12_alike 26 = .ok (.aload_n 0, 1) := by decide +kernel
theorem dX12_alike_27 : decode cX12_alike 27 = .ok (.getfield 360, 3) := by decide +kernel
theorem dX12_alike_30 : decode cX12_alike 30 = .ok (.ireturn, 1) := by decide +kernel
theorem dX12_telling_0 : decode cX12_telling 0 = .ok (.aload_n 0, 1) := by decide +kernel
theorem dX12_telling_1 : decode cX12_telling 1 = .ok (.iconst 0, 1) := by decide +kernel
theorem dX12_telling_2 : decode cX12_telling 2 = .ok (.putfield 1, 3) := by decide +kernel
theorem dX12_telling_5 : decode cX12_telling 5 = .ok (.aload_n 0, 1) := by decide +kernel
theorem dX12_telling_6 : decode cX12_telling 6 = .ok (.iload_n 1, 1) := by decide +kernel
theorem dX12_telling_7 : decode cX12_telling 7 = .ok (.iload_n 2, 1) := by decide +kernel
theorem dX12_telling_8 : decode cX12_telling 8 = .ok (.invokevirtual 370, 3) := by decide +kernel
theorem dX12_telling_11 : decode cX12_telling 11 = .ok (.ifCond .ne 5, 3) := by decide +kernel
theorem dX12_telling_14 : decode cX12_telling 14 = .ok (.iconst (-1), 1) := by decide +kernel
theorem dX12_telling_15 : decode cX12_telling 15 = .ok (.ireturn, 1) := by decide +kernel
theorem dX12_telling_16 : decode cX12_telling 16 = .ok (.aload_n 0, 1) := by decide +kernel
theorem dX12_telling_17 : decode cX12_telling 17 = .ok (.iconst 1, 1) := by decide +kernel
theorem dX12_telling_18 : decode cX12_telling 18 = .ok (.iload_n 1, 1) := by decide +kernel
theorem dX12_telling_19 : decode cX12_telling 19 = .ok (.iadd, 1) := by decide +kernel
theorem dX12_telling_20 : decode cX12_telling 20 = .ok (.iconst 1, 1) := by decide +kernel
theorem dX12_telling_21 : decode cX12_telling 21 = .ok (.iload_n 2, 1) := by decide +kernel
theorem dX12_telling_22 : decode cX12_telling 22 = .ok (.iadd, 1) := by decide +kernel
theorem dX12_telling_23 : decode cX12_telling 23 = .ok (.invokevirtual 373, 3) := by decide +kernel
theorem dX12_telling_26 : decode cX12_telling 26 = .ok (.iload_n 3, 1) := by decide +kernel
theorem dX12_telling_27 : decode cX12_telling 27 = .ok (.ifCond .lt 20, 3) := by decide +kernel
theorem dX12_telling_30 : decode cX12_telling 30 = .ok (.iload_n 3, 1) := by decide +kernel
theorem dX12_telling_31 : decode cX12_telling 31 = .ok (.aload_n 0, 1) := by decide +kernel
theorem dX12_telling_32 : decode cX12_telling 32 = .ok (.getfield 360, 3) := by decide +kernel
theorem dX12_telling_35 : decode cX12_telling 35 = .ok (.if_icmp .ge 12, 3) := by decide +kernel
theorem dX12_telling_38 : decode cX12_telling 38 = .ok (.aload_n 0, 1) := by decide +kernel
theorem dX12_telling_39 : decode cX12_telling 39 = .ok (.getfield 135, 3) := by decide +kernel
theorem dX12_telling_42 : decode cX12_telling 42 = .ok (.iload_n 3, 1) := by decide +kernel
theorem dX12_telling_43 : decode cX12_telling 43 = .ok (.iaload, 1) := by decide +kernel
theorem dX12_telling_44 : decode cX12_telling 44 = .ok (.goto 4, 3) := by decide +kernel
theorem dX12_telling_47 : decode cX12_telling 47 = .ok (.iconst (-1), 1) := by decide +kernel
theorem dX12_telling_48 : decode cX12_telling 48 = .ok (.ireturn, 1) := by decide +kernel
theorem dX12_isPlace_0 : decode cX12_isPlace 0 = .ok (.iload_n 0, 1) := by decide +kernel
theorem dX12_isPlace_1 : decode cX12_isPlace 1 = .ok (.ifCond .lt 23, 3) := by decide +kernel
theorem dX12_isPlace_4 : decode cX12_isPlace 4 = .ok (.iload_n 0, 1) := by decide +kernel
theorem dX12_isPlace_5 : decode cX12_isPlace 5 = .ok (.bipush 13, 2) := by decide +kernel
theorem dX12_isPlace_7 : decode cX12_isPlace 7 = .ok (.if_icmp .ge 17, 3) := by decide +kernel
theorem dX12_isPlace_10 : decode cX12_isPlace 10 = .ok (.iload_n 1, 1) := by decide +kernel
theorem dX12_isPlace_11 : decode cX12_isPlace 11 = .ok (.ifCond .lt 13, 3) := by decide +kernel
theorem dX12_isPlace_14 : decode cX12_isPlace 14 = .ok (.iload_n 1, 1) := by decide +kernel
theorem dX12_isPlace_15 : decode cX12_isPlace 15 = .ok (.bipush 12, 2) := by decide +kernel
theorem dX12_isPlace_17 : decode cX12_isPlace 17 = .ok (.if_icmp .ge 7, 3) := by decide +kernel
theorem dX12_isPlace_20 : decode cX12_isPlace 20 = .ok (.iconst 1, 1) := by decide +kernel
theorem dX12_isPlace_21 : decode cX12_isPlace 21 = .ok (.goto 4, 3) := by decide +kernel
theorem dX12_isPlace_24 : decode cX12_isPlace 24 = .ok (.iconst 0, 1) := by decide +kernel
theorem dX12_isPlace_25 : decode cX12_isPlace 25 = .ok (.ireturn, 1) := by decide +kernel
theorem dX12_showsSides_0 : decode cX12_showsSides 0 = .ok (.aload_n 0, 1) := by decide +kernel
theorem dX12_showsSides_1 : decode cX12_showsSides 1 = .ok (.getfield 86, 3) := by decide +kernel
theorem dX12_showsSides_4 : decode cX12_showsSides 4 = .ok (.iload_n 1, 1) := by decide +kernel
theorem dX12_showsSides_5 : decode cX12_showsSides 5 = .ok (.iaload, 1) := by decide +kernel
theorem dX12_showsSides_6 : decode cX12_showsSides 6 = .ok (.iconst 4, 1) := by decide +kernel
theorem dX12_showsSides_7 : decode cX12_showsSides 7 = .ok (.if_icmp .eq 14, 3) := by decide +kernel
theorem dX12_showsSides_10 : decode cX12_showsSides 10 = .ok (.aload_n 0, 1) := by decide +kernel
theorem dX12_showsSides_11 : decode cX12_showsSides 11 = .ok (.getfield 86, 3) := by decide +kernel
theorem dX12_showsSides_14 : decode cX12_showsSides 14 = .ok (.iload_n 1, 1) := by decide +kernel
theorem dX12_showsSides_15 : decode cX12_showsSides 15 = .ok (.iaload, 1) := by decide +kernel
theorem dX12_showsSides_16 : decode cX12_showsSides 16 = .ok (.bipush 9, 2) := by decide +kernel
theorem dX12_showsSides_18 : decode cX12_showsSides 18 = .ok (.if_icmp .ne 7, 3) := by decide +kernel
theorem dX12_showsSides_21 : decode cX12_showsSides 21 = .ok (.iconst 1, 1) := by decide +kernel
theorem dX12_showsSides_22 : decode cX12_showsSides 22 = .ok (.goto 4, 3) := by decide +kernel
theorem dX12_showsSides_25 : decode cX12_showsSides 25 = .ok (.iconst 0, 1) := by decide +kernel
theorem dX12_showsSides_26 : decode cX12_showsSides 26 = .ok (.ireturn, 1) := by decide +kernel
theorem dX12_findWish_0 : decode cX12_findWish 0 = .ok (.iconst (-1), 1) := by decide +kernel
theorem dX12_findWish_1 : decode cX12_findWish 1 = .ok (.istore_n 2, 1) := by decide +kernel
theorem dX12_findWish_2 : decode cX12_findWish 2 = .ok (.iconst 0, 1) := by decide +kernel
theorem dX12_findWish_3 : decode cX12_findWish 3 = .ok (.istore_n 3, 1) := by decide +kernel
theorem dX12_findWish_4 : decode cX12_findWish 4 = .ok (.iload_n 3, 1) := by decide +kernel
theorem dX12_findWish_5 : decode cX12_findWish 5 = .ok (.aload_n 0, 1) := by decide +kernel
theorem dX12_findWish_6 : decode cX12_findWish 6 = .ok (.getfield 376, 3) := by decide +kernel
theorem dX12_findWish_9 : decode cX12_findWish 9 = .ok (.if_icmp .ge 25, 3) := by decide +kernel
theorem dX12_findWish_12 : decode cX12_findWish 12 = .ok (.aload_n 0, 1) := by decide +kernel
theorem dX12_findWish_13 : decode cX12_findWish 13 = .ok (.getfield 138, 3) := by decide +kernel
theorem dX12_findWish_16 : decode cX12_findWish 16 = .ok (.iload_n 3, 1) := by decide +kernel
theorem dX12_findWish_17 : decode cX12_findWish 17 = .ok (.iaload, 1) := by decide +kernel
theorem dX12_findWish_18 : decode cX12_findWish 18 = .ok (.iload_n 1, 1) := by decide +kernel
theorem dX12_findWish_19 : decode cX12_findWish 19 = .ok (.if_icmp .ne 7, 3) := by decide +kernel
theorem dX12_findWish_22 : decode cX12_findWish 22 = .ok (.iload_n 3, 1) := by decide +kernel
theorem dX12_findWish_23 : decode cX12_findWish 23 = .ok (.goto 4, 3) := by decide +kernel
theorem dX12_findWish_26 : decode cX12_findWish 26 = .ok (.iload_n 2, 1) := by decide +kernel
theorem dX12_findWish_27 : decode cX12_findWish 27 = .ok (.istore_n 2, 1) := by decide +kernel
theorem dX12_findWish_28 : decode cX12_findWish 28 = .ok (.iinc 3 1, 3) := by decide +kernel
theorem dX12_findWish_31 : decode cX12_findWish 31 = .ok (.goto (-27), 3) := by decide +kernel
theorem dX12_findWish_34 : decode cX12_findWish 34 = .ok (.iload_n 2, 1) := by decide +kernel
theorem dX12_findWish_35 : decode cX12_findWish 35 = .ok (.ireturn, 1) := by decide +kernel
theorem dX12_wish_0 : decode cX12_wish 0 = .ok (.aload_n 0, 1) := by decide +kernel
theorem dX12_wish_1 : decode cX12_wish 1 = .ok (.iconst 0, 1) := by decide +kernel
theorem dX12_wish_2 : decode cX12_wish 2 = .ok (.putfield 1, 3) := by decide +kernel
theorem dX12_wish_5 : decode cX12_wish 5 = .ok (.iload_n 1, 1) := by decide +kernel
theorem dX12_wish_6 : decode cX12_wish 6 = .ok (.iload_n 2, 1) := by decide +kernel
theorem dX12_wish_7 : decode cX12_wish 7 = .ok (.invokestatic 379, 3) := by decide +kernel
theorem dX12_wish_10 : decode cX12_wish 10 = .ok (.ifCond .eq 12, 3) := by decide +kernel
theorem dX12_wish_13 : decode cX12_wish 13 = .ok (.iload_n 3, 1) := by decide +kernel
theorem dX12_wish_14 : decode cX12_wish 14 = .ok (.ifCond .lt 8, 3) := by decide +kernel
theorem dX12_wish_17 : decode cX12_wish 17 = .ok (.iload_n 3, 1) := by decide +kernel
theorem dX12_wish_18 : decode cX12_wish 18 = .ok (.iconst 2, 1) := by decide +kernel
theorem dX12_wish_19 : decode cX12_wish 19 = .ok (.if_icmp .le 5, 3) := by decide +kernel
theorem dX12_wish_22 : decode cX12_wish 22 = .ok (.iconst 0, 1) := by decide +kernel
theorem dX12_wish_23 : decode cX12_wish 23 = .ok (.ireturn, 1) := by decide +kernel
theorem dX12_wish_24 : decode cX12_wish 24 = .ok (.bipush 13, 2) := by decide +kernel
theorem dX12_wish_26 : decode cX12_wish 26 = .ok (.iload_n 2, 1) := by decide +kernel
theorem dX12_wish_27 : decode cX12_wish 27 = .ok (.imul, 1) := by decide +kernel
theorem dX12_wish_28 : decode cX12_wish 28 = .ok (.iload_n 1, 1) := by decide +kernel
theorem dX12_wish_29 : decode cX12_wish 29 = .ok (.iadd, 1) := by decide +kernel
theorem dX12_wish_30 : decode cX12_wish 30 = .ok (.istore 4, 2) := by decide +kernel
theorem dX12_wish_32 : decode cX12_wish 32 = .ok (.aload_n 0, 1) := by decide +kernel
theorem dX12_wish_33 : decode cX12_wish 33 = .ok (.iload 4, 2) := by decide +kernel
theorem dX12_wish_35 : decode cX12_wish 35 = .ok (.invokevirtual 382, 3) := by decide +kernel
theorem dX12_wish_38 : decode cX12_wish 38 = .ok (.istore 5, 2) := by decide +kernel
theorem dX12_wish_40 : decode cX12_wish 40 = .ok (.iload_n 3, 1) := by decide +kernel
theorem dX12_wish_41 : decode cX12_wish 41 = .ok (.iconst 2, 1) := by decide +kernel
theorem dX12_wish_42 : decode cX12_wish 42 = .ok (.if_icmp .ne 80, 3) := by decide +kernel
theorem dX12_wish_45 : decode cX12_wish 45 = .ok (.iload 5, 2) := by decide +kernel
theorem dX12_wish_47 : decode cX12_wish 47 = .ok (.ifCond .ge 10, 3) := by decide +kernel
theorem dX12_wish_50 : decode cX12_wish 50 = .ok (.aload_n 0, 1) := by decide +kernel
theorem dX12_wish_51 : decode cX12_wish 51 = .ok (.iload 4, 2) := by decide +kernel
theorem dX12_wish_53 : decode cX12_wish 53 = .ok (.invokevirtual 385, 3) := by decide +kernel
theorem dX12_wish_56 : decode cX12_wish 56 = .ok (.ireturn, 1) := by decide +kernel
theorem dX12_wish_57 : decode cX12_wish 57 = .ok (.iload 5, 2) := by decide +kernel
theorem dX12_wish_59 : decode cX12_wish 59 = .ok (.istore 6, 2) := by decide +kernel
theorem dX12_wish_61 : decode cX12_wish 61 = .ok (.iload 6, 2) := by decide +kernel
theorem dX12_wish_63 : decode cX12_wish 63 = .ok (.iconst 1, 1) := by decide +kernel
theorem dX12_wish_64 : decode cX12_wish 64 = .ok (.iadd, 1) := by decide +kernel
theorem dX12_wish_65 : decode cX12_wish 65 = .ok (.aload_n 0, 1) := by decide +kernel
theorem dX12_wish_66 : decode cX12_wish 66 = .ok (.getfield 376, 3) := by decide +kernel
theorem dX12_wish_69 : decode cX12_wish 69 = .ok (.if_icmp .ge 41, 3) := by decide +kernel
theorem dX12_wish_72 : decode cX12_wish 72 = .ok (.aload_n 0, 1) := by decide +kernel
theorem dX12_wish_73 : decode cX12_wish 73 = .ok (.getfield 138, 3) := by decide +kernel
theorem dX12_wish_76 : decode cX12_wish 76 = .ok (.iload 6, 2) := by decide +kernel
theorem dX12_wish_78 : decode cX12_wish 78 = .ok (.aload_n 0, 1) := by decide +kernel
theorem dX12_wish_79 : decode cX12_wish 79 = .ok (.getfield 138, 3) := by decide +kernel
theorem dX12_wish_82 : decode cX12_wish 82 = .ok (.iload 6, 2) := by decide +kernel
theorem dX12_wish_84 : decode cX12_wish 84 = .ok (.iconst 1, 1) := by decide +kernel
theorem dX12_wish_85 : decode cX12_wish 85 = .ok (.iadd, 1) := by decide +kernel
theorem dX12_wish_86 : decode cX12_wish 86 = .ok (.iaload, 1) := by decide +kernel
theorem dX12_wish_87 : decode cX12_wish 87 = .ok (.iastore, 1) := by decide +kernel
theorem dX12_wish_88 : decode cX12_wish 88 = .ok (.aload_n 0, 1) := by decide +kernel
theorem dX12_wish_89 : decode cX12_wish 89 = .ok (.getfield 141, 3) := by decide +kernel
theorem dX12_wish_92 : decode cX12_wish 92 = .ok (.iload 6, 2) := by decide +kernel
theorem dX12_wish_94 : decode cX12_wish 94 = .ok (.aload_n 0, 1) := by decide +kernel
theorem dX12_wish_95 : decode cX12_wish 95 = .ok (.getfield 141, 3) := by decide +kernel
theorem dX12_wish_98 : decode cX12_wish 98 = .ok (.iload 6, 2) := by decide +kernel
theorem dX12_wish_100 : decode cX12_wish 100 = .ok (.iconst 1, 1) := by decide +kernel
theorem dX12_wish_101 : decode cX12_wish 101 = .ok (.iadd, 1) := by decide +kernel
theorem dX12_wish_102 : decode cX12_wish 102 = .ok (.iaload, 1) := by decide +kernel
theorem dX12_wish_103 : decode cX12_wish 103 = .ok (.iastore, 1) := by decide +kernel
theorem dX12_wish_104 : decode cX12_wish 104 = .ok (.iinc 6 1, 3) := by decide +kernel
theorem dX12_wish_107 : decode cX12_wish 107 = .ok (.goto (-46), 3) := by decide +kernel
theorem dX12_wish_110 : decode cX12_wish 110 = .ok (.aload_n 0, 1) := by decide +kernel
theorem dX12_wish_111 : decode cX12_wish 111 = .ok (.dup, 1) := by decide +kernel
theorem dX12_wish_112 : decode cX12_wish 112 = .ok (.getfield 376, 3) := by decide +kernel
theorem dX12_wish_115 : decode cX12_wish 115 = .ok (.iconst 1, 1) := by decide +kernel
theorem dX12_wish_116 : decode cX12_wish 116 = .ok (.isub, 1) := by decide +kernel
theorem dX12_wish_117 : decode cX12_wish 117 = .ok (.putfield 376, 3) := by decide +kernel
theorem dX12_wish_120 : decode cX12_wish 120 = .ok (.iconst 1, 1) := by decide +kernel
theorem dX12_wish_121 : decode cX12_wish 121 = .ok (.ireturn, 1) := by decide +kernel
theorem dX12_wish_122 : decode cX12_wish 122 = .ok (.aload_n 0, 1) := by decide +kernel
theorem dX12_wish_123 : decode cX12_wish 123 = .ok (.iload 4, 2) := by decide +kernel
theorem dX12_wish_125 : decode cX12_wish 125 = .ok (.invokevirtual 385, 3) := by decide +kernel
theorem dX12_wish_128 : decode cX12_wish 128 = .ok (.ifCond .eq 17, 3) := by decide +kernel
theorem dX12_wish_131 : decode cX12_wish 131 = .ok (.iload 5, 2) := by decide +kernel
theorem dX12_wish_133 : decode cX12_wish 133 = .ok (.ifCond .ge 14, 3) := by decide +kernel
theorem dX12_wish_136 : decode cX12_wish 136 = .ok (.aload_n 0, 1) := by decide +kernel
theorem dX12_wish_137 : decode cX12_wish 137 = .ok (.getfield 376, 3) := by decide +kernel
theorem dX12_wish_140 : decode cX12_wish 140 = .ok (.bipush 12, 2) := by decide +kernel
theorem dX12_wish_142 : decode cX12_wish 142 = .ok (.if_icmp .ne 5, 3) := by decide +kernel
theorem dX12_wish_145 : decode cX12_wish 145 = .ok (.iconst 0, 1) := by decide +kernel
theorem dX12_wish_146 : decode cX12_wish 146 = .ok (.ireturn, 1) := by decide +kernel
theorem dX12_wish_147 : decode cX12_wish 147 = .ok (.iload 5, 2) := by decide +kernel
theorem dX12_wish_149 : decode cX12_wish 149 = .ok (.ifCond .ge 10, 3) := by decide +kernel
theorem dX12_wish_152 : decode cX12_wish 152 = .ok (.aload_n 0, 1) := by decide +kernel
theorem dX12_wish_153 : decode cX12_wish 153 = .ok (.getfield 376, 3) := by decide +kernel
theorem dX12_wish_156 : decode cX12_wish 156 = .ok (.goto 5, 3) := by decide +kernel
theorem dX12_wish_159 : decode cX12_wish 159 = .ok (.iload 5, 2) := by decide +kernel
theorem dX12_wish_161 : decode cX12_wish 161 = .ok (.istore 6, 2) := by decide +kernel
theorem dX12_wish_163 : decode cX12_wish 163 = .ok (.aload_n 0, 1) := by decide +kernel
theorem dX12_wish_164 : decode cX12_wish 164 = .ok (.getfield 138, 3) := by decide +kernel
theorem dX12_wish_167 : decode cX12_wish 167 = .ok (.iload 6, 2) := by decide +kernel
theorem dX12_wish_169 : decode cX12_wish 169 = .ok (.iload 4, 2) := by decide +kernel
theorem dX12_wish_171 : decode cX12_wish 171 = .ok (.iastore, 1) := by decide +kernel
theorem dX12_wish_172 : decode cX12_wish 172 = .ok (.aload_n 0, 1) := by decide +kernel
theorem dX12_wish_173 : decode cX12_wish 173 = .ok (.getfield 141, 3) := by decide +kernel
theorem dX12_wish_176 : decode cX12_wish 176 = .ok (.iload 6, 2) := by decide +kernel
theorem dX12_wish_178 : decode cX12_wish 178 = .ok (.iload_n 3, 1) := by decide +kernel
theorem dX12_wish_179 : decode cX12_wish 179 = .ok (.iastore, 1) := by decide +kernel
theorem dX12_wish_180 : decode cX12_wish 180 = .ok (.aload_n 0, 1) := by decide +kernel
theorem dX12_wish_181 : decode cX12_wish 181 = .ok (.dup, 1) := by decide +kernel
theorem dX12_wish_182 : decode cX12_wish 182 = .ok (.getfield 376, 3) := by decide +kernel
theorem dX12_wish_185 : decode cX12_wish 185 = .ok (.iload 5, 2) := by decide +kernel
theorem dX12_wish_187 : decode cX12_wish 187 = .ok (.ifCond .ge 7, 3) := by decide +kernel
theorem dX12_wish_190 : decode cX12_wish 190 = .ok (.iconst 1, 1) := by decide +kernel
theorem dX12_wish_191 : decode cX12_wish 191 = .ok (.goto 4, 3) := by decide +kernel
theorem dX12_wish_194 : decode cX12_wish 194 = .ok (.iconst 0, 1) := by decide +kernel
theorem dX12_wish_195 : decode cX12_wish 195 = .ok (.iadd, 1) := by decide +kernel
theorem dX12_wish_196 : decode cX12_wish 196 = .ok (.putfield 376, 3) := by decide +kernel
theorem dX12_wish_199 : decode cX12_wish 199 = .ok (.iconst 1, 1) := by decide +kernel
theorem dX12_wish_200 : decode cX12_wish 200 = .ok (.ireturn, 1) := by decide +kernel
theorem dX12_isWished_0 : decode cX12_isWished 0 = .ok (.iconst 1, 1) := by decide +kernel
theorem dX12_isWished_1 : decode cX12_isWished 1 = .ok (.istore_n 1, 1) := by decide +kernel
theorem dX12_isWished_2 : decode cX12_isWished 2 = .ok (.iconst 0, 1) := by decide +kernel
theorem dX12_isWished_3 : decode cX12_isWished 3 = .ok (.istore_n 2, 1) := by decide +kernel
theorem dX12_isWished_4 : decode cX12_isWished 4 = .ok (.iload_n 2, 1) := by decide +kernel
theorem dX12_isWished_5 : decode cX12_isWished 5 = .ok (.aload_n 0, 1) := by decide +kernel
theorem dX12_isWished_6 : decode cX12_isWished 6 = .ok (.getfield 376, 3) := by decide +kernel
theorem dX12_isWished_9 : decode cX12_isWished 9 = .ok (.if_icmp .ge 43, 3) := by decide +kernel
theorem dX12_isWished_12 : decode cX12_isWished 12 = .ok (.iload_n 1, 1) := by decide +kernel
theorem dX12_isWished_13 : decode cX12_isWished 13 = .ok (.ifCond .eq 31, 3) := by decide +kernel
theorem dX12_isWished_16 : decode cX12_isWished 16 = .ok (.aload_n 0, 1) := by decide +kernel
theorem dX12_isWished_17 : decode cX12_isWished 17 = .ok (.getfield 92, 3) := by decide +kernel
theorem dX12_isWished_20 : decode cX12_isWished 20 = .ok (.sipush 4056, 3) := by decide +kernel
theorem dX12_isWished_23 : decode cX12_isWished 23 = .ok (.aload_n 0, 1) := by decide +kernel
theorem dX12_isWished_24 : decode cX12_isWished 24 = .ok (.getfield 138, 3) := by decide +kernel
theorem dX12_isWished_27 : decode cX12_isWished 27 = .ok (.iload_n 2, 1) := by decide +kernel
theorem dX12_isWished_28 : decode cX12_isWished 28 = .ok (.iaload, 1) := by decide +kernel
theorem dX12_isWished_29 : decode cX12_isWished 29 = .ok (.iadd, 1) := by decide +kernel
theorem dX12_isWished_30 : decode cX12_isWished 30 = .ok (.iaload, 1) := by decide +kernel
theorem dX12_isWished_31 : decode cX12_isWished 31 = .ok (.aload_n 0, 1) := by decide +kernel
theorem dX12_isWished_32 : decode cX12_isWished 32 = .ok (.getfield 141, 3) := by decide +kernel
theorem dX12_isWished_35 : decode cX12_isWished 35 = .ok (.iload_n 2, 1) := by decide +kernel
theorem dX12_isWished_36 : decode cX12_isWished 36 = .ok (.iaload, 1) := by decide +kernel
theorem dX12_isWished_37 : decode cX12_isWished 37 = .ok (.if_icmp .ne 7, 3) := by decide +kernel
theorem dX12_isWished_40 : decode cX12_isWished 40 = .ok (.iconst 1, 1) := by decide +kernel
theorem dX12_isWished_41 : decode cX12_isWished 41 = .ok (.goto 4, 3) := by decide +kernel
theorem dX12_isWished_44 : decode cX12_isWished 44 = .ok (.iconst 0, 1) := by decide +kernel
theorem dX12_isWished_45 : decode cX12_isWished 45 = .ok (.istore_n 1, 1) := by decide +kernel
theorem dX12_isWished_46 : decode cX12_isWished 46 = .ok (.iinc 2 1, 3) := by decide +kernel
theorem dX12_isWished_49 : decode cX12_isWished 49 = .ok (.goto (-45), 3) := by decide +kernel
theorem dX12_isWished_52 : decode cX12_isWished 52 = .ok (.iload_n 1, 1) := by decide +kernel
theorem dX12_isWished_53 : decode cX12_isWished 53 = .ok (.ireturn, 1) := by decide +kernel
theorem dX12_findWay_0 : decode cX12_findWay 0 = .ok (.aload_n 0, 1) := by decide +kernel
theorem dX12_findWay_1 : decode cX12_findWay 1 = .ok (.iconst (-1), 1) := by decide +kernel
theorem dX12_findWay_2 : decode cX12_findWay 2 = .ok (.putfield 360, 3) := by decide +kernel
theorem dX12_findWay_5 : decode cX12_findWay 5 = .ok (.iconst 0, 1) := by decide +kernel
theorem dX12_findWay_6 : decode cX12_findWay 6 = .ok (.istore_n 1, 1) := by decide +kernel
theorem dX12_findWay_7 : decode cX12_findWay 7 = .ok (.iload_n 1, 1) := by decide +kernel
theorem dX12_findWay_8 : decode cX12_findWay 8 = .ok (.aload_n 0, 1) := by decide +kernel
theorem dX12_findWay_9 : decode cX12_findWay 9 = .ok (.getfield 376, 3) := by decide +kernel
theorem dX12_findWay_12 : decode cX12_findWay 12 = .ok (.if_icmp .ge 23, 3) := by decide +kernel
theorem dX12_findWay_15 : decode cX12_findWay 15 = .ok (.aload_n 0, 1) := by decide +kernel
theorem dX12_findWay_16 : decode cX12_findWay 16 = .ok (.aload_n 0, 1) := by decide +kernel
theorem dX12_findWay_17 : decode cX12_findWay 17 = .ok (.getfield 138, 3) := by decide +kernel
theorem dX12_findWay_20 : decode cX12_findWay 20 = .ok (.iload_n 1, 1) := by decide +kernel
theorem dX12_findWay_21 : decode cX12_findWay 21 = .ok (.iaload, 1) := by decide +kernel
theorem dX12_findWay_22 : decode cX12_findWay 22 = .ok (.invokevirtual 385, 3) := by decide +kernel
theorem dX12_findWay_25 : decode cX12_findWay 25 = .ok (.ifCond .ne 4, 3) := by decide +kernel
theorem dX12_findWay_28 : decode cX12_findWay 28 = .ok (.return_, 1) := by decide +kernel
theorem dX12_findWay_29 : decode cX12_findWay 29 = .ok (.iinc 1 1, 3) := by decide +kernel
theorem dX12_findWay_32 : decode cX12_findWay 32 = .ok (.goto (-25), 3) := by decide +kernel
theorem dX12_findWay_35 : decode cX12_findWay 35 = .ok (.aload_n 0, 1) := by decide +kernel
theorem dX12_findWay_36 : decode cX12_findWay 36 = .ok (.iconst 0, 1) := by decide +kernel
theorem dX12_findWay_37 : decode cX12_findWay 37 = .ok (.bipush 26, 2) := by decide +kernel
theorem dX12_findWay_39 : decode cX12_findWay 39 = .ok (.invokevirtual 256, 3) := by decide +kernel
theorem dX12_findWay_42 : decode cX12_findWay 42 = .ok (.aload_n 0, 1) := by decide +kernel
theorem dX12_findWay_43 : decode cX12_findWay 43 = .ok (.bipush 26, 2) := by decide +kernel
theorem dX12_findWay_45 : decode cX12_findWay 45 = .ok (.iconst 0, 1) := by decide +kernel
theorem dX12_findWay_46 : decode cX12_findWay 46 = .ok (.invokevirtual 309, 3) := by decide +kernel
theorem dX12_findWay_49 : decode cX12_findWay 49 = .ok (.aload_n 0, 1) := by decide +kernel
theorem dX12_findWay_50 : decode cX12_findWay 50 = .ok (.invokevirtual 337, 3) := by decide +kernel
theorem dX12_findWay_53 : decode cX12_findWay 53 = .ok (.aload_n 0, 1) := by decide +kernel
theorem dX12_findWay_54 : decode cX12_findWay 54 = .ok (.aload_n 0, 1) := by decide +kernel
theorem dX12_findWay_55 : decode cX12_findWay 55 = .ok (.bipush 26, 2) := by decide +kernel
theorem dX12_findWay_57 : decode cX12_findWay 57 = .ok (.invokevirtual 340, 3) := by decide +kernel
theorem dX12_findWay_60 : decode cX12_findWay 60 = .ok (.lconst 0, 1) := by decide +kernel
theorem dX12_findWay_61 : decode cX12_findWay 61 = .ok (.iconst (-1), 1) := by decide +kernel
theorem dX12_findWay_62 : decode cX12_findWay 62 = .ok (.iconst (-1), 1) := by decide +kernel
theorem dX12_findWay_63 : decode cX12_findWay 63 = .ok (.sipush 3000, 3) := by decide +kernel
theorem dX12_findWay_66 : decode cX12_findWay 66 = .ok (.invokevirtual 350, 3) := by decide +kernel
theorem dX12_findWay_69 : decode cX12_findWay 69 = .ok (.istore_n 1, 1) := by decide +kernel
theorem dX12_findWay_70 : decode cX12_findWay 70 = .ok (.aload_n 0, 1) := by decide +kernel
theorem dX12_findWay_71 : decode cX12_findWay 71 = .ok (.invokevirtual 388, 3) := by decide +kernel
theorem dX12_findWay_74 : decode cX12_findWay 74 = .ok (.ifCond .eq 9, 3) := by decide +kernel
theorem dX12_findWay_77 : decode cX12_findWay 77 = .ok (.aload_n 0, 1) := by decide +kernel
theorem dX12_findWay_78 : decode cX12_findWay 78 = .ok (.iconst 0, 1) := by decide +kernel
theorem dX12_findWay_79 : decode cX12_findWay 79 = .ok (.putfield 360, 3) := by decide +kernel
theorem dX12_findWay_82 : decode cX12_findWay 82 = .ok (.return_, 1) := by decide +kernel
theorem dX12_findWay_83 : decode cX12_findWay 83 = .ok (.iconst 0, 1) := by decide +kernel
theorem dX12_findWay_84 : decode cX12_findWay 84 = .ok (.istore_n 2, 1) := by decide +kernel
theorem dX12_findWay_85 : decode cX12_findWay 85 = .ok (.iload_n 2, 1) := by decide +kernel
theorem dX12_findWay_86 : decode cX12_findWay 86 = .ok (.aload_n 0, 1) := by decide +kernel
theorem dX12_findWay_87 : decode cX12_findWay 87 = .ok (.getfield 324, 3) := by decide +kernel
theorem dX12_findWay_90 : decode cX12_findWay 90 = .ok (.if_icmp .ge 100, 3) := by decide +kernel
theorem dX12_findWay_93 : decode cX12_findWay 93 = .ok (.iconst 0, 1) := by decide +kernel
theorem dX12_findWay_94 : decode cX12_findWay 94 = .ok (.istore_n 3, 1) := by decide +kernel
theorem dX12_findWay_95 : decode cX12_findWay 95 = .ok (.iload_n 3, 1) := by decide +kernel
theorem dX12_findWay_96 : decode cX12_findWay 96 = .ok (.iconst 4, 1) := by decide +kernel
theorem dX12_findWay_97 : decode cX12_findWay 97 = .ok (.if_icmp .ge 87, 3) := by decide +kernel
theorem dX12_findWay_100 : decode cX12_findWay 100 = .ok (.aload_n 0, 1) := by decide +kernel
theorem dX12_findWay_101 : decode cX12_findWay 101 = .ok (.bipush 26, 2) := by decide +kernel
theorem dX12_findWay_103 : decode cX12_findWay 103 = .ok (.aload_n 0, 1) := by decide +kernel
theorem dX12_findWay_104 : decode cX12_findWay 104 = .ok (.getfield 116, 3) := by decide +kernel
theorem dX12_findWay_107 : decode cX12_findWay 107 = .ok (.iload_n 2, 1) := by decide +kernel
theorem dX12_findWay_108 : decode cX12_findWay 108 = .ok (.laload, 1) := by decide +kernel
theorem dX12_findWay_109 : decode cX12_findWay 109 = .ok (.invokevirtual 363, 3) := by decide +kernel
theorem dX12_findWay_112 : decode cX12_findWay 112 = .ok (.aload_n 0, 1) := by decide +kernel
theorem dX12_findWay_113 : decode cX12_findWay 113 = .ok (.bipush 26, 2) := by decide +kernel
theorem dX12_findWay_115 : decode cX12_findWay 115 = .ok (.iconst 0, 1) := by decide +kernel
theorem dX12_findWay_116 : decode cX12_findWay 116 = .ok (.iload_n 3, 1) := by decide +kernel
theorem dX12_findWay_117 : decode cX12_findWay 117 = .ok (.bipush (-2), 2) := by decide +kernel
theorem dX12_findWay_119 : decode cX12_findWay 119 = .ok (.invokevirtual 312, 3) := by decide +kernel
theorem dX12_findWay_122 : decode cX12_findWay 122 = .ok (.istore 4, 2) := by decide +kernel
theorem dX12_findWay_124 : decode cX12_findWay 124 = .ok (.aload_n 0, 1) := by decide +kernel
theorem dX12_findWay_125 : decode cX12_findWay 125 = .ok (.getfield 324, 3) := by decide +kernel
theorem dX12_findWay_128 : decode cX12_findWay 128 = .ok (.istore 5, 2) := by decide +kernel
theorem dX12_findWay_130 : decode cX12_findWay 130 = .ok (.aload_n 0, 1) := by decide +kernel
theorem dX12_findWay_131 : decode cX12_findWay 131 = .ok (.aload_n 0, 1) := by decide +kernel
theorem dX12_findWay_132 : decode cX12_findWay 132 = .ok (.bipush 26, 2) := by decide +kernel
theorem dX12_findWay_134 : decode cX12_findWay 134 = .ok (.invokevirtual 340, 3) := by decide +kernel
theorem dX12_findWay_137 : decode cX12_findWay 137 = .ok (.lconst 0, 1) := by decide +kernel
theorem dX12_findWay_138 : decode cX12_findWay 138 = .ok (.iload_n 2, 1) := by decide +kernel
theorem dX12_findWay_139 : decode cX12_findWay 139 = .ok (.iload_n 3, 1) := by decide +kernel
theorem dX12_findWay_140 : decode cX12_findWay 140 = .ok (.sipush 3000, 3) := by decide +kernel
theorem dX12_findWay_143 : decode cX12_findWay 143 = .ok (.invokevirtual 350, 3) := by decide +kernel
theorem dX12_findWay_146 : decode cX12_findWay 146 = .ok (.ifCond .ne 4, 3) := by decide +kernel
theorem dX12_findWay_149 : decode cX12_findWay 149 = .ok (.return_, 1) := by decide +kernel
theorem dX12_findWay_150 : decode cX12_findWay 150 = .ok (.aload_n 0, 1) := by decide +kernel
theorem dX12_findWay_151 : decode cX12_findWay 151 = .ok (.getfield 324, 3) := by decide +kernel
theorem dX12_findWay_154 : decode cX12_findWay 154 = .ok (.iload 5, 2) := by decide +kernel
theorem dX12_findWay_156 : decode cX12_findWay 156 = .ok (.if_icmp .le 22, 3) := by decide +kernel
theorem dX12_findWay_159 : decode cX12_findWay 159 = .ok (.aload_n 0, 1) := by decide +kernel
theorem dX12_findWay_160 : decode cX12_findWay 160 = .ok (.invokevirtual 388, 3) := by decide +kernel
theorem dX12_findWay_163 : decode cX12_findWay 163 = .ok (.ifCond .eq 15, 3) := by decide +kernel
theorem dX12_findWay_166 : decode cX12_findWay 166 = .ok (.aload_n 0, 1) := by decide +kernel
theorem dX12_findWay_167 : decode cX12_findWay 167 = .ok (.aload_n 0, 1) := by decide +kernel
theorem dX12_findWay_168 : decode cX12_findWay 168 = .ok (.getfield 324, 3) := by decide +kernel
theorem dX12_findWay_171 : decode cX12_findWay 171 = .ok (.iconst 1, 1) := by decide +kernel
theorem dX12_findWay_172 : decode cX12_findWay 172 = .ok (.isub, 1) := by decide +kernel
theorem dX12_findWay_173 : decode cX12_findWay 173 = .ok (.iconst (-1), 1) := by decide +kernel
theorem dX12_findWay_174 : decode cX12_findWay 174 = .ok (.invokevirtual 367, 3) := by decide +kernel
theorem dX12_findWay_177 : decode cX12_findWay 177 = .ok (.return_, 1) := by decide +kernel
theorem dX12_findWay_178 : decode cX12_findWay 178 = .ok (.iinc 3 1, 3) := by decide +kernel
theorem dX12_findWay_181 : decode cX12_findWay 181 = .ok (.goto (-86), 3) := by decide +kernel
theorem dX12_findWay_184 : decode cX12_findWay 184 = .ok (.iinc 2 1, 3) := by decide +kernel
theorem dX12_findWay_187 : decode cX12_findWay 187 = .ok (.goto (-102), 3) := by decide +kernel
theorem dX12_findWay_190 : decode cX12_findWay 190 = .ok (.return_, 1) := by decide +kernel
theorem dX12_way_0 : decode cX12_way 0 = .ok (.aload_n 0, 1) := by decide +kernel
theorem dX12_way_1 : decode cX12_way 1 = .ok (.iconst 0, 1) := by decide +kernel
theorem dX12_way_2 : decode cX12_way 2 = .ok (.putfield 1, 3) := by decide +kernel
theorem dX12_way_5 : decode cX12_way 5 = .ok (.aload_n 0, 1) := by decide +kernel
theorem dX12_way_6 : decode cX12_way 6 = .ok (.invokevirtual 391, 3) := by decide +kernel
theorem dX12_way_9 : decode cX12_way 9 = .ok (.aload_n 0, 1) := by decide +kernel
theorem dX12_way_10 : decode cX12_way 10 = .ok (.getfield 360, 3) := by decide +kernel
theorem dX12_way_13 : decode cX12_way 13 = .ok (.ireturn, 1) := by decide +kernel
theorem dX12_step_0 : decode cX12_step 0 = .ok (.aload_n 0, 1) := by decide +kernel
theorem dX12_step_1 : decode cX12_step 1 = .ok (.iconst 0, 1) := by decide +kernel
theorem dX12_step_2 : decode cX12_step 2 = .ok (.putfield 1, 3) := by decide +kernel
theorem dX12_step_5 : decode cX12_step 5 = .ok (.aload_n 0, 1) := by decide +kernel
theorem dX12_step_6 : decode cX12_step 6 = .ok (.invokevirtual 391, 3) := by decide +kernel
theorem dX12_step_9 : decode cX12_step 9 = .ok (.iload_n 1, 1) := by decide +kernel
theorem dX12_step_10 : decode cX12_step 10 = .ok (.ifCond .lt 20, 3) := by decide +kernel
theorem dX12_step_13 : decode cX12_step 13 = .ok (.iload_n 1, 1) := by decide +kernel
theorem dX12_step_14 : decode cX12_step 14 = .ok (.aload_n 0, 1) := by decide +kernel
theorem dX12_step_15 : decode cX12_step 15 = .ok (.getfield 360, 3) := by decide +kernel
theorem dX12_step_18 : decode cX12_step 18 = .ok (.if_icmp .ge 12, 3) := by decide +kernel
theorem dX12_step_21 : decode cX12_step 21 = .ok (.aload_n 0, 1) := by decide +kernel
theorem dX12_step_22 : decode cX12_step 22 = .ok (.getfield 135, 3) := by decide +kernel
theorem dX12_step_25 : decode cX12_step 25 = .ok (.iload_n 1, 1) := by decide +kernel
theorem dX12_step_26 : decode cX12_step 26 = .ok (.iaload, 1) := by decide +kernel
theorem dX12_step_27 : decode cX12_step 27 = .ok (.goto 4, 3) := by decide +kernel
theorem dX12_step_30 : decode cX12_step 30 = .ok (.iconst (-1), 1) := by decide +kernel
theorem dX12_step_31 : decode cX12_step 31 = .ok (.ireturn, 1) := by decide +kernel
theorem dX12_sight_0 : decode cX12_sight 0 = .ok (.aload_n 0, 1) := by decide +kernel
theorem dX12_sight_1 : decode cX12_sight 1 = .ok (.iconst 0, 1) := by decide +kernel
theorem dX12_sight_2 : decode cX12_sight 2 = .ok (.putfield 1, 3) := by decide +kernel
theorem dX12_sight_5 : decode cX12_sight 5 = .ok (.iload_n 1, 1) := by decide +kernel
theorem dX12_sight_6 : decode cX12_sight 6 = .ok (.iconst (-1), 1) := by decide +kernel
theorem dX12_sight_7 : decode cX12_sight 7 = .ok (.if_icmp .ne 10, 3) := by decide +kernel
theorem dX12_sight_10 : decode cX12_sight 10 = .ok (.aload_n 0, 1) := by decide +kernel
theorem dX12_sight_11 : decode cX12_sight 11 = .ok (.iconst 0, 1) := by decide +kernel
theorem dX12_sight_12 : decode cX12_sight 12 = .ok (.putfield 394, 3) := by decide +kernel
theorem dX12_sight_15 : decode cX12_sight 15 = .ok (.iconst 0, 1) := by decide +kernel
theorem dX12_sight_16 : decode cX12_sight 16 = .ok (.ireturn, 1) := by decide +kernel
theorem dX12_sight_17 : decode cX12_sight 17 = .ok (.iload_n 1, 1) := by decide +kernel
theorem dX12_sight_18 : decode cX12_sight 18 = .ok (.invokestatic 306, 3) := by decide +kernel
theorem dX12_sight_21 : decode cX12_sight 21 = .ok (.ifCond .eq 23, 3) := by decide +kernel
theorem dX12_sight_24 : decode cX12_sight 24 = .ok (.iload_n 2, 1) := by decide +kernel
theorem dX12_sight_25 : decode cX12_sight 25 = .ok (.ifCond .lt 19, 3) := by decide +kernel
theorem dX12_sight_28 : decode cX12_sight 28 = .ok (.iload_n 2, 1) := by decide +kernel
theorem dX12_sight_29 : decode cX12_sight 29 = .ok (.sipush 1000, 3) := by decide +kernel
theorem dX12_sight_32 : decode cX12_sight 32 = .ok (.if_icmp .gt 12, 3) := by decide +kernel
theorem dX12_sight_35 : decode cX12_sight 35 = .ok (.aload_n 0, 1) := by decide +kernel
theorem dX12_sight_36 : decode cX12_sight 36 = .ok (.getfield 394, 3) := by decide +kernel
theorem dX12_sight_39 : decode cX12_sight 39 = .ok (.bipush 60, 2) := by decide +kernel
theorem dX12_sight_41 : decode cX12_sight 41 = .ok (.if_icmp .ne 5, 3) := by decide +kernel
theorem dX12_sight_44 : decode cX12_sight 44 = .ok (.iconst (-1), 1) := by decide +kernel
theorem dX12_sight_45 : decode cX12_sight 45 = .ok (.ireturn, 1) := by decide +kernel
theorem dX12_sight_46 : decode cX12_sight 46 = .ok (.aload_n 0, 1) := by decide +kernel
theorem dX12_sight_47 : decode cX12_sight 47 = .ok (.getfield 144, 3) := by decide +kernel
theorem dX12_sight_50 : decode cX12_sight 50 = .ok (.aload_n 0, 1) := by decide +kernel
theorem dX12_sight_51 : decode cX12_sight 51 = .ok (.getfield 394, 3) := by decide +kernel
theorem dX12_sight_54 : decode cX12_sight 54 = .ok (.iload_n 1, 1) := by decide +kernel
theorem dX12_sight_55 : decode cX12_sight 55 = .ok (.iastore, 1) := by decide +kernel
theorem dX12_sight_56 : decode cX12_sight 56 = .ok (.aload_n 0, 1) := by decide +kernel
theorem dX12_sight_57 : decode cX12_sight 57 = .ok (.getfield 147, 3) := by decide +kernel
theorem dX12_sight_60 : decode cX12_sight 60 = .ok (.aload_n 0, 1) := by decide +kernel
theorem dX12_sight_61 : decode cX12_sight 61 = .ok (.getfield 394, 3) := by decide +kernel
theorem dX12_sight_64 : decode cX12_sight 64 = .ok (.iload_n 2, 1) := by decide +kernel
theorem dX12_sight_65 : decode cX12_sight 65 = .ok (.iastore, 1) := by decide +kernel
theorem dX12_sight_66 : decode cX12_sight 66 = .ok (.aload_n 0, 1) := by decide +kernel
theorem dX12_sight_67 : decode cX12_sight 67 = .ok (.dup, 1) := by decide +kernel
theorem dX12_sight_68 : decode cX12_sight 68 = .ok (.getfield 394, 3) := by decide +kernel
theorem dX12_sight_71 : decode cX12_sight 71 = .ok (.iconst 1, 1) := by decide +kernel
theorem dX12_sight_72 : decode cX12_sight 72 = .ok (.iadd, 1) := by decide +kernel
theorem dX12_sight_73 : decode cX12_sight 73 = .ok (.putfield 394, 3) := by decide +kernel
theorem dX12_sight_76 : decode cX12_sight 76 = .ok (.aload_n 0, 1) := by decide +kernel
theorem dX12_sight_77 : decode cX12_sight 77 = .ok (.getfield 394, 3) := by decide +kernel
theorem dX12_sight_80 : decode cX12_sight 80 = .ok (.iconst 1, 1) := by decide +kernel
theorem dX12_sight_81 : decode cX12_sight 81 = .ok (.isub, 1) := by decide +kernel
theorem dX12_sight_82 : decode cX12_sight 82 = .ok (.ireturn, 1) := by decide +kernel
theorem dX12_suspects_0 : decode cX12_suspects 0 = .ok (.aload_n 0, 1) := by decide +kernel
theorem dX12_suspects_1 : decode cX12_suspects 1 = .ok (.iconst 1, 1) := by decide +kernel
theorem dX12_suspects_2 : decode cX12_suspects 2 = .ok (.iload_n 1, 1) := by decide +kernel
theorem dX12_suspects_3 : decode cX12_suspects 3 = .ok (.iadd, 1) := by decide +kernel
theorem dX12_suspects_4 : decode cX12_suspects 4 = .ok (.bipush 26, 2) := by decide +kernel
theorem dX12_suspects_6 : decode cX12_suspects 6 = .ok (.invokevirtual 256, 3) := by decide +kernel
theorem dX12_suspects_9 : decode cX12_suspects 9 = .ok (.iconst 1, 1) := by decide +kernel
theorem dX12_suspects_10 : decode cX12_suspects 10 = .ok (.istore 4, 2) := by decide +kernel
theorem dX12_suspects_12 : decode cX12_suspects 12 = .ok (.iconst 0, 1) := by decide +kernel
theorem dX12_suspects_13 : decode cX12_suspects 13 = .ok (.istore 5, 2) := by decide +kernel
theorem dX12_suspects_15 : decode cX12_suspects 15 = .ok (.iload 5, 2) := by decide +kernel
theorem dX12_suspects_17 : decode cX12_suspects 17 = .ok (.aload_n 0, 1) := by decide +kernel
theorem dX12_suspects_18 : decode cX12_suspects 18 = .ok (.getfield 394, 3) := by decide +kernel
theorem dX12_suspects_21 : decode cX12_suspects 21 = .ok (.if_icmp .ge 46, 3) := by decide +kernel
theorem dX12_suspects_24 : decode cX12_suspects 24 = .ok (.iload 4, 2) := by decide +kernel
theorem dX12_suspects_26 : decode cX12_suspects 26 = .ok (.ifCond .eq 41, 3) := by decide +kernel
theorem dX12_suspects_29 : decode cX12_suspects 29 = .ok (.aload_n 0, 1) := by decide +kernel
theorem dX12_suspects_30 : decode cX12_suspects 30 = .ok (.bipush 26, 2) := by decide +kernel
theorem dX12_suspects_32 : decode cX12_suspects 32 = .ok (.iconst 0, 1) := by decide +kernel
theorem dX12_suspects_33 : decode cX12_suspects 33 = .ok (.aload_n 0, 1) := by decide +kernel
theorem dX12_suspects_34 : decode cX12_suspects 34 = .ok (.getfield 144, 3) := by decide +kernel
theorem dX12_suspects_37 : decode cX12_suspects 37 = .ok (.iload 5, 2) := by decide +kernel
theorem dX12_suspects_39 : decode cX12_suspects 39 = .ok (.iaload, 1) := by decide +kernel
theorem dX12_suspects_40 : decode cX12_suspects 40 = .ok (.iload_n 3, 1) := by decide +kernel
theorem dX12_suspects_41 : decode cX12_suspects 41 = .ok (.invokevirtual 312, 3) := by decide +kernel
theorem dX12_suspects_44 : decode cX12_suspects 44 = .ok (.aload_n 0, 1) := by decide +kernel
theorem dX12_suspects_45 : decode cX12_suspects 45 = .ok (.getfield 147, 3) := by decide +kernel
theorem dX12_suspects_48 : decode cX12_suspects 48 = .ok (.iload 5, 2) := by decide +kernel
theorem dX12_suspects_50 : decode cX12_suspects 50 = .ok (.iaload, 1) := by decide +kernel
theorem dX12_suspects_51 : decode cX12_suspects 51 = .ok (.if_icmp .ne 7, 3) := by decide +kernel
theorem dX12_suspects_54 : decode cX12_suspects 54 = .ok (.iconst 1, 1) := by decide +kernel
theorem dX12_suspects_55 : decode cX12_suspects 55 = .ok (.goto 4, 3) := by decide +kernel
theorem dX12_suspects_58 : decode cX12_suspects 58 = .ok (.iconst 0, 1) := by decide +kernel
theorem dX12_suspects_59 : decode cX12_suspects 59 = .ok (.istore 4, 2) := by decide +kernel
theorem dX12_suspects_61 : decode cX12_suspects 61 = .ok (.iinc 5 1, 3) := by decide +kernel
theorem dX12_suspects_64 : decode cX12_suspects 64 = .ok (.goto (-49), 3) := by decide +kernel
theorem dX12_suspects_67 : decode cX12_suspects 67 = .ok (.iload 4, 2) := by decide +kernel
theorem dX12_suspects_69 : decode cX12_suspects 69 = .ok (.ifCond .eq 78, 3) := by decide +kernel
theorem dX12_suspects_72 : decode cX12_suspects 72 = .ok (.aload_n 0, 1) := by decide +kernel
theorem dX12_suspects_73 : decode cX12_suspects 73 = .ok (.bipush 26, 2) := by decide +kernel
theorem dX12_suspects_75 : decode cX12_suspects 75 = .ok (.invokevirtual 340, 3) := by decide +kernel
theorem dX12_suspects_78 : decode cX12_suspects 78 = .ok (.lstore 5, 2) := by decide +kernel
theorem dX12_suspects_80 : decode cX12_suspects 80 = .ok (.iconst 0, 1) := by decide +kernel
theorem dX12_suspects_81 : decode cX12_suspects 81 = .ok (.istore 7, 2) := by decide +kernel
theorem dX12_suspects_83 : decode cX12_suspects 83 = .ok (.iload 7, 2) := by decide +kernel
theorem dX12_suspects_85 : decode cX12_suspects 85 = .ok (.iconst 4, 1) := by decide +kernel
theorem dX12_suspects_86 : decode cX12_suspects 86 = .ok (.if_icmp .ge 41, 3) := by decide +kernel
theorem dX12_suspects_89 : decode cX12_suspects 89 = .ok (.aload_n 0, 1) := by decide +kernel
theorem dX12_suspects_90 : decode cX12_suspects 90 = .ok (.bipush 26, 2) := by decide +kernel
theorem dX12_suspects_92 : decode cX12_suspects 92 = .ok (.lload 5, 2) := by decide +kernel
theorem dX12_suspects_94 : decode cX12_suspects 94 = .ok (.invokevirtual 363, 3) := by decide +kernel
theorem dX12_suspects_97 : decode cX12_suspects 97 = .ok (.aload_n 0, 1) := by decide +kernel
theorem dX12_suspects_98 : decode cX12_suspects 98 = .ok (.getfield 153, 3) := by decide +kernel
theorem dX12_suspects_101 : decode cX12_suspects 101 = .ok (.iconst 4, 1) := by decide +kernel
theorem dX12_suspects_102 : decode cX12_suspects 102 = .ok (.aload_n 0, 1) := by decide +kernel
theorem dX12_suspects_103 : decode cX12_suspects 103 = .ok (.getfield 397, 3) := by decide +kernel
theorem dX12_suspects_106 : decode cX12_suspects 106 = .ok (.imul, 1) := by decide +kernel
theorem dX12_suspects_107 : decode cX12_suspects 107 = .ok (.iload 7, 2) := by decide +kernel
theorem dX12_suspects_109 : decode cX12_suspects 109 = .ok (.iadd, 1) := by decide +kernel
theorem dX12_suspects_110 : decode cX12_suspects 110 = .ok (.aload_n 0, 1) := by decide +kernel
theorem dX12_suspects_111 : decode cX12_suspects 111 = .ok (.bipush 26, 2) := by decide +kernel
theorem dX12_suspects_113 : decode cX12_suspects 113 = .ok (.iconst 0, 1) := by decide +kernel
theorem dX12_suspects_114 : decode cX12_suspects 114 = .ok (.iload 7, 2) := by decide +kernel
theorem dX12_suspects_116 : decode cX12_suspects 116 = .ok (.iload_n 3, 1) := by decide +kernel
theorem dX12_suspects_117 : decode cX12_suspects 117 = .ok (.invokevirtual 312, 3) := by decide +kernel
theorem dX12_suspects_120 : decode cX12_suspects 120 = .ok (.iastore, 1) := by decide +kernel
theorem dX12_suspects_121 : decode cX12_suspects 121 = .ok (.iinc 7 1, 3) := by decide +kernel
theorem dX12_suspects_124 : decode cX12_suspects 124 = .ok (.goto (-41), 3) := by decide +kernel
theorem dX12_suspects_127 : decode cX12_suspects 127 = .ok (.aload_n 0, 1) := by decide +kernel
theorem dX12_suspects_128 : decode cX12_suspects 128 = .ok (.getfield 150, 3) := by decide +kernel
theorem dX12_suspects_131 : decode cX12_suspects 131 = .ok (.aload_n 0, 1) := by decide +kernel
theorem dX12_suspects_132 : decode cX12_suspects 132 = .ok (.getfield 397, 3) := by decide +kernel
theorem dX12_suspects_135 : decode cX12_suspects 135 = .ok (.iload_n 2, 1) := by decide +kernel
theorem dX12_suspects_136 : decode cX12_suspects 136 = .ok (.iastore, 1) := by decide +kernel
theorem dX12_suspects_137 : decode cX12_suspects 137 = .ok (.aload_n 0, 1) := by decide +kernel
theorem dX12_suspects_138 : decode cX12_suspects 138 = .ok (.dup, 1) := by decide +kernel
theorem dX12_suspects_139 : decode cX12_suspects 139 = .ok (.getfield 397, 3) := by decide +kernel
theorem dX12_suspects_142 : decode cX12_suspects 142 = .ok (.iconst 1, 1) := by decide +kernel
theorem dX12_suspects_143 : decode cX12_suspects 143 = .ok (.iadd, 1) := by decide +kernel
theorem dX12_suspects_144 : decode cX12_suspects 144 = .ok (.putfield 397, 3) := by decide +kernel
theorem dX12_suspects_147 : decode cX12_suspects 147 = .ok (.return_, 1) := by decide +kernel
theorem dX12_findSuspects_0 : decode cX12_findSuspects 0 = .ok (.aload_n 0, 1) := by decide +kernel
theorem dX12_findSuspects_1 : decode cX12_findSuspects 1 = .ok (.iconst 0, 1) := by decide +kernel
theorem dX12_findSuspects_2 : decode cX12_findSuspects 2 = .ok (.putfield 397, 3) := by decide +kernel
theorem dX12_findSuspects_5 : decode cX12_findSuspects 5 = .ok (.aload_n 0, 1) := by decide +kernel
theorem dX12_findSuspects_6 : decode cX12_findSuspects 6 = .ok (.iconst 1, 1) := by decide +kernel
theorem dX12_findSuspects_7 : decode cX12_findSuspects 7 = .ok (.iload_n 1, 1) := by decide +kernel
theorem dX12_findSuspects_8 : decode cX12_findSuspects 8 = .ok (.iadd, 1) := by decide +kernel
theorem dX12_findSuspects_9 : decode cX12_findSuspects 9 = .ok (.iconst 0, 1) := by decide +kernel
theorem dX12_findSuspects_10 : decode cX12_findSuspects 10 = .ok (.invokevirtual 309, 3) := by decide +kernel
theorem dX12_findSuspects_13 : decode cX12_findSuspects 13 = .ok (.aload_n 0, 1) := by decide +kernel
theorem dX12_findSuspects_14 : decode cX12_findSuspects 14 = .ok (.iload_n 1, 1) := by decide +kernel
theorem dX12_findSuspects_15 : decode cX12_findSuspects 15 = .ok (.iconst 0, 1) := by decide +kernel
theorem dX12_findSuspects_16 : decode cX12_findSuspects 16 = .ok (.bipush (-2), 2) := by decide +kernel
theorem dX12_findSuspects_18 : decode cX12_findSuspects 18 = .ok (.invokevirtual 400, 3) := by decide +kernel
theorem dX12_findSuspects_21 : decode cX12_findSuspects 21 = .ok (.iconst 0, 1) := by decide +kernel
theorem dX12_findSuspects_22 : decode cX12_findSuspects 22 = .ok (.istore_n 2, 1) := by decide +kernel
theorem dX12_findSuspects_23 : decode cX12_findSuspects 23 = .ok (.iload_n 2, 1) := by decide +kernel
theorem dX12_findSuspects_24 : decode cX12_findSuspects 24 = .ok (.sipush 156, 3) := by decide +kernel
theorem dX12_findSuspects_27 : decode cX12_findSuspects 27 = .ok (.if_icmp .ge 111, 3) := by decide +kernel
theorem dX12_findSuspects_30 : decode cX12_findSuspects 30 = .ok (.aload_n 0, 1) := by decide +kernel
theorem dX12_findSuspects_31 : decode cX12_findSuspects 31 = .ok (.getfield 86, 3) := by decide +kernel
theorem dX12_findSuspects_34 : decode cX12_findSuspects 34 = .ok (.sipush 156, 3) := by decide +kernel
theorem dX12_findSuspects_37 : decode cX12_findSuspects 37 = .ok (.iconst 1, 1) := by decide +kernel
theorem dX12_findSuspects_38 : decode cX12_findSuspects 38 = .ok (.iload_n 1, 1) := by decide +kernel
theorem dX12_findSuspects_39 : decode cX12_findSuspects 39 = .ok (.iadd, 1) := by decide +kernel
theorem dX12_findSuspects_40 : decode cX12_findSuspects 40 = .ok (.imul, 1) := by decide +kernel
theorem dX12_findSuspects_41 : decode cX12_findSuspects 41 = .ok (.iload_n 2, 1) := by decide +kernel
theorem dX12_findSuspects_42 : decode cX12_findSuspects 42 = .ok (.iadd, 1) := by decide +kernel
theorem dX12_findSuspects_43 : decode cX12_findSuspects 43 = .ok (.iaload, 1) := by decide +kernel
theorem dX12_findSuspects_44 : decode cX12_findSuspects 44 = .ok (.iconst 4, 1) := by decide +kernel
theorem dX12_findSuspects_45 : decode cX12_findSuspects 45 = .ok (.if_icmp .ne 7, 3) := by decide +kernel
theorem dX12_findSuspects_48 : decode cX12_findSuspects 48 = .ok (.iconst 1, 1) := by decide +kernel
theorem dX12_findSuspects_49 : decode cX12_findSuspects 49 = .ok (.goto 4, 3) := by decide +kernel
theorem dX12_findSuspects_52 : decode cX12_findSuspects 52 = .ok (.iconst 0, 1) := by decide +kernel
theorem dX12_findSuspects_53 : decode cX12_findSuspects 53 = .ok (.istore_n 3, 1) := by decide +kernel
theorem dX12_findSuspects_54 : decode cX12_findSuspects 54 = .ok (.iconst 0, 1) := by decide +kernel
theorem dX12_findSuspects_55 : decode cX12_findSuspects 55 = .ok (.istore 4, 2) := by decide +kernel
theorem dX12_findSuspects_57 : decode cX12_findSuspects 57 = .ok (.iload 4, 2) := by decide +kernel
theorem dX12_findSuspects_59 : decode cX12_findSuspects 59 = .ok (.iload_n 2, 1) := by decide +kernel
theorem dX12_findSuspects_60 : decode cX12_findSuspects 60 = .ok (.if_icmp .ge 54, 3) := by decide +kernel
theorem dX12_findSuspects_63 : decode cX12_findSuspects 63 = .ok (.iload_n 3, 1) := by decide +kernel
theorem dX12_findSuspects_64 : decode cX12_findSuspects 64 = .ok (.ifCond .eq 42, 3) := by decide +kernel
theorem dX12_findSuspects_67 : decode cX12_findSuspects 67 = .ok (.aload_n 0, 1) := by decide +kernel
theorem dX12_findSuspects_68 : decode cX12_findSuspects 68 = .ok (.getfield 86, 3) := by decide +kernel
theorem dX12_findSuspects_71 : decode cX12_findSuspects 71 = .ok (.sipush 156, 3) := by decide +kernel
theorem dX12_findSuspects_74 : decode cX12_findSuspects 74 = .ok (.iconst 1, 1) := by decide +kernel
theorem dX12_findSuspects_75 : decode cX12_findSuspects 75 = .ok (.iload_n 1, 1) := by decide +kernel
theorem dX12_findSuspects_76 : decode cX12_findSuspects 76 = .ok (.iadd, 1) := by decide +kernel
theorem dX12_findSuspects_77 : decode cX12_findSuspects 77 = .ok (.imul, 1) := by decide +kernel
theorem dX12_findSuspects_78 : decode cX12_findSuspects 78 = .ok (.iload 4, 2) := by decide +kernel
theorem dX12_findSuspects_80 : decode cX12_findSuspects 80 = .ok (.iadd, 1) := by decide +kernel
theorem dX12_findSuspects_81 : decode cX12_findSuspects 81 = .ok (.iaload, 1) := by decide +kernel
theorem dX12_findSuspects_82 : decode cX12_findSuspects 82 = .ok (.iconst 4, 1) := by decide +kernel
theorem dX12_findSuspects_83 : decode cX12_findSuspects 83 = .ok (.if_icmp .ne 19, 3) := by decide +kernel
theorem dX12_findSuspects_86 : decode cX12_findSuspects 86 = .ok (.aload_n 0, 1) := by decide +kernel
theorem dX12_findSuspects_87 : decode cX12_findSuspects 87 = .ok (.getfield 107, 3) := by decide +kernel
theorem dX12_findSuspects_90 : decode cX12_findSuspects 90 = .ok (.iload 4, 2) := by decide +kernel
theorem dX12_findSuspects_92 : decode cX12_findSuspects 92 = .ok (.iaload, 1) := by decide +kernel
theorem dX12_findSuspects_93 : decode cX12_findSuspects 93 = .ok (.aload_n 0, 1) := by decide +kernel
theorem dX12_findSuspects_94 : decode cX12_findSuspects 94 = .ok (.getfield 107, 3) := by decide +kernel
theorem dX12_findSuspects_97 : decode cX12_findSuspects 97 = .ok (.iload_n 2, 1) := by decide +kernel
theorem dX12_findSuspects_98 : decode cX12_findSuspects 98 = .ok (.iaload, 1) := by decide +kernel
theorem dX12_findSuspects_99 : decode cX12_findSuspects 99 = .ok (.if_icmp .eq 7, 3) := by decide +kernel
theorem dX12_findSuspects_102 : decode cX12_findSuspects 102 = .ok (.iconst 1, 1) := by decide +kernel
theorem dX12_findSuspects_103 : decode cX12_findSuspects 103 = .ok (.goto 4, 3) := by decide +kernel
theorem dX12_findSuspects_106 : decode cX12_findSuspects 106 = .ok (.iconst 0, 1) := by decide +kernel
theorem dX12_findSuspects_107 : decode cX12_findSuspects 107 = .ok (.istore_n 3, 1) := by decide +kernel
theorem dX12_findSuspects_108 : decode cX12_findSuspects 108 = .ok (.iinc 4 1, 3) := by decide +kernel
theorem dX12_findSuspects_111 : decode cX12_findSuspects 111 = .ok (.goto (-54), 3) := by decide +kernel
theorem dX12_findSuspects_114 : decode cX12_findSuspects 114 = .ok (.iload_n 3, 1) := by decide +kernel
theorem dX12_findSuspects_115 : decode cX12_findSuspects 115 = .ok (.ifCond .eq 17, 3) := by decide +kernel
theorem dX12_findSuspects_118 : decode cX12_findSuspects 118 = .ok (.aload_n 0, 1) := by decide +kernel
theorem dX12_findSuspects_119 : decode cX12_findSuspects 119 = .ok (.iload_n 1, 1) := by decide +kernel
theorem dX12_findSuspects_120 : decode cX12_findSuspects 120 = .ok (.iconst 1, 1) := by decide +kernel
theorem dX12_findSuspects_121 : decode cX12_findSuspects 121 = .ok (.iload_n 2, 1) := by decide +kernel
theorem dX12_findSuspects_122 : decode cX12_findSuspects 122 = .ok (.iadd, 1) := by decide +kernel
theorem dX12_findSuspects_123 : decode cX12_findSuspects 123 = .ok (.aload_n 0, 1) := by decide +kernel
theorem dX12_findSuspects_124 : decode cX12_findSuspects 124 = .ok (.getfield 107, 3) := by decide +kernel
theorem dX12_findSuspects_127 : decode cX12_findSuspects 127 = .ok (.iload_n 2, 1) := by decide +kernel
theorem dX12_findSuspects_128 : decode cX12_findSuspects 128 = .ok (.iaload, 1) := by decide +kernel
theorem dX12_findSuspects_129 : decode cX12_findSuspects 129 = .ok (.invokevirtual 400, 3) := by decide +kernel
theorem dX12_findSuspects_132 : decode cX12_findSuspects 132 = .ok (.iinc 2 1, 3) := by decide +kernel
theorem dX12_findSuspects_135 : decode cX12_findSuspects 135 = .ok (.goto (-112), 3) := by decide +kernel
theorem dX12_findSuspects_138 : decode cX12_findSuspects 138 = .ok (.return_, 1) := by decide +kernel
theorem dX12_suspect_0 : decode cX12_suspect 0 = .ok (.aload_n 0, 1) := by decide +kernel
theorem dX12_suspect_1 : decode cX12_suspect 1 = .ok (.iconst 0, 1) := by decide +kernel
theorem dX12_suspect_2 : decode cX12_suspect 2 = .ok (.putfield 1, 3) := by decide +kernel
theorem dX12_suspect_5 : decode cX12_suspect 5 = .ok (.iload_n 1, 1) := by decide +kernel
theorem dX12_suspect_6 : decode cX12_suspect 6 = .ok (.invokestatic 357, 3) := by decide +kernel
theorem dX12_suspect_9 : decode cX12_suspect 9 = .ok (.ifCond .eq 12, 3) := by decide +kernel
theorem dX12_suspect_12 : decode cX12_suspect 12 = .ok (.aload_n 0, 1) := by decide +kernel
theorem dX12_suspect_13 : decode cX12_suspect 13 = .ok (.getfield 131, 3) := by decide +kernel
theorem dX12_suspect_16 : decode cX12_suspect 16 = .ok (.iload_n 1, 1) := by decide +kernel
theorem dX12_suspect_17 : decode cX12_suspect 17 = .ok (.baload, 1) := by decide +kernel
theorem dX12_suspect_18 : decode cX12_suspect 18 = .ok (.ifCond .ne 5, 3) := by decide +kernel
theorem dX12_suspect_21 : decode cX12_suspect 21 = .ok (.iconst (-1), 1) := by decide +kernel
theorem dX12_suspect_22 : decode cX12_suspect 22 = .ok (.ireturn, 1) := by decide +kernel
theorem dX12_suspect_23 : decode cX12_suspect 23 = .ok (.aload_n 0, 1) := by decide +kernel
theorem dX12_suspect_24 : decode cX12_suspect 24 = .ok (.iload_n 1, 1) := by decide +kernel
theorem dX12_suspect_25 : decode cX12_suspect 25 = .ok (.invokevirtual 402, 3) := by decide +kernel
theorem dX12_suspect_28 : decode cX12_suspect 28 = .ok (.iload_n 2, 1) := by decide +kernel
theorem dX12_suspect_29 : decode cX12_suspect 29 = .ok (.ifCond .lt 20, 3) := by decide +kernel
theorem dX12_suspect_32 : decode cX12_suspect 32 = .ok (.iload_n 2, 1) := by decide +kernel
theorem dX12_suspect_33 : decode cX12_suspect 33 = .ok (.aload_n 0, 1) := by decide +kernel
theorem dX12_suspect_34 : decode cX12_suspect 34 = .ok (.getfield 397, 3) := by decide +kernel
theorem dX12_suspect_37 : decode cX12_suspect 37 = .ok (.if_icmp .ge 12, 3) := by decide +kernel
theorem dX12_suspect_40 : decode cX12_suspect 40 = .ok (.aload_n 0, 1) := by decide +kernel
theorem dX12_suspect_41 : decode cX12_suspect 41 = .ok (.getfield 150, 3) := by decide +kernel
theorem dX12_suspect_44 : decode cX12_suspect 44 = .ok (.iload_n 2, 1) := by decide +kernel
theorem dX12_suspect_45 : decode cX12_suspect 45 = .ok (.iaload, 1) := by decide +kernel
theorem dX12_suspect_46 : decode cX12_suspect 46 = .ok (.goto 4, 3) := by decide +kernel
theorem dX12_suspect_49 : decode cX12_suspect 49 = .ok (.iconst (-1), 1) := by decide +kernel
theorem dX12_suspect_50 : decode cX12_suspect 50 = .ok (.ireturn, 1) := by decide +kernel
theorem dX12_alikeBy_0 : decode cX12_alikeBy 0 = .ok (.iconst 0, 1) := by decide +kernel
theorem dX12_alikeBy_1 : decode cX12_alikeBy 1 = .ok (.istore_n 2, 1) := by decide +kernel
theorem dX12_alikeBy_2 : decode cX12_alikeBy 2 = .ok (.iconst 0, 1) := by decide +kernel
theorem dX12_alikeBy_3 : decode cX12_alikeBy 3 = .ok (.istore_n 3, 1) := by decide +kernel
theorem dX12_alikeBy_4 : decode cX12_alikeBy 4 = .ok (.iload_n 3, 1) := by decide +kernel
theorem dX12_alikeBy_5 : decode cX12_alikeBy 5 = .ok (.aload_n 0, 1) := by decide +kernel
theorem dX12_alikeBy_6 : decode cX12_alikeBy 6 = .ok (.getfield 397, 3) := by decide +kernel
theorem dX12_alikeBy_9 : decode cX12_alikeBy 9 = .ok (.if_icmp .ge 77, 3) := by decide +kernel
theorem dX12_alikeBy_12 : decode cX12_alikeBy 12 = .ok (.iconst 0, 1) := by decide +kernel
theorem dX12_alikeBy_13 : decode cX12_alikeBy 13 = .ok (.istore 4, 2) := by decide +kernel
theorem dX12_alikeBy_15 : decode cX12_alikeBy 15 = .ok (.iconst 0, 1) := by decide +kernel
theorem dX12_alikeBy_16 : decode cX12_alikeBy 16 = .ok (.istore 5, 2) := by decide +kernel
theorem dX12_alikeBy_18 : decode cX12_alikeBy 18 = .ok (.iload 5, 2) := by decide +kernel
theorem dX12_alikeBy_20 : decode cX12_alikeBy 20 = .ok (.aload_n 0, 1) := by decide +kernel
theorem dX12_alikeBy_21 : decode cX12_alikeBy 21 = .ok (.getfield 397, 3) := by decide +kernel
theorem dX12_alikeBy_24 : decode cX12_alikeBy 24 = .ok (.if_icmp .ge 43, 3) := by decide +kernel
theorem dX12_alikeBy_27 : decode cX12_alikeBy 27 = .ok (.iload 4, 2) := by decide +kernel
theorem dX12_alikeBy_29 : decode cX12_alikeBy 29 = .ok (.aload_n 0, 1) := by decide +kernel
theorem dX12_alikeBy_30 : decode cX12_alikeBy 30 = .ok (.getfield 153, 3) := by decide +kernel
theorem dX12_alikeBy_33 : decode cX12_alikeBy 33 = .ok (.iconst 4, 1) := by decide +kernel
theorem dX12_alikeBy_34 : decode cX12_alikeBy 34 = .ok (.iload_n 3, 1) := by decide +kernel
theorem dX12_alikeBy_35 : decode cX12_alikeBy 35 = .ok (.imul, 1) := by decide +kernel
theorem dX12_alikeBy_36 : decode cX12_alikeBy 36 = .ok (.iload_n 1, 1) := by decide +kernel
theorem dX12_alikeBy_37 : decode cX12_alikeBy 37 = .ok (.iadd, 1) := by decide +kernel
theorem dX12_alikeBy_38 : decode cX12_alikeBy 38 = .ok (.iaload, 1) := by decide +kernel
theorem dX12_alikeBy_39 : decode cX12_alikeBy 39 = .ok (.aload_n 0, 1) := by decide +kernel
theorem dX12_alikeBy_40 : decode cX12_alikeBy 40 = .ok (.getfield 153, 3) := by decide +kernel
theorem dX12_alikeBy_43 : decode cX12_alikeBy 43 = .ok (.iconst 4, 1) := by decide +kernel
theorem dX12_alikeBy_44 : decode cX12_alikeBy 44 = .ok (.iload 5, 2) := by decide +kernel
theorem dX12_alikeBy_46 : decode cX12_alikeBy 46 = .ok (.imul, 1) := by decide +kernel
theorem dX12_alikeBy_47 : decode cX12_alikeBy 47 = .ok (.iload_n 1, 1) := by decide +kernel
theorem dX12_alikeBy_48 : decode cX12_alikeBy 48 = .ok (.iadd, 1) := by decide +kernel
theorem dX12_alikeBy_49 : decode cX12_alikeBy 49 = .ok (.iaload, 1) := by decide +kernel
theorem dX12_alikeBy_50 : decode cX12_alikeBy 50 = .ok (.if_icmp .ne 7, 3) := by decide +kernel
theorem dX12_alikeBy_53 : decode cX12_alikeBy 53 = .ok (.iconst 1, 1) := by decide +kernel
theorem dX12_alikeBy_54 : decode cX12_alikeBy 54 = .ok (.goto 4, 3) := by decide +kernel
theorem dX12_alikeBy_57 : decode cX12_alikeBy 57 = .ok (.iconst 0, 1) := by decide +kernel
theorem dX12_alikeBy_58 : decode cX12_alikeBy 58 = .ok (.iadd, 1) := by decide +kernel
theorem dX12_alikeBy_59 : decode cX12_alikeBy 59 = .ok (.istore 4, 2) := by decide +kernel
theorem dX12_alikeBy_61 : decode cX12_alikeBy 61 = .ok (.iinc 5 1, 3) := by decide +kernel
theorem dX12_alikeBy_64 : decode cX12_alikeBy 64 = .ok (.goto (-46), 3) := by decide +kernel
theorem dX12_alikeBy_67 : decode cX12_alikeBy 67 = .ok (.iload 4, 2) := by decide +kernel
theorem dX12_alikeBy_69 : decode cX12_alikeBy 69 = .ok (.iload_n 2, 1) := by decide +kernel
theorem dX12_alikeBy_70 : decode cX12_alikeBy 70 = .ok (.if_icmp .le 8, 3) := by decide +kernel
theorem dX12_alikeBy_73 : decode cX12_alikeBy 73 = .ok (.iload 4, 2) := by decide +kernel
theorem dX12_alikeBy_75 : decode cX12_alikeBy 75 = .ok (.goto 4, 3) := by decide +kernel
theorem dX12_alikeBy_78 : decode cX12_alikeBy 78 = .ok (.iload_n 2, 1) := by decide +kernel
theorem dX12_alikeBy_79 : decode cX12_alikeBy 79 = .ok (.istore_n 2, 1) := by decide +kernel
theorem dX12_alikeBy_80 : decode cX12_alikeBy 80 = .ok (.iinc 3 1, 3) := by decide +kernel
theorem dX12_alikeBy_83 : decode cX12_alikeBy 83 = .ok (.goto (-79), 3) := by decide +kernel
theorem dX12_alikeBy_86 : decode cX12_alikeBy 86 = .ok (.iload_n 2, 1) := by decide +kernel
theorem dX12_alikeBy_87 : decode cX12_alikeBy 87 = .ok (.ireturn, 1) := by decide +kernel
theorem dX12_test_0 : decode cX12_test 0 = .ok (.aload_n 0, 1) := by decide +kernel
theorem dX12_test_1 : decode cX12_test 1 = .ok (.iconst 0, 1) := by decide +kernel
theorem dX12_test_2 : decode cX12_test 2 = .ok (.putfield 1, 3) := by decide +kernel
theorem dX12_test_5 : decode cX12_test 5 = .ok (.iload_n 1, 1) := by decide +kernel
theorem dX12_test_6 : decode cX12_test 6 = .ok (.invokestatic 357, 3) := by decide +kernel
theorem dX12_test_9 : decode cX12_test 9 = .ok (.ifCond .eq 12, 3) := by decide +kernel
theorem dX12_test_12 : decode cX12_test 12 = .ok (.aload_n 0, 1) := by decide +kernel
theorem dX12_test_13 : decode cX12_test 13 = .ok (.getfield 131, 3) := by decide +kernel
theorem dX12_test_16 : decode cX12_test 16 = .ok (.iload_n 1, 1) := by decide +kernel
theorem dX12_test_17 : decode cX12_test 17 = .ok (.baload, 1) := by decide +kernel
theorem dX12_test_18 : decode cX12_test 18 = .ok (.ifCond .ne 5, 3) := by decide +kernel
theorem dX12_test_21 : decode cX12_test 21 = .ok (.iconst (-1), 1) := by decide +kernel
theorem dX12_test_22 : decode cX12_test 22 = .ok (.ireturn, 1) := by decide +kernel
theorem dX12_test_23 : decode cX12_test 23 = .ok (.aload_n 0, 1) := by decide +kernel
theorem dX12_test_24 : decode cX12_test 24 = .ok (.iload_n 1, 1) := by decide +kernel
theorem dX12_test_25 : decode cX12_test 25 = .ok (.invokevirtual 402, 3) := by decide +kernel
theorem dX12_test_28 : decode cX12_test 28 = .ok (.iconst (-1), 1) := by decide +kernel
theorem dX12_test_29 : decode cX12_test 29 = .ok (.istore_n 2, 1) := by decide +kernel
theorem dX12_test_30 : decode cX12_test 30 = .ok (.iconst 0, 1) := by decide +kernel
theorem dX12_test_31 : decode cX12_test 31 = .ok (.istore_n 3, 1) := by decide +kernel
theorem dX12_test_32 : decode cX12_test 32 = .ok (.iload_n 3, 1) := by decide +kernel
theorem dX12_test_33 : decode cX12_test 33 = .ok (.iconst 4, 1) := by decide +kernel
theorem dX12_test_34 : decode cX12_test 34 = .ok (.if_icmp .ge 39, 3) := by decide +kernel
theorem dX12_test_37 : decode cX12_test 37 = .ok (.aload_n 0, 1) := by decide +kernel
theorem dX12_test_38 : decode cX12_test 38 = .ok (.getfield 397, 3) := by decide +kernel
theorem dX12_test_41 : decode cX12_test 41 = .ok (.ifCond .le 32, 3) := by decide +kernel
theorem dX12_test_44 : decode cX12_test 44 = .ok (.iload_n 2, 1) := by decide +kernel
theorem dX12_test_45 : decode cX12_test 45 = .ok (.ifCond .lt 16, 3) := by decide +kernel
theorem dX12_test_48 : decode cX12_test 48 = .ok (.aload_n 0, 1) := by decide +kernel
theorem dX12_test_49 : decode cX12_test 49 = .ok (.iload_n 3, 1) := by decide +kernel
theorem dX12_test_50 : decode cX12_test 50 = .ok (.invokevirtual 405, 3) := by decide +kernel
theorem dX12_test_53 : decode cX12_test 53 = .ok (.aload_n 0, 1) := by decide +kernel
theorem dX12_test_54 : decode cX12_test 54 = .ok (.iload_n 2, 1) := by decide +kernel
theorem dX12_test_55 : decode cX12_test 55 = .ok (.invokevirtual 405, 3) := by decide +kernel
theorem dX12_test_58 : decode cX12_test 58 = .ok (.if_icmp .ge 7, 3) := by decide +kernel
theorem dX12_test_61 : decode cX12_test 61 = .ok (.iload_n 3, 1) := by decide +kernel
theorem dX12_test_62 : decode cX12_test 62 = .ok (.goto 4, 3) := by decide +kernel
theorem dX12_test_65 : decode cX12_test 65 = .ok (.iload_n 2, 1) := by decide +kernel
theorem dX12_test_66 : decode cX12_test 66 = .ok (.istore_n 2, 1) := by decide +kernel
theorem dX12_test_67 : decode cX12_test 67 = .ok (.iinc 3 1, 3) := by decide +kernel
theorem dX12_test_70 : decode cX12_test 70 = .ok (.goto (-38), 3) := by decide +kernel
theorem dX12_test_73 : decode cX12_test 73 = .ok (.iload_n 2, 1) := by decide +kernel
theorem dX12_test_74 : decode cX12_test 74 = .ok (.ireturn, 1) := by decide +kernel
theorem dX12_tries_0 : decode cX12_tries 0 = .ok (.aload_n 0, 1) := by decide +kernel
theorem dX12_tries_1 : decode cX12_tries 1 = .ok (.iload_n 1, 1) := by decide +kernel
theorem dX12_tries_2 : decode cX12_tries 2 = .ok (.invokestatic 306, 3) := by decide +kernel
theorem dX12_tries_5 : decode cX12_tries 5 = .ok (.ifCond .eq 7, 3) := by decide +kernel
theorem dX12_tries_8 : decode cX12_tries 8 = .ok (.iconst 0, 1) := by decide +kernel
theorem dX12_tries_9 : decode cX12_tries 9 = .ok (.goto 4, 3) := by decide +kernel
theorem dX12_tries_12 : decode cX12_tries 12 = .ok (.iconst 1, 1) := by decide +kernel
theorem dX12_tries_13 : decode cX12_tries 13 = .ok (.putfield 1, 3) := by decide +kernel
theorem dX12_tries_16 : decode cX12_tries 16 = .ok (.aload_n 0, 1) := by decide +kernel
theorem dX12_tries_17 : decode cX12_tries 17 = .ok (.getfield 1, 3) := by decide +kernel
theorem dX12_tries_20 : decode cX12_tries 20 = .ok (.ifCond .le 5, 3) := by decide +kernel
theorem dX12_tries_23 : decode cX12_tries 23 = .ok (.iconst 0, 1) := by decide +kernel
theorem dX12_tries_24 : decode cX12_tries 24 = .ok (.ireturn, 1) := by decide +kernel
theorem dX12_tries_25 : decode cX12_tries 25 = .ok (.aload_n 0, 1) := by decide +kernel
theorem dX12_tries_26 : decode cX12_tries 26 = .ok (.iconst 0, 1) := by decide +kernel
theorem dX12_tries_27 : decode cX12_tries 27 = .ok (.bipush 26, 2) := by decide +kernel
theorem dX12_tries_29 : decode cX12_tries 29 = .ok (.invokevirtual 256, 3) := by decide +kernel
theorem dX12_tries_32 : decode cX12_tries 32 = .ok (.aload_n 0, 1) := by decide +kernel
theorem dX12_tries_33 : decode cX12_tries 33 = .ok (.bipush 26, 2) := by decide +kernel
theorem dX12_tries_35 : decode cX12_tries 35 = .ok (.iconst 0, 1) := by decide +kernel
theorem dX12_tries_36 : decode cX12_tries 36 = .ok (.invokevirtual 309, 3) := by decide +kernel
theorem dX12_tries_39 : decode cX12_tries 39 = .ok (.aload_n 0, 1) := by decide +kernel
theorem dX12_tries_40 : decode cX12_tries 40 = .ok (.bipush 26, 2) := by decide +kernel
theorem dX12_tries_42 : decode cX12_tries 42 = .ok (.iconst 0, 1) := by decide +kernel
theorem dX12_tries_43 : decode cX12_tries 43 = .ok (.iload_n 1, 1) := by decide +kernel
theorem dX12_tries_44 : decode cX12_tries 44 = .ok (.bipush (-2), 2) := by decide +kernel
theorem dX12_tries_46 : decode cX12_tries 46 = .ok (.invokevirtual 312, 3) := by decide +kernel
theorem dX12_tries_49 : decode cX12_tries 49 = .ok (.ireturn, 1) := by decide +kernel
theorem dX12_piece_0 : decode cX12_piece 0 = .ok (.aload_n 0, 1) := by decide +kernel
theorem dX12_piece_1 : decode cX12_piece 1 = .ok (.iconst 0, 1) := by decide +kernel
theorem dX12_piece_2 : decode cX12_piece 2 = .ok (.putfield 1, 3) := by decide +kernel
theorem dX12_piece_5 : decode cX12_piece 5 = .ok (.iload_n 1, 1) := by decide +kernel
theorem dX12_piece_6 : decode cX12_piece 6 = .ok (.iload_n 2, 1) := by decide +kernel
theorem dX12_piece_7 : decode cX12_piece 7 = .ok (.invokestatic 379, 3) := by decide +kernel
theorem dX12_piece_10 : decode cX12_piece 10 = .ok (.ifCond .eq 17, 3) := by decide +kernel
theorem dX12_piece_13 : decode cX12_piece 13 = .ok (.aload_n 0, 1) := by decide +kernel
theorem dX12_piece_14 : decode cX12_piece 14 = .ok (.getfield 86, 3) := by decide +kernel
theorem dX12_piece_17 : decode cX12_piece 17 = .ok (.bipush 13, 2) := by decide +kernel
theorem dX12_piece_19 : decode cX12_piece 19 = .ok (.iload_n 2, 1) := by decide +kernel
theorem dX12_piece_20 : decode cX12_piece 20 = .ok (.imul, 1) := by decide +kernel
theorem dX12_piece_21 : decode cX12_piece 21 = .ok (.iload_n 1, 1) := by decide +kernel
theorem dX12_piece_22 : decode cX12_piece 22 = .ok (.iadd, 1) := by decide +kernel
theorem dX12_piece_23 : decode cX12_piece 23 = .ok (.iaload, 1) := by decide +kernel
theorem dX12_piece_24 : decode cX12_piece 24 = .ok (.goto 4, 3) := by decide +kernel
theorem dX12_piece_27 : decode cX12_piece 27 = .ok (.iconst (-1), 1) := by decide +kernel
theorem dX12_piece_28 : decode cX12_piece 28 = .ok (.ireturn, 1) := by decide +kernel
theorem dX12_shows_0 : decode cX12_shows 0 = .ok (.aload_n 0, 1) := by decide +kernel
theorem dX12_shows_1 : decode cX12_shows 1 = .ok (.iconst 0, 1) := by decide +kernel
theorem dX12_shows_2 : decode cX12_shows 2 = .ok (.putfield 1, 3) := by decide +kernel
theorem dX12_shows_5 : decode cX12_shows 5 = .ok (.iload_n 1, 1) := by decide +kernel
theorem dX12_shows_6 : decode cX12_shows 6 = .ok (.iload_n 2, 1) := by decide +kernel
theorem dX12_shows_7 : decode cX12_shows 7 = .ok (.invokestatic 379, 3) := by decide +kernel
theorem dX12_shows_10 : decode cX12_shows 10 = .ok (.ifCond .eq 17, 3) := by decide +kernel
theorem dX12_shows_13 : decode cX12_shows 13 = .ok (.aload_n 0, 1) := by decide +kernel
theorem dX12_shows_14 : decode cX12_shows 14 = .ok (.getfield 86, 3) := by decide +kernel
theorem dX12_shows_17 : decode cX12_shows 17 = .ok (.bipush 13, 2) := by decide +kernel
theorem dX12_shows_19 : decode cX12_shows 19 = .ok (.iload_n 2, 1) := by decide +kernel
theorem dX12_shows_20 : decode cX12_shows 20 = .ok (.imul, 1) := by decide +kernel
theorem dX12_shows_21 : decode cX12_shows 21 = .ok (.iload_n 1, 1) := by decide +kernel
theorem dX12_shows_22 : decode cX12_shows 22 = .ok (.iadd, 1) := by decide +kernel
theorem dX12_shows_23 : decode cX12_shows 23 = .ok (.iaload, 1) := by decide +kernel
theorem dX12_shows_24 : decode cX12_shows 24 = .ok (.goto 4, 3) := by decide +kernel
theorem dX12_shows_27 : decode cX12_shows 27 = .ok (.iconst 0, 1) := by decide +kernel
theorem dX12_shows_28 : decode cX12_shows 28 = .ok (.istore_n 3, 1) := by decide +kernel
theorem dX12_shows_29 : decode cX12_shows 29 = .ok (.iload_n 3, 1) := by decide +kernel
theorem dX12_shows_30 : decode cX12_shows 30 = .ok (.invokestatic 250, 3) := by decide +kernel
theorem dX12_shows_33 : decode cX12_shows 33 = .ok (.ifCond .eq 17, 3) := by decide +kernel
theorem dX12_shows_36 : decode cX12_shows 36 = .ok (.aload_n 0, 1) := by decide +kernel
theorem dX12_shows_37 : decode cX12_shows 37 = .ok (.getfield 92, 3) := by decide +kernel
theorem dX12_shows_40 : decode cX12_shows 40 = .ok (.bipush 13, 2) := by decide +kernel
theorem dX12_shows_42 : decode cX12_shows 42 = .ok (.iload_n 2, 1) := by decide +kernel
theorem dX12_shows_43 : decode cX12_shows 43 = .ok (.imul, 1) := by decide +kernel
theorem dX12_shows_44 : decode cX12_shows 44 = .ok (.iload_n 1, 1) := by decide +kernel
theorem dX12_shows_45 : decode cX12_shows 45 = .ok (.iadd, 1) := by decide +kernel
theorem dX12_shows_46 : decode cX12_shows 46 = .ok (.iaload, 1) := by decide +kernel
theorem dX12_shows_47 : decode cX12_shows 47 = .ok (.goto 24, 3) := by decide +kernel
theorem dX12_shows_50 : decode cX12_shows 50 = .ok (.iload_n 3, 1) := by decide +kernel
theorem dX12_shows_51 : decode cX12_shows 51 = .ok (.bipush 6, 2) := by decide +kernel
theorem dX12_shows_53 : decode cX12_shows 53 = .ok (.if_icmp .ne 17, 3) := by decide +kernel
theorem dX12_shows_56 : decode cX12_shows 56 = .ok (.aload_n 0, 1) := by decide +kernel
theorem dX12_shows_57 : decode cX12_shows 57 = .ok (.getfield 89, 3) := by decide +kernel
theorem dX12_shows_60 : decode cX12_shows 60 = .ok (.bipush 13, 2) := by decide +kernel
theorem dX12_shows_62 : decode cX12_shows 62 = .ok (.iload_n 2, 1) := by decide +kernel
theorem dX12_shows_63 : decode cX12_shows 63 = .ok (.imul, 1) := by decide +kernel
theorem dX12_shows_64 : decode cX12_shows 64 = .ok (.iload_n 1, 1) := by decide +kernel
theorem dX12_shows_65 : decode cX12_shows 65 = .ok (.iadd, 1) := by decide +kernel
theorem dX12_shows_66 : decode cX12_shows 66 = .ok (.iaload, 1) := by decide +kernel
theorem dX12_shows_67 : decode cX12_shows 67 = .ok (.goto 4, 3) := by decide +kernel
theorem dX12_shows_70 : decode cX12_shows 70 = .ok (.iconst (-1), 1) := by decide +kernel
theorem dX12_shows_71 : decode cX12_shows 71 = .ok (.ireturn, 1) := by decide +kernel
theorem dX12_train_0 : decode cX12_train 0 = .ok (.aload_n 0, 1) := by decide +kernel
theorem dX12_train_1 : decode cX12_train 1 = .ok (.iconst 0, 1) := by decide +kernel
theorem dX12_train_2 : decode cX12_train 2 = .ok (.putfield 1, 3) := by decide +kernel
theorem dX12_train_5 : decode cX12_train 5 = .ok (.iload_n 1, 1) := by decide +kernel
theorem dX12_train_6 : decode cX12_train 6 = .ok (.iload_n 2, 1) := by decide +kernel
theorem dX12_train_7 : decode cX12_train 7 = .ok (.invokestatic 379, 3) := by decide +kernel
theorem dX12_train_10 : decode cX12_train 10 = .ok (.ifCond .ne 5, 3) := by decide +kernel
theorem dX12_train_13 : decode cX12_train 13 = .ok (.iconst (-1), 1) := by decide +kernel
theorem dX12_train_14 : decode cX12_train 14 = .ok (.ireturn, 1) := by decide +kernel
theorem dX12_train_15 : decode cX12_train 15 = .ok (.aload_n 0, 1) := by decide +kernel
theorem dX12_train_16 : decode cX12_train 16 = .ok (.iconst 0, 1) := by decide +kernel
theorem dX12_train_17 : decode cX12_train 17 = .ok (.iconst 0, 1) := by decide +kernel
theorem dX12_train_18 : decode cX12_train 18 = .ok (.invokevirtual 309, 3) := by decide +kernel
theorem dX12_train_21 : decode cX12_train 21 = .ok (.aload_n 0, 1) := by decide +kernel
theorem dX12_train_22 : decode cX12_train 22 = .ok (.getfield 107, 3) := by decide +kernel
theorem dX12_train_25 : decode cX12_train 25 = .ok (.bipush 13, 2) := by decide +kernel
theorem dX12_train_27 : decode cX12_train 27 = .ok (.iload_n 2, 1) := by decide +kernel
theorem dX12_train_28 : decode cX12_train 28 = .ok (.imul, 1) := by decide +kernel
theorem dX12_train_29 : decode cX12_train 29 = .ok (.iload_n 1, 1) := by decide +kernel
theorem dX12_train_30 : decode cX12_train 30 = .ok (.iadd, 1) := by decide +kernel
theorem dX12_train_31 : decode cX12_train 31 = .ok (.iaload, 1) := by decide +kernel
theorem dX12_train_32 : decode cX12_train 32 = .ok (.ireturn, 1) := by decide +kernel
theorem dX12_lever_0 : decode cX12_lever 0 = .ok (.aload_n 0, 1) := by decide +kernel
theorem dX12_lever_1 : decode cX12_lever 1 = .ok (.iconst 0, 1) := by decide +kernel
theorem dX12_lever_2 : decode cX12_lever 2 = .ok (.putfield 1, 3) := by decide +kernel
theorem dX12_lever_5 : decode cX12_lever 5 = .ok (.iload_n 1, 1) := by decide +kernel
theorem dX12_lever_6 : decode cX12_lever 6 = .ok (.ifCond .lt 18, 3) := by decide +kernel
theorem dX12_lever_9 : decode cX12_lever 9 = .ok (.iload_n 1, 1) := by decide +kernel
theorem dX12_lever_10 : decode cX12_lever 10 = .ok (.bipush 13, 2) := by decide +kernel
theorem dX12_lever_12 : decode cX12_lever 12 = .ok (.if_icmp .ge 12, 3) := by decide +kernel
theorem dX12_lever_15 : decode cX12_lever 15 = .ok (.aload_n 0, 1) := by decide +kernel
theorem dX12_lever_16 : decode cX12_lever 16 = .ok (.getfield 95, 3) := by decide +kernel
theorem dX12_lever_19 : decode cX12_lever 19 = .ok (.iload_n 1, 1) := by decide +kernel
theorem dX12_lever_20 : decode cX12_lever 20 = .ok (.iaload, 1) := by decide +kernel
theorem dX12_lever_21 : decode cX12_lever 21 = .ok (.goto 4, 3) := by decide +kernel
theorem dX12_lever_24 : decode cX12_lever 24 = .ok (.iconst (-1), 1) := by decide +kernel
theorem dX12_lever_25 : decode cX12_lever 25 = .ok (.ireturn, 1) := by decide +kernel
theorem dX12_hopper_0 : decode cX12_hopper 0 = .ok (.aload_n 0, 1) := by decide +kernel
theorem dX12_hopper_1 : decode cX12_hopper 1 = .ok (.iload_n 1, 1) := by decide +kernel
theorem dX12_hopper_2 : decode cX12_hopper 2 = .ok (.invokestatic 306, 3) := by decide +kernel
theorem dX12_hopper_5 : decode cX12_hopper 5 = .ok (.ifCond .eq 16, 3) := by decide +kernel
theorem dX12_hopper_8 : decode cX12_hopper 8 = .ok (.iload_n 2, 1) := by decide +kernel
theorem dX12_hopper_9 : decode cX12_hopper 9 = .ok (.ifCond .lt 12, 3) := by decide +kernel
theorem dX12_hopper_12 : decode cX12_hopper 12 = .ok (.iload_n 2, 1) := by decide +kernel
theorem dX12_hopper_13 : decode cX12_hopper 13 = .ok (.iconst 2, 1) := by decide +kernel
theorem dX12_hopper_14 : decode cX12_hopper 14 = .ok (.if_icmp .gt 7, 3) := by decide +kernel
theorem dX12_hopper_17 : decode cX12_hopper 17 = .ok (.iconst 0, 1) := by decide +kernel
theorem dX12_hopper_18 : decode cX12_hopper 18 = .ok (.goto 4, 3) := by decide +kernel
theorem dX12_hopper_21 : decode cX12_hopper 21 = .ok (.iconst 1, 1) := by decide +kernel
theorem dX12_hopper_22 : decode cX12_hopper 22 = .ok (.putfield 1, 3) := by decide +kernel
theorem dX12_hopper_25 : decode cX12_hopper 25 = .ok (.aload_n 0, 1) := by decide +kernel
theorem dX12_hopper_26 : decode cX12_hopper 26 = .ok (.getfield 1, 3) := by decide +kernel
theorem dX12_hopper_29 : decode cX12_hopper 29 = .ok (.ifCond .le 7, 3) := by decide +kernel
theorem dX12_hopper_32 : decode cX12_hopper 32 = .ok (.iconst 0, 1) := by decide +kernel
theorem dX12_hopper_33 : decode cX12_hopper 33 = .ok (.goto 36, 3) := by decide +kernel
theorem dX12_hopper_36 : decode cX12_hopper 36 = .ok (.iload_n 2, 1) := by decide +kernel
theorem dX12_hopper_37 : decode cX12_hopper 37 = .ok (.ifCond .ne 12, 3) := by decide +kernel
theorem dX12_hopper_40 : decode cX12_hopper 40 = .ok (.aload_n 0, 1) := by decide +kernel
theorem dX12_hopper_41 : decode cX12_hopper 41 = .ok (.getfield 98, 3) := by decide +kernel
theorem dX12_hopper_44 : decode cX12_hopper 44 = .ok (.iload_n 1, 1) := by decide +kernel
theorem dX12_hopper_45 : decode cX12_hopper 45 = .ok (.iaload, 1) := by decide +kernel
theorem dX12_hopper_46 : decode cX12_hopper 46 = .ok (.goto 23, 3) := by decide +kernel
theorem dX12_hopper_49 : decode cX12_hopper 49 = .ok (.iload_n 2, 1) := by decide +kernel
theorem dX12_hopper_50 : decode cX12_hopper 50 = .ok (.iconst 1, 1) := by decide +kernel
theorem dX12_hopper_51 : decode cX12_hopper 51 = .ok (.if_icmp .ne 12, 3) := by decide +kernel
theorem dX12_hopper_54 : decode cX12_hopper 54 = .ok (.aload_n 0, 1) := by decide +kernel
theorem dX12_hopper_55 : decode cX12_hopper 55 = .ok (.getfield 101, 3) := by decide +kernel
theorem dX12_hopper_58 : decode cX12_hopper 58 = .ok (.iload_n 1, 1) := by decide +kernel
theorem dX12_hopper_59 : decode cX12_hopper 59 = .ok (.iaload, 1) := by decide +kernel
theorem dX12_hopper_60 : decode cX12_hopper 60 = .ok (.goto 9, 3) := by decide +kernel
theorem dX12_hopper_63 : decode cX12_hopper 63 = .ok (.aload_n 0, 1) := by decide +kernel
theorem dX12_hopper_64 : decode cX12_hopper 64 = .ok (.getfield 104, 3) := by decide +kernel
theorem dX12_hopper_67 : decode cX12_hopper 67 = .ok (.iload_n 1, 1) := by decide +kernel
theorem dX12_hopper_68 : decode cX12_hopper 68 = .ok (.iaload, 1) := by decide +kernel
theorem dX12_hopper_69 : decode cX12_hopper 69 = .ok (.ireturn, 1) := by decide +kernel
theorem dX12_pieces_0 : decode cX12_pieces 0 = .ok (.iconst 0, 1) := by decide +kernel
theorem dX12_pieces_1 : decode cX12_pieces 1 = .ok (.istore_n 1, 1) := by decide +kernel
theorem dX12_pieces_2 : decode cX12_pieces 2 = .ok (.iconst 0, 1) := by decide +kernel
theorem dX12_pieces_3 : decode cX12_pieces 3 = .ok (.istore_n 2, 1) := by decide +kernel
theorem dX12_pieces_4 : decode cX12_pieces 4 = .ok (.iload_n 2, 1) := by decide +kernel
theorem dX12_pieces_5 : decode cX12_pieces 5 = .ok (.sipush 156, 3) := by decide +kernel
theorem dX12_pieces_8 : decode cX12_pieces 8 = .ok (.if_icmp .ge 26, 3) := by decide +kernel
theorem dX12_pieces_11 : decode cX12_pieces 11 = .ok (.iload_n 1, 1) := by decide +kernel
theorem dX12_pieces_12 : decode cX12_pieces 12 = .ok (.aload_n 0, 1) := by decide +kernel
theorem dX12_pieces_13 : decode cX12_pieces 13 = .ok (.getfield 86, 3) := by decide +kernel
theorem dX12_pieces_16 : decode cX12_pieces 16 = .ok (.iload_n 2, 1) := by decide +kernel
theorem dX12_pieces_17 : decode cX12_pieces 17 = .ok (.iaload, 1) := by decide +kernel
theorem dX12_pieces_18 : decode cX12_pieces 18 = .ok (.ifCond .le 7, 3) := by decide +kernel
theorem dX12_pieces_21 : decode cX12_pieces 21 = .ok (.iconst 1, 1) := by decide +kernel
theorem dX12_pieces_22 : decode cX12_pieces 22 = .ok (.goto 4, 3) := by decide +kernel
theorem dX12_pieces_25 : decode cX12_pieces 25 = .ok (.iconst 0, 1) := by decide +kernel
theorem dX12_pieces_26 : decode cX12_pieces 26 = .ok (.iadd, 1) := by decide +kernel
theorem dX12_pieces_27 : decode cX12_pieces 27 = .ok (.istore_n 1, 1) := by decide +kernel
theorem dX12_pieces_28 : decode cX12_pieces 28 = .ok (.iinc 2 1, 3) := by decide +kernel
theorem dX12_pieces_31 : decode cX12_pieces 31 = .ok (.goto (-27), 3) := by decide +kernel
theorem dX12_pieces_34 : decode cX12_pieces 34 = .ok (.iload_n 1, 1) := by decide +kernel
theorem dX12_pieces_35 : decode cX12_pieces 35 = .ok (.ireturn, 1) := by decide +kernel
theorem dX12_gateTrains_0 : decode cX12_gateTrains 0 = .ok (.aload_n 0, 1) := by decide +kernel
theorem dX12_gateTrains_1 : decode cX12_gateTrains 1 = .ok (.iconst 0, 1) := by decide +kernel
theorem dX12_gateTrains_2 : decode cX12_gateTrains 2 = .ok (.iconst 0, 1) := by decide +kernel
theorem dX12_gateTrains_3 : decode cX12_gateTrains 3 = .ok (.invokevirtual 309, 3) := by decide +kernel
theorem dX12_gateTrains_6 : decode cX12_gateTrains 6 = .ok (.iconst 0, 1) := by decide +kernel
theorem dX12_gateTrains_7 : decode cX12_gateTrains 7 = .ok (.istore_n 1, 1) := by decide +kernel
theorem dX12_gateTrains_8 : decode cX12_gateTrains 8 = .ok (.iconst 0, 1) := by decide +kernel
theorem dX12_gateTrains_9 : decode cX12_gateTrains 9 = .ok (.istore_n 2, 1) := by decide +kernel
theorem dX12_gateTrains_10 : decode cX12_gateTrains 10 = .ok (.iload_n 2, 1) := by decide +kernel
theorem dX12_gateTrains_11 : decode cX12_gateTrains 11 = .ok (.sipush 156, 3) := by decide +kernel
theorem dX12_gateTrains_14 : decode cX12_gateTrains 14 = .ok (.if_icmp .ge 72, 3) := by decide +kernel
theorem dX12_gateTrains_17 : decode cX12_gateTrains 17 = .ok (.iconst 0, 1) := by decide +kernel
theorem dX12_gateTrains_18 : decode cX12_gateTrains 18 = .ok (.istore_n 3, 1) := by decide +kernel
theorem dX12_gateTrains_19 : decode cX12_gateTrains 19 = .ok (.iload_n 2, 1) := by decide +kernel
theorem dX12_gateTrains_20 : decode cX12_gateTrains 20 = .ok (.istore 4, 2) := by decide +kernel
theorem dX12_gateTrains_22 : decode cX12_gateTrains 22 = .ok (.iload 4, 2) := by decide +kernel
theorem dX12_gateTrains_24 : decode cX12_gateTrains 24 = .ok (.sipush 156, 3) := by decide +kernel
theorem dX12_gateTrains_27 : decode cX12_gateTrains 27 = .ok (.if_icmp .ge 41, 3) := by decide +kernel
theorem dX12_gateTrains_30 : decode cX12_gateTrains 30 = .ok (.iload_n 3, 1) := by decide +kernel
theorem dX12_gateTrains_31 : decode cX12_gateTrains 31 = .ok (.ifCond .ne 25, 3) := by decide +kernel
theorem dX12_gateTrains_34 : decode cX12_gateTrains 34 = .ok (.aload_n 0, 1) := by decide +kernel
theorem dX12_gateTrains_35 : decode cX12_gateTrains 35 = .ok (.getfield 107, 3) := by decide +kernel
theorem dX12_gateTrains_38 : decode cX12_gateTrains 38 = .ok (.iload 4, 2) := by decide +kernel
theorem dX12_gateTrains_40 : decode cX12_gateTrains 40 = .ok (.iaload, 1) := by decide +kernel
theorem dX12_gateTrains_41 : decode cX12_gateTrains 41 = .ok (.iload_n 2, 1) := by decide +kernel
theorem dX12_gateTrains_42 : decode cX12_gateTrains 42 = .ok (.if_icmp .ne 18, 3) := by decide +kernel
theorem dX12_gateTrains_45 : decode cX12_gateTrains 45 = .ok (.aload_n 0, 1) := by decide +kernel
theorem dX12_gateTrains_46 : decode cX12_gateTrains 46 = .ok (.getfield 86, 3) := by decide +kernel
theorem dX12_gateTrains_49 : decode cX12_gateTrains 49 = .ok (.iload 4, 2) := by decide +kernel
theorem dX12_gateTrains_51 : decode cX12_gateTrains 51 = .ok (.iaload, 1) := by decide +kernel
theorem dX12_gateTrains_52 : decode cX12_gateTrains 52 = .ok (.iconst 4, 1) := by decide +kernel
theorem dX12_gateTrains_53 : decode cX12_gateTrains 53 = .ok (.if_icmp .ne 7, 3) := by decide +kernel
theorem dX12_gateTrains_56 : decode cX12_gateTrains 56 = .ok (.iconst 1, 1) := by decide +kernel
theorem dX12_gateTrains_57 : decode cX12_gateTrains 57 = .ok (.goto 4, 3) := by decide +kernel
theorem dX12_gateTrains_60 : decode cX12_gateTrains 60 = .ok (.iconst 0, 1) := by decide +kernel
theorem dX12_gateTrains_61 : decode cX12_gateTrains 61 = .ok (.istore_n 3, 1) := by decide +kernel
theorem dX12_gateTrains_62 : decode cX12_gateTrains 62 = .ok (.iinc 4 1, 3) := by decide +kernel
theorem dX12_gateTrains_65 : decode cX12_gateTrains 65 = .ok (.goto (-43), 3) := by decide +kernel
theorem dX12_gateTrains_68 : decode cX12_gateTrains 68 = .ok (.iload_n 1, 1) := by decide +kernel
theorem dX12_gateTrains_69 : decode cX12_gateTrains 69 = .ok (.iload_n 3, 1) := by decide +kernel
theorem dX12_gateTrains_70 : decode cX12_gateTrains 70 = .ok (.ifCond .eq 7, 3) := by decide +kernel
theorem dX12_gateTrains_73 : decode cX12_gateTrains 73 = .ok (.iconst 1, 1) := by decide +kernel
theorem dX12_gateTrains_74 : decode cX12_gateTrains 74 = .ok (.goto 4, 3) := by decide +kernel
theorem dX12_gateTrains_77 : decode cX12_gateTrains 77 = .ok (.iconst 0, 1) := by decide +kernel
theorem dX12_gateTrains_78 : decode cX12_gateTrains 78 = .ok (.iadd, 1) := by decide +kernel
theorem dX12_gateTrains_79 : decode cX12_gateTrains 79 = .ok (.istore_n 1, 1) := by decide +kernel
theorem dX12_gateTrains_80 : decode cX12_gateTrains 80 = .ok (.iinc 2 1, 3) := by decide +kernel
theorem dX12_gateTrains_83 : decode cX12_gateTrains 83 = .ok (.goto (-73), 3) := by decide +kernel
theorem dX12_gateTrains_86 : decode cX12_gateTrains 86 = .ok (.iload_n 1, 1) := by decide +kernel
theorem dX12_gateTrains_87 : decode cX12_gateTrains 87 = .ok (.ireturn, 1) := by decide +kernel
theorem dX12_levers_0 : decode cX12_levers 0 = .ok (.iconst 0, 1) := by decide +kernel
theorem dX12_levers_1 : decode cX12_levers 1 = .ok (.istore_n 1, 1) := by decide +kernel
theorem dX12_levers_2 : decode cX12_levers 2 = .ok (.iconst 0, 1) := by decide +kernel
theorem dX12_levers_3 : decode cX12_levers 3 = .ok (.istore_n 2, 1) := by decide +kernel
theorem dX12_levers_4 : decode cX12_levers 4 = .ok (.iload_n 2, 1) := by decide +kernel
theorem dX12_levers_5 : decode cX12_levers 5 = .ok (.bipush 13, 2) := by decide +kernel
theorem dX12_levers_7 : decode cX12_levers 7 = .ok (.if_icmp .ge 26, 3) := by decide +kernel
theorem dX12_levers_10 : decode cX12_levers 10 = .ok (.iload_n 1, 1) := by decide +kernel
theorem dX12_levers_11 : decode cX12_levers 11 = .ok (.aload_n 0, 1) := by decide +kernel
theorem dX12_levers_12 : decode cX12_levers 12 = .ok (.getfield 95, 3) := by decide +kernel
theorem dX12_levers_15 : decode cX12_levers 15 = .ok (.iload_n 2, 1) := by decide +kernel
theorem dX12_levers_16 : decode cX12_levers 16 = .ok (.iaload, 1) := by decide +kernel
theorem dX12_levers_17 : decode cX12_levers 17 = .ok (.ifCond .lt 7, 3) := by decide +kernel
theorem dX12_levers_20 : decode cX12_levers 20 = .ok (.iconst 1, 1) := by decide +kernel
theorem dX12_levers_21 : decode cX12_levers 21 = .ok (.goto 4, 3) := by decide +kernel
theorem dX12_levers_24 : decode cX12_levers 24 = .ok (.iconst 0, 1) := by decide +kernel
theorem dX12_levers_25 : decode cX12_levers 25 = .ok (.iadd, 1) := by decide +kernel
theorem dX12_levers_26 : decode cX12_levers 26 = .ok (.istore_n 1, 1) := by decide +kernel
theorem dX12_levers_27 : decode cX12_levers 27 = .ok (.iinc 2 1, 3) := by decide +kernel
theorem dX12_levers_30 : decode cX12_levers 30 = .ok (.goto (-26), 3) := by decide +kernel
theorem dX12_levers_33 : decode cX12_levers 33 = .ok (.iload_n 1, 1) := by decide +kernel
theorem dX12_levers_34 : decode cX12_levers 34 = .ok (.ireturn, 1) := by decide +kernel
theorem dX12_count_0 : decode cX12_count 0 = .ok (.aload_n 0, 1) := by decide +kernel
theorem dX12_count_1 : decode cX12_count 1 = .ok (.iconst 0, 1) := by decide +kernel
theorem dX12_count_2 : decode cX12_count 2 = .ok (.putfield 1, 3) := by decide +kernel
theorem dX12_count_5 : decode cX12_count 5 = .ok (.iload_n 1, 1) := by decide +kernel
theorem dX12_count_6 : decode cX12_count 6 = .ok (.tableswitch 105 0 9 #[54, 59, 65, 70, 75, 80, 85, 90, 95, 100], 54) := by decide +kernel
theorem dX12_count_60 : decode cX12_count 60 = .ok (.aload_n 0, 1) := by decide +kernel
theorem dX12_count_61 : decode cX12_count 61 = .ok (.invokevirtual 408, 3) := by decide +kernel
theorem dX12_count_64 : decode cX12_count 64 = .ok (.ireturn, 1) := by decide +kernel
theorem dX12_count_65 : decode cX12_count 65 = .ok (.aload_n 0, 1) := by decide +kernel
theorem dX12_count_66 : decode cX12_count 66 = .ok (.iconst 0, 1) := by decide +kernel
theorem dX12_count_67 : decode cX12_count 67 = .ok (.invokevirtual 288, 3) := by decide +kernel
theorem dX12_count_70 : decode cX12_count 70 = .ok (.ireturn, 1) := by decide +kernel
theorem dX12_count_71 : decode cX12_count 71 = .ok (.aload_n 0, 1) := by decide +kernel
theorem dX12_count_72 : decode cX12_count 72 = .ok (.invokevirtual 411, 3) := by decide +kernel
theorem dX12_count_75 : decode cX12_count 75 = .ok (.ireturn, 1) := by decide +kernel
theorem dX12_count_76 : decode cX12_count 76 = .ok (.aload_n 0, 1) := by decide +kernel
theorem dX12_count_77 : decode cX12_count 77 = .ok (.getfield 319, 3) := by decide +kernel
theorem dX12_count_80 : decode cX12_count 80 = .ok (.ireturn, 1) := by decide +kernel
theorem dX12_count_81 : decode cX12_count 81 = .ok (.aload_n 0, 1) := by decide +kernel
theorem dX12_count_82 : decode cX12_count 82 = .ok (.getfield 279, 3) := by decide +kernel
theorem dX12_count_85 : decode cX12_count 85 = .ok (.ireturn, 1) := by decide +kernel
theorem dX12_count_86 : decode cX12_count 86 = .ok (.aload_n 0, 1) := by decide +kernel
theorem dX12_count_87 : decode cX12_count 87 = .ok (.getfield 11, 3) := by decide +kernel
theorem dX12_count_90 : decode cX12_count 90 = .ok (.ireturn, 1) := by decide +kernel
theorem dX12_count_91 : decode cX12_count 91 = .ok (.aload_n 0, 1) := by decide +kernel
theorem dX12_count_92 : decode cX12_count 92 = .ok (.getfield 376, 3) := by decide +kernel
theorem dX12_count_95 : decode cX12_count 95 = .ok (.ireturn, 1) := by decide +kernel
theorem dX12_count_96 : decode cX12_count 96 = .ok (.aload_n 0, 1) := by decide +kernel
theorem dX12_count_97 : decode cX12_count 97 = .ok (.getfield 394, 3) := by decide +kernel
theorem dX12_count_100 : decode cX12_count 100 = .ok (.ireturn, 1) := by decide +kernel
theorem dX12_count_101 : decode cX12_count 101 = .ok (.aload_n 0, 1) := by decide +kernel
theorem dX12_count_102 : decode cX12_count 102 = .ok (.invokevirtual 414, 3) := by decide +kernel
theorem dX12_count_105 : decode cX12_count 105 = .ok (.ireturn, 1) := by decide +kernel
theorem dX12_count_106 : decode cX12_count 106 = .ok (.aload_n 0, 1) := by decide +kernel
theorem dX12_count_107 : decode cX12_count 107 = .ok (.getfield 273, 3) := by decide +kernel
theorem dX12_count_110 : decode cX12_count 110 = .ok (.ireturn, 1) := by decide +kernel
theorem dX12_count_111 : decode cX12_count 111 = .ok (.iconst (-1), 1) := by decide +kernel
theorem dX12_count_112 : decode cX12_count 112 = .ok (.ireturn, 1) := by decide +kernel
