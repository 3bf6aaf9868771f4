theorem dX4_kindAtHand_1 : decode cX4_kindAtHand 1 = .ok (.getfield 40, 3) := by decide +kernel
theorem dX4_kindAtHand_4 : decode cX4_kindAtHand 4 = .ok (.getfield 143, 3) := by decide +kernel
theorem dX4_kindAtHand_7 : decode cX4_kindAtHand 7 = .ok (.aload_n 0, 1) := by decide +kernel
theorem dX4_kindAtHand_8 : decode cX4_kindAtHand 8 = .ok (.getfield 44, 3) := by decide +kernel
theorem dX4_kindAtHand_11 : decode cX4_kindAtHand 11 = .ok (.iaload, 1) := by decide +kernel
theorem dX4_kindAtHand_12 : decode cX4_kindAtHand 12 = .ok (.ireturn, 1) := by decide +kernel
theorem dX4_nameAtHand_0 : decode cX4_nameAtHand 0 = .ok (.iconst 0, 1) := by decide +kernel
theorem dX4_nameAtHand_1 : decode cX4_nameAtHand 1 = .ok (.istore_n 1, 1) := by decide +kernel
theorem dX4_nameAtHand_2 : decode cX4_nameAtHand 2 = .ok (.iload_n 1, 1) := by decide +kernel
theorem dX4_nameAtHand_3 : decode cX4_nameAtHand 3 = .ok (.aload_n 0, 1) := by decide +kernel
theorem dX4_nameAtHand_4 : decode cX4_nameAtHand 4 = .ok (.getfield 51, 3) := by decide +kernel
theorem dX4_nameAtHand_7 : decode cX4_nameAtHand 7 = .ok (.if_icmp .ge 33, 3) := by decide +kernel
theorem dX4_nameAtHand_10 : decode cX4_nameAtHand 10 = .ok (.aload_n 0, 1) := by decide +kernel
theorem dX4_nameAtHand_11 : decode cX4_nameAtHand 11 = .ok (.getfield 30, 3) := by decide +kernel
theorem dX4_nameAtHand_14 : decode cX4_nameAtHand 14 = .ok (.iload_n 1, 1) := by decide +kernel
theorem dX4_nameAtHand_15 : decode cX4_nameAtHand 15 = .ok (.laload, 1) := by decide +kernel
theorem dX4_nameAtHand_16 : decode cX4_nameAtHand 16 = .ok (.aload_n 0, 1) := by decide +kernel
theorem dX4_nameAtHand_17 : decode cX4_nameAtHand 17 = .ok (.getfield 40, 3) := by decide +kernel
theorem dX4_nameAtHand_20 : decode cX4_nameAtHand 20 = .ok (.getfield 140, 3) := by decide +kernel
theorem dX4_nameAtHand_23 : decode cX4_nameAtHand 23 = .ok (.aload_n 0, 1) := by decide +kernel
theorem dX4_nameAtHand_24 : decode cX4_nameAtHand 24 = .ok (.getfield 44, 3) := by decide +kernel
theorem dX4_nameAtHand_27 : decode cX4_nameAtHand 27 = .ok (.laload, 1) := by decide +kernel
theorem dX4_nameAtHand_28 : decode cX4_nameAtHand 28 = .ok (.lcmp, 1) := by decide +kernel
theorem dX4_nameAtHand_29 : decode cX4_nameAtHand 29 = .ok (.ifCond .ne 5, 3) := by decide +kernel
theorem dX4_nameAtHand_32 : decode cX4_nameAtHand 32 = .ok (.iload_n 1, 1) := by decide +kernel
theorem dX4_nameAtHand_33 : decode cX4_nameAtHand 33 = .ok (.ireturn, 1) := by decide +kernel
theorem dX4_nameAtHand_34 : decode cX4_nameAtHand 34 = .ok (.iinc 1 1, 3) := by decide +kernel
theorem dX4_nameAtHand_37 : decode cX4_nameAtHand 37 = .ok (.goto (-35), 3) := by decide +kernel
theorem dX4_nameAtHand_40 : decode cX4_nameAtHand 40 = .ok (.iconst (-1), 1) := by decide +kernel
theorem dX4_nameAtHand_41 : decode cX4_nameAtHand 41 = .ok (.ireturn, 1) := by decide +kernel
theorem dX4_fail_0 : decode cX4_fail 0 = .ok (.aload_n 0, 1) := by decide +kernel
theorem dX4_fail_1 : decode cX4_fail 1 = .ok (.getfield 57, 3) := by decide +kernel
theorem dX4_fail_4 : decode cX4_fail 4 = .ok (.ifCond .ne 24, 3) := by decide +kernel
theorem dX4_fail_7 : decode cX4_fail 7 = .ok (.aload_n 0, 1) := by decide +kernel
theorem dX4_fail_8 : decode cX4_fail 8 = .ok (.iload_n 1, 1) := by decide +kernel
theorem dX4_fail_9 : decode cX4_fail 9 = .ok (.bipush 16, 2) := by decide +kernel
theorem dX4_fail_11 : decode cX4_fail 11 = .ok (.aload_n 0, 1) := by decide +kernel
theorem dX4_fail_12 : decode cX4_fail 12 = .ok (.getfield 40, 3) := by decide +kernel
theorem dX4_fail_15 : decode cX4_fail 15 = .ok (.getfield 146, 3) := by decide +kernel
theorem dX4_fail_18 : decode cX4_fail 18 = .ok (.aload_n 0, 1) := by decide +kernel
theorem dX4_fail_19 : decode cX4_fail 19 = .ok (.getfield 44, 3) := by decide +kernel
theorem dX4_fail_22 : decode cX4_fail 22 = .ok (.iaload, 1) := by decide +kernel
theorem dX4_fail_23 : decode cX4_fail 23 = .ok (.imul, 1) := by decide +kernel
theorem dX4_fail_24 : decode cX4_fail 24 = .ok (.iadd, 1) := by decide +kernel
theorem dX4_fail_25 : decode cX4_fail 25 = .ok (.putfield 57, 3) := by decide +kernel
theorem dX4_fail_28 : decode cX4_fail 28 = .ok (.return_, 1) := by decide +kernel
theorem dX4_advance_0 : decode cX4_advance 0 = .ok (.aload_n 0, 1) := by decide +kernel
theorem dX4_advance_1 : decode cX4_advance 1 = .ok (.getfield 57, 3) := by decide +kernel
theorem dX4_advance_4 : decode cX4_advance 4 = .ok (.ifCond .ne 27, 3) := by decide +kernel
theorem dX4_advance_7 : decode cX4_advance 7 = .ok (.aload_n 0, 1) := by decide +kernel
theorem dX4_advance_8 : decode cX4_advance 8 = .ok (.getfield 44, 3) := by decide +kernel
theorem dX4_advance_11 : decode cX4_advance 11 = .ok (.aload_n 0, 1) := by decide +kernel
theorem dX4_advance_12 : decode cX4_advance 12 = .ok (.getfield 40, 3) := by decide +kernel
theorem dX4_advance_15 : decode cX4_advance 15 = .ok (.getfield 149, 3) := by decide +kernel
theorem dX4_advance_18 : decode cX4_advance 18 = .ok (.if_icmp .ge 13, 3) := by decide +kernel
theorem dX4_advance_21 : decode cX4_advance 21 = .ok (.aload_n 0, 1) := by decide +kernel
theorem dX4_advance_22 : decode cX4_advance 22 = .ok (.dup, 1) := by decide +kernel
theorem dX4_advance_23 : decode cX4_advance 23 = .ok (.getfield 44, 3) := by decide +kernel
theorem dX4_advance_26 : decode cX4_advance 26 = .ok (.iconst 1, 1) := by decide +kernel
theorem dX4_advance_27 : decode cX4_advance 27 = .ok (.iadd, 1) := by decide +kernel
theorem dX4_advance_28 : decode cX4_advance 28 = .ok (.putfield 44, 3) := by decide +kernel
theorem dX4_advance_31 : decode cX4_advance 31 = .ok (.return_, 1) := by decide +kernel
theorem dX5_init_0 : decode cX5_init 0 = .ok (.aload_n 0, 1) := by decide +kernel
theorem dX5_init_1 : decode cX5_init 1 = .ok (.invokespecial 3, 3) := by decide +kernel
theorem dX5_init_4 : decode cX5_init 4 = .ok (.aload_n 0, 1) := by decide +kernel
theorem dX5_init_5 : decode cX5_init 5 = .ok (.iconst (-1), 1) := by decide +kernel
theorem dX5_init_6 : decode cX5_init 6 = .ok (.putfield 9, 3) := by decide +kernel
theorem dX5_init_9 : decode cX5_init 9 = .ok (.return_, 1) := by decide +kernel
theorem dX5_look_0 : decode cX5_look 0 = .ok (.aload_n 0, 1) := by decide +kernel
theorem dX5_look_1 : decode cX5_look 1 = .ok (.getfield 9, 3) := by decide +kernel
theorem dX5_look_4 : decode cX5_look 4 = .ok (.iload_n 2, 1) := by decide +kernel
theorem dX5_look_5 : decode cX5_look 5 = .ok (.if_icmp .ne 4, 3) := by decide +kernel
theorem dX5_look_8 : decode cX5_look 8 = .ok (.return_, 1) := by decide +kernel
theorem dX5_look_9 : decode cX5_look 9 = .ok (.aload_n 0, 1) := by decide +kernel
theorem dX5_look_10 : decode cX5_look 10 = .ok (.iload_n 2, 1) := by decide +kernel
theorem dX5_look_11 : decode cX5_look 11 = .ok (.putfield 9, 3) := by decide +kernel
theorem dX5_look_14 : decode cX5_look 14 = .ok (.aload_n 0, 1) := by decide +kernel
theorem dX5_look_15 : decode cX5_look 15 = .ok (.iconst (-1), 1) := by decide +kernel
theorem dX5_look_16 : decode cX5_look 16 = .ok (.putfield 15, 3) := by decide +kernel
theorem dX5_look_19 : decode cX5_look 19 = .ok (.aload_n 0, 1) := by decide +kernel
theorem dX5_look_20 : decode cX5_look 20 = .ok (.iconst (-1), 1) := by decide +kernel
theorem dX5_look_21 : decode cX5_look 21 = .ok (.putfield 18, 3) := by decide +kernel
theorem dX5_look_24 : decode cX5_look 24 = .ok (.aload_n 3, 1) := by decide +kernel
theorem dX5_look_25 : decode cX5_look 25 = .ok (.sipush 4000, 3) := by decide +kernel
theorem dX5_look_28 : decode cX5_look 28 = .ok (.invokevirtual 21, 3) := by decide +kernel
theorem dX5_look_31 : decode cX5_look 31 = .ok (.aload_n 1, 1) := by decide +kernel
theorem dX5_look_32 : decode cX5_look 32 = .ok (.getfield 27, 3) := by decide +kernel
theorem dX5_look_35 : decode cX5_look 35 = .ok (.lstore 4, 2) := by decide +kernel
theorem dX5_look_37 : decode cX5_look 37 = .ok (.iload_n 2, 1) := by decide +kernel
theorem dX5_look_38 : decode cX5_look 38 = .ok (.istore 6, 2) := by decide +kernel
theorem dX5_look_40 : decode cX5_look 40 = .ok (.iconst 0, 1) := by decide +kernel
theorem dX5_look_41 : decode cX5_look 41 = .ok (.istore 7, 2) := by decide +kernel
theorem dX5_look_43 : decode cX5_look 43 = .ok (.iload 7, 2) := by decide +kernel
theorem dX5_look_45 : decode cX5_look 45 = .ok (.sipush 4000, 3) := by decide +kernel
theorem dX5_look_48 : decode cX5_look 48 = .ok (.if_icmp .gt 101, 3) := by decide +kernel
theorem dX5_look_51 : decode cX5_look 51 = .ok (.aload_n 3, 1) := by decide +kernel
theorem dX5_look_52 : decode cX5_look 52 = .ok (.lload 4, 2) := by decide +kernel
theorem dX5_look_54 : decode cX5_look 54 = .ok (.iload 6, 2) := by decide +kernel
theorem dX5_look_56 : decode cX5_look 56 = .ok (.i2l, 1) := by decide +kernel
theorem dX5_look_57 : decode cX5_look 57 = .ok (.iload 7, 2) := by decide +kernel
theorem dX5_look_59 : decode cX5_look 59 = .ok (.iconst 1, 1) := by decide +kernel
theorem dX5_look_60 : decode cX5_look 60 = .ok (.isub, 1) := by decide +kernel
theorem dX5_look_61 : decode cX5_look 61 = .ok (.iload 6, 2) := by decide +kernel
theorem dX5_look_63 : decode cX5_look 63 = .ok (.invokevirtual 33, 3) := by decide +kernel
theorem dX5_look_66 : decode cX5_look 66 = .ok (.istore 8, 2) := by decide +kernel
theorem dX5_look_68 : decode cX5_look 68 = .ok (.aload_n 3, 1) := by decide +kernel
theorem dX5_look_69 : decode cX5_look 69 = .ok (.getfield 37, 3) := by decide +kernel
theorem dX5_look_72 : decode cX5_look 72 = .ok (.ifCond .ne 19, 3) := by decide +kernel
theorem dX5_look_75 : decode cX5_look 75 = .ok (.aload_n 0, 1) := by decide +kernel
theorem dX5_look_76 : decode cX5_look 76 = .ok (.iload 8, 2) := by decide +kernel
theorem dX5_look_78 : decode cX5_look 78 = .ok (.putfield 15, 3) := by decide +kernel
theorem dX5_look_81 : decode cX5_look 81 = .ok (.aload_n 0, 1) := by decide +kernel
theorem dX5_look_82 : decode cX5_look 82 = .ok (.iload 7, 2) := by decide +kernel
theorem dX5_look_84 : decode cX5_look 84 = .ok (.iload 8, 2) := by decide +kernel
theorem dX5_look_86 : decode cX5_look 86 = .ok (.isub, 1) := by decide +kernel
theorem dX5_look_87 : decode cX5_look 87 = .ok (.putfield 18, 3) := by decide +kernel
theorem dX5_look_90 : decode cX5_look 90 = .ok (.return_, 1) := by decide +kernel
theorem dX5_look_91 : decode cX5_look 91 = .ok (.aload_n 1, 1) := by decide +kernel
theorem dX5_look_92 : decode cX5_look 92 = .ok (.lload 4, 2) := by decide +kernel
theorem dX5_look_94 : decode cX5_look 94 = .ok (.iload 6, 2) := by decide +kernel
theorem dX5_look_96 : decode cX5_look 96 = .ok (.lconst 0, 1) := by decide +kernel
theorem dX5_look_97 : decode cX5_look 97 = .ok (.invokevirtual 41, 3) := by decide +kernel
theorem dX5_look_100 : decode cX5_look 100 = .ok (.istore 9, 2) := by decide +kernel
theorem dX5_look_102 : decode cX5_look 102 = .ok (.iload 8, 2) := by decide +kernel
theorem dX5_look_104 : decode cX5_look 104 = .ok (.iconst (-1), 1) := by decide +kernel
theorem dX5_look_105 : decode cX5_look 105 = .ok (.if_icmp .eq 22, 3) := by decide +kernel
theorem dX5_look_108 : decode cX5_look 108 = .ok (.iload 9, 2) := by decide +kernel
theorem dX5_look_110 : decode cX5_look 110 = .ok (.sipush 256, 3) := by decide +kernel
theorem dX5_look_113 : decode cX5_look 113 = .ok (.if_icmp .ge 14, 3) := by decide +kernel
theorem dX5_look_116 : decode cX5_look 116 = .ok (.aload_n 1, 1) := by decide +kernel
theorem dX5_look_117 : decode cX5_look 117 = .ok (.getfield 45, 3) := by decide +kernel
theorem dX5_look_120 : decode cX5_look 120 = .ok (.iload 9, 2) := by decide +kernel
theorem dX5_look_122 : decode cX5_look 122 = .ok (.iaload, 1) := by decide +kernel
theorem dX5_look_123 : decode cX5_look 123 = .ok (.iconst (-1), 1) := by decide +kernel
theorem dX5_look_124 : decode cX5_look 124 = .ok (.if_icmp .ne 4, 3) := by decide +kernel
theorem dX5_look_127 : decode cX5_look 127 = .ok (.return_, 1) := by decide +kernel
theorem dX5_look_128 : decode cX5_look 128 = .ok (.aload_n 1, 1) := by decide +kernel
theorem dX5_look_129 : decode cX5_look 129 = .ok (.getfield 49, 3) := by decide +kernel
theorem dX5_look_132 : decode cX5_look 132 = .ok (.lstore 4, 2) := by decide +kernel
theorem dX5_look_134 : decode cX5_look 134 = .ok (.aload_n 1, 1) := by decide +kernel
theorem dX5_look_135 : decode cX5_look 135 = .ok (.getfield 45, 3) := by decide +kernel
theorem dX5_look_138 : decode cX5_look 138 = .ok (.iload 9, 2) := by decide +kernel
theorem dX5_look_140 : decode cX5_look 140 = .ok (.iaload, 1) := by decide +kernel
theorem dX5_look_141 : decode cX5_look 141 = .ok (.istore 6, 2) := by decide +kernel
theorem dX5_look_143 : decode cX5_look 143 = .ok (.iinc 7 1, 3) := by decide +kernel
theorem dX5_look_146 : decode cX5_look 146 = .ok (.goto (-103), 3) := by decide +kernel
theorem dX5_look_149 : decode cX5_look 149 = .ok (.return_, 1) := by decide +kernel
theorem dX6_init_0 : decode cX6_init 0 = .ok (.aload_n 0, 1) := by decide +kernel
theorem dX6_init_1 : decode cX6_init 1 = .ok (.invokespecial 3, 3) := by decide +kernel
theorem dX6_init_4 : decode cX6_init 4 = .ok (.aload_n 0, 1) := by decide +kernel
theorem dX6_init_5 : decode cX6_init 5 = .ok (.sipush 4000, 3) := by decide +kernel
theorem dX6_init_8 : decode cX6_init 8 = .ok (.newarray .long, 2) := by decide +kernel
theorem dX6_init_10 : decode cX6_init 10 = .ok (.putfield 11, 3) := by decide +kernel
theorem dX6_init_13 : decode cX6_init 13 = .ok (.aload_n 0, 1) := by decide +kernel
theorem dX6_init_14 : decode cX6_init 14 = .ok (.sipush 4000, 3) := by decide +kernel
theorem dX6_init_17 : decode cX6_init 17 = .ok (.newarray .long, 2) := by decide +kernel
theorem dX6_init_19 : decode cX6_init 19 = .ok (.putfield 15, 3) := by decide +kernel
theorem dX6_init_22 : decode cX6_init 22 = .ok (.aload_n 0, 1) := by decide +kernel
theorem dX6_init_23 : decode cX6_init 23 = .ok (.sipush 4000, 3) := by decide +kernel
theorem dX6_init_26 : decode cX6_init 26 = .ok (.newarray .int, 2) := by decide +kernel
theorem dX6_init_28 : decode cX6_init 28 = .ok (.putfield 18, 3) := by decide +kernel
theorem dX6_init_31 : decode cX6_init 31 = .ok (.aload_n 0, 1) := by decide +kernel
theorem dX6_init_32 : decode cX6_init 32 = .ok (.sipush 4000, 3) := by decide +kernel
theorem dX6_init_35 : decode cX6_init 35 = .ok (.newarray .int, 2) := by decide +kernel
theorem dX6_init_37 : decode cX6_init 37 = .ok (.putfield 22, 3) := by decide +kernel
theorem dX6_init_40 : decode cX6_init 40 = .ok (.aload_n 0, 1) := by decide +kernel
theorem dX6_init_41 : decode cX6_init 41 = .ok (.sipush 8192, 3) := by decide +kernel
theorem dX6_init_44 : decode cX6_init 44 = .ok (.newarray .int, 2) := by decide +kernel
theorem dX6_init_46 : decode cX6_init 46 = .ok (.putfield 25, 3) := by decide +kernel
theorem dX6_init_49 : decode cX6_init 49 = .ok (.aload_n 0, 1) := by decide +kernel
theorem dX6_init_50 : decode cX6_init 50 = .ok (.sipush 4000, 3) := by decide +kernel
theorem dX6_init_53 : decode cX6_init 53 = .ok (.newarray .int, 2) := by decide +kernel
theorem dX6_init_55 : decode cX6_init 55 = .ok (.putfield 28, 3) := by decide +kernel
theorem dX6_init_58 : decode cX6_init 58 = .ok (.return_, 1) := by decide +kernel
theorem dX6_begin_0 : decode cX6_begin 0 = .ok (.aload_n 0, 1) := by decide +kernel
theorem dX6_begin_1 : decode cX6_begin 1 = .ok (.iconst 0, 1) := by decide +kernel
theorem dX6_begin_2 : decode cX6_begin 2 = .ok (.putfield 31, 3) := by decide +kernel
theorem dX6_begin_5 : decode cX6_begin 5 = .ok (.aload_n 0, 1) := by decide +kernel
theorem dX6_begin_6 : decode cX6_begin 6 = .ok (.iload_n 1, 1) := by decide +kernel
theorem dX6_begin_7 : decode cX6_begin 7 = .ok (.sipush 4000, 3) := by decide +kernel
theorem dX6_begin_10 : decode cX6_begin 10 = .ok (.invokestatic 35, 3) := by decide +kernel
theorem dX6_begin_13 : decode cX6_begin 13 = .ok (.putfield 41, 3) := by decide +kernel
theorem dX6_begin_16 : decode cX6_begin 16 = .ok (.return_, 1) := by decide +kernel
theorem dX6_note_0 : decode cX6_note 0 = .ok (.aload_n 0, 1) := by decide +kernel
theorem dX6_note_1 : decode cX6_note 1 = .ok (.lload_n 1, 1) := by decide +kernel
theorem dX6_note_2 : decode cX6_note 2 = .ok (.lload_n 3, 1) := by decide +kernel
theorem dX6_note_3 : decode cX6_note 3 = .ok (.invokevirtual 44, 3) := by decide +kernel
theorem dX6_note_6 : decode cX6_note 6 = .ok (.istore 7, 2) := by decide +kernel
theorem dX6_note_8 : decode cX6_note 8 = .ok (.aload_n 0, 1) := by decide +kernel
theorem dX6_note_9 : decode cX6_note 9 = .ok (.aload_n 0, 1) := by decide +kernel
theorem dX6_note_10 : decode cX6_note 10 = .ok (.iload 7, 2) := by decide +kernel
theorem dX6_note_12 : decode cX6_note 12 = .ok (.invokevirtual 48, 3) := by decide +kernel
theorem dX6_note_15 : decode cX6_note 15 = .ok (.ifCond .ne 7, 3) := by decide +kernel
theorem dX6_note_18 : decode cX6_note 18 = .ok (.iconst 1, 1) := by decide +kernel
theorem dX6_note_19 : decode cX6_note 19 = .ok (.goto 4, 3) := by decide +kernel
theorem dX6_note_22 : decode cX6_note 22 = .ok (.iconst 0, 1) := by decide +kernel
theorem dX6_note_23 : decode cX6_note 23 = .ok (.putfield 52, 3) := by decide +kernel
theorem dX6_note_26 : decode cX6_note 26 = .ok (.aload_n 0, 1) := by decide +kernel
theorem dX6_note_27 : decode cX6_note 27 = .ok (.getfield 52, 3) := by decide +kernel
theorem dX6_note_30 : decode cX6_note 30 = .ok (.ifCond .ne 11, 3) := by decide +kernel
theorem dX6_note_33 : decode cX6_note 33 = .ok (.aload_n 0, 1) := by decide +kernel
theorem dX6_note_34 : decode cX6_note 34 = .ok (.getfield 25, 3) := by decide +kernel
theorem dX6_note_37 : decode cX6_note 37 = .ok (.iload 7, 2) := by decide +kernel
theorem dX6_note_39 : decode cX6_note 39 = .ok (.iaload, 1) := by decide +kernel
theorem dX6_note_40 : decode cX6_note 40 = .ok (.ireturn, 1) := by decide +kernel
theorem dX6_note_41 : decode cX6_note 41 = .ok (.aload_n 0, 1) := by decide +kernel
theorem dX6_note_42 : decode cX6_note 42 = .ok (.getfield 31, 3) := by decide +kernel
theorem dX6_note_45 : decode cX6_note 45 = .ok (.aload_n 0, 1) := by decide +kernel
theorem dX6_note_46 : decode cX6_note 46 = .ok (.getfield 41, 3) := by decide +kernel
theorem dX6_note_49 : decode cX6_note 49 = .ok (.if_icmp .lt 5, 3) := by decide +kernel
theorem dX6_note_52 : decode cX6_note 52 = .ok (.iconst (-1), 1) := by decide +kernel
theorem dX6_note_53 : decode cX6_note 53 = .ok (.ireturn, 1) := by decide +kernel
theorem dX6_note_54 : decode cX6_note 54 = .ok (.aload_n 0, 1) := by decide +kernel
theorem dX6_note_55 : decode cX6_note 55 = .ok (.getfield 11, 3) := by decide +kernel
theorem dX6_note_58 : decode cX6_note 58 = .ok (.aload_n 0, 1) := by decide +kernel
theorem dX6_note_59 : decode cX6_note 59 = .ok (.getfield 31, 3) := by decide +kernel
theorem dX6_note_62 : decode cX6_note 62 = .ok (.lload_n 1, 1) := by decide +kernel
theorem dX6_note_63 : decode cX6_note 63 = .ok (.lastore, 1) := by decide +kernel
theorem dX6_note_64 : decode cX6_note 64 = .ok (.aload_n 0, 1) := by decide +kernel
theorem dX6_note_65 : decode cX6_note 65 = .ok (.getfield 15, 3) := by decide +kernel
theorem dX6_note_68 : decode cX6_note 68 = .ok (.aload_n 0, 1) := by decide +kernel
theorem dX6_note_69 : decode cX6_note 69 = .ok (.getfield 31, 3) := by decide +kernel
theorem dX6_note_72 : decode cX6_note 72 = .ok (.lload_n 3, 1) := by decide +kernel
theorem dX6_note_73 : decode cX6_note 73 = .ok (.lastore, 1) := by decide +kernel
theorem dX6_note_74 : decode cX6_note 74 = .ok (.aload_n 0, 1) := by decide +kernel
theorem dX6_note_75 : decode cX6_note 75 = .ok (.getfield 18, 3) := by decide +kernel
theorem dX6_note_78 : decode cX6_note 78 = .ok (.aload_n 0, 1) := by decide +kernel
theorem dX6_note_79 : decode cX6_note 79 = .ok (.getfield 31, 3) := by decide +kernel
theorem dX6_note_82 : decode cX6_note 82 = .ok (.iload 5, 2) := by decide +kernel
theorem dX6_note_84 : decode cX6_note 84 = .ok (.iastore, 1) := by decide +kernel
theorem dX6_note_85 : decode cX6_note 85 = .ok (.aload_n 0, 1) := by decide +kernel
theorem dX6_note_86 : decode cX6_note 86 = .ok (.getfield 22, 3) := by decide +kernel
theorem dX6_note_89 : decode cX6_note 89 = .ok (.aload_n 0, 1) := by decide +kernel
theorem dX6_note_90 : decode cX6_note 90 = .ok (.getfield 31, 3) := by decide +kernel
theorem dX6_note_93 : decode cX6_note 93 = .ok (.iload 6, 2) := by decide +kernel
theorem dX6_note_95 : decode cX6_note 95 = .ok (.iastore, 1) := by decide +kernel
theorem dX6_note_96 : decode cX6_note 96 = .ok (.aload_n 0, 1) := by decide +kernel
theorem dX6_note_97 : decode cX6_note 97 = .ok (.getfield 28, 3) := by decide +kernel
theorem dX6_note_100 : decode cX6_note 100 = .ok (.aload_n 0, 1) := by decide +kernel
theorem dX6_note_101 : decode cX6_note 101 = .ok (.getfield 31, 3) := by decide +kernel
theorem dX6_note_104 : decode cX6_note 104 = .ok (.iload 7, 2) := by decide +kernel
theorem dX6_note_106 : decode cX6_note 106 = .ok (.iastore, 1) := by decide +kernel
theorem dX6_note_107 : decode cX6_note 107 = .ok (.aload_n 0, 1) := by decide +kernel
theorem dX6_note_108 : decode cX6_note 108 = .ok (.getfield 25, 3) := by decide +kernel
theorem dX6_note_111 : decode cX6_note 111 = .ok (.iload 7, 2) := by decide +kernel
theorem dX6_note_113 : decode cX6_note 113 = .ok (.aload_n 0, 1) := by decide +kernel
theorem dX6_note_114 : decode cX6_note 114 = .ok (.getfield 31, 3) := by decide +kernel
theorem dX6_note_117 : decode cX6_note 117 = .ok (.iastore, 1) := by decide +kernel
theorem dX6_note_118 : decode cX6_note 118 = .ok (.aload_n 0, 1) := by decide +kernel
theorem dX6_note_119 : decode cX6_note 119 = .ok (.dup, 1) := by decide +kernel
theorem dX6_note_120 : decode cX6_note 120 = .ok (.getfield 31, 3) := by decide +kernel
theorem dX6_note_123 : decode cX6_note 123 = .ok (.iconst 1, 1) := by decide +kernel
theorem dX6_note_124 : decode cX6_note 124 = .ok (.iadd, 1) := by decide +kernel
theorem dX6_note_125 : decode cX6_note 125 = .ok (.putfield 31, 3) := by decide +kernel
theorem dX6_note_128 : decode cX6_note 128 = .ok (.aload_n 0, 1) := by decide +kernel
theorem dX6_note_129 : decode cX6_note 129 = .ok (.getfield 31, 3) := by decide +kernel
theorem dX6_note_132 : decode cX6_note 132 = .ok (.iconst 1, 1) := by decide +kernel
theorem dX6_note_133 : decode cX6_note 133 = .ok (.isub, 1) := by decide +kernel
theorem dX6_note_134 : decode cX6_note 134 = .ok (.ireturn, 1) := by decide +kernel
theorem dX6_cellOf_0 : decode cX6_cellOf 0 = .ok (.lload_n 1, 1) := by decide +kernel
theorem dX6_cellOf_1 : decode cX6_cellOf 1 = .ok (.ldc2_w 56, 3) := by decide +kernel
theorem dX6_cellOf_4 : decode cX6_cellOf 4 = .ok (.lmul, 1) := by decide +kernel
theorem dX6_cellOf_5 : decode cX6_cellOf 5 = .ok (.lload_n 3, 1) := by decide +kernel
theorem dX6_cellOf_6 : decode cX6_cellOf 6 = .ok (.ladd, 1) := by decide +kernel
theorem dX6_cellOf_7 : decode cX6_cellOf 7 = .ok (.ldc2_w 58, 3) := by decide +kernel
theorem dX6_cellOf_10 : decode cX6_cellOf 10 = .ok (.lmul, 1) := by decide +kernel
theorem dX6_cellOf_11 : decode cX6_cellOf 11 = .ok (.lstore 5, 2) := by decide +kernel
theorem dX6_cellOf_13 : decode cX6_cellOf 13 = .ok (.lload 5, 2) := by decide +kernel
theorem dX6_cellOf_15 : decode cX6_cellOf 15 = .ok (.bipush 51, 2) := by decide +kernel
theorem dX6_cellOf_17 : decode cX6_cellOf 17 = .ok (.lushr, 1) := by decide +kernel
theorem dX6_cellOf_18 : decode cX6_cellOf 18 = .ok (.l2i, 1) := by decide +kernel
theorem dX6_cellOf_19 : decode cX6_cellOf 19 = .ok (.istore 7, 2) := by decide +kernel
theorem dX6_cellOf_21 : decode cX6_cellOf 21 = .ok (.iconst 0, 1) := by decide +kernel
theorem dX6_cellOf_22 : decode cX6_cellOf 22 = .ok (.istore 8, 2) := by decide +kernel
theorem dX6_cellOf_24 : decode cX6_cellOf 24 = .ok (.iload 8, 2) := by decide +kernel
theorem dX6_cellOf_26 : decode cX6_cellOf 26 = .ok (.sipush 8192, 3) := by decide +kernel
theorem dX6_cellOf_29 : decode cX6_cellOf 29 = .ok (.if_icmp .ge 65, 3) := by decide +kernel
theorem dX6_cellOf_32 : decode cX6_cellOf 32 = .ok (.aload_n 0, 1) := by decide +kernel
theorem dX6_cellOf_33 : decode cX6_cellOf 33 = .ok (.iload 7, 2) := by decide +kernel
theorem dX6_cellOf_35 : decode cX6_cellOf 35 = .ok (.invokevirtual 48, 3) := by decide +kernel
theorem dX6_cellOf_38 : decode cX6_cellOf 38 = .ok (.ifCond .eq 56, 3) := by decide +kernel
theorem dX6_cellOf_41 : decode cX6_cellOf 41 = .ok (.aload_n 0, 1) := by decide +kernel
theorem dX6_cellOf_42 : decode cX6_cellOf 42 = .ok (.getfield 11, 3) := by decide +kernel
theorem dX6_cellOf_45 : decode cX6_cellOf 45 = .ok (.aload_n 0, 1) := by decide +kernel
theorem dX6_cellOf_46 : decode cX6_cellOf 46 = .ok (.getfield 25, 3) := by decide +kernel
theorem dX6_cellOf_49 : decode cX6_cellOf 49 = .ok (.iload 7, 2) := by decide +kernel
theorem dX6_cellOf_51 : decode cX6_cellOf 51 = .ok (.iaload, 1) := by decide +kernel
theorem dX6_cellOf_52 : decode cX6_cellOf 52 = .ok (.laload, 1) := by decide +kernel
theorem dX6_cellOf_53 : decode cX6_cellOf 53 = .ok (.lload_n 1, 1) := by decide +kernel
theorem dX6_cellOf_54 : decode cX6_cellOf 54 = .ok (.lcmp, 1) := by decide +kernel
theorem dX6_cellOf_55 : decode cX6_cellOf 55 = .ok (.ifCond .ne 23, 3) := by decide +kernel
theorem dX6_cellOf_58 : decode cX6_cellOf 58 = .ok (.aload_n 0, 1) := by decide +kernel
theorem dX6_cellOf_59 : decode cX6_cellOf 59 = .ok (.getfield 15, 3) := by decide +kernel
theorem dX6_cellOf_62 : decode cX6_cellOf 62 = .ok (.aload_n 0, 1) := by decide +kernel
theorem dX6_cellOf_63 : decode cX6_cellOf 63 = .ok (.getfield 25, 3) := by decide +kernel
theorem dX6_cellOf_66 : decode cX6_cellOf 66 = .ok (.iload 7, 2) := by decide +kernel
theorem dX6_cellOf_68 : decode cX6_cellOf 68 = .ok (.iaload, 1) := by decide +kernel
theorem dX6_cellOf_69 : decode cX6_cellOf 69 = .ok (.laload, 1) := by decide +kernel
theorem dX6_cellOf_70 : decode cX6_cellOf 70 = .ok (.lload_n 3, 1) := by decide +kernel
theorem dX6_cellOf_71 : decode cX6_cellOf 71 = .ok (.lcmp, 1) := by decide +kernel
theorem dX6_cellOf_72 : decode cX6_cellOf 72 = .ok (.ifCond .ne 6, 3) := by decide +kernel
theorem dX6_cellOf_75 : decode cX6_cellOf 75 = .ok (.iload 7, 2) := by decide +kernel
theorem dX6_cellOf_77 : decode cX6_cellOf 77 = .ok (.ireturn, 1) := by decide +kernel
theorem dX6_cellOf_78 : decode cX6_cellOf 78 = .ok (.iload 7, 2) := by decide +kernel
theorem dX6_cellOf_80 : decode cX6_cellOf 80 = .ok (.iconst 1, 1) := by decide +kernel
theorem dX6_cellOf_81 : decode cX6_cellOf 81 = .ok (.iadd, 1) := by decide +kernel
theorem dX6_cellOf_82 : decode cX6_cellOf 82 = .ok (.sipush 8192, 3) := by decide +kernel
theorem dX6_cellOf_85 : decode cX6_cellOf 85 = .ok (.irem, 1) := by decide +kernel
theorem dX6_cellOf_86 : decode cX6_cellOf 86 = .ok (.istore 7, 2) := by decide +kernel
theorem dX6_cellOf_88 : decode cX6_cellOf 88 = .ok (.iinc 8 1, 3) := by decide +kernel
theorem dX6_cellOf_91 : decode cX6_cellOf 91 = .ok (.goto (-67), 3) := by decide +kernel
theorem dX6_cellOf_94 : decode cX6_cellOf 94 = .ok (.iload 7, 2) := by decide +kernel
theorem dX6_cellOf_96 : decode cX6_cellOf 96 = .ok (.ireturn, 1) := by decide +kernel
theorem dX6_isTaken_0 : decode cX6_isTaken 0 = .ok (.aload_n 0, 1) := by decide +kernel
theorem dX6_isTaken_1 : decode cX6_isTaken 1 = .ok (.getfield 25, 3) := by decide +kernel
theorem dX6_isTaken_4 : decode cX6_isTaken 4 = .ok (.iload_n 1, 1) := by decide +kernel
theorem dX6_isTaken_5 : decode cX6_isTaken 5 = .ok (.iaload, 1) := by decide +kernel
theorem dX6_isTaken_6 : decode cX6_isTaken 6 = .ok (.aload_n 0, 1) := by decide +kernel
theorem dX6_isTaken_7 : decode cX6_isTaken 7 = .ok (.getfield 31, 3) := by decide +kernel
theorem dX6_isTaken_10 : decode cX6_isTaken 10 = .ok (.if_icmp .ge 22, 3) := by decide +kernel
theorem dX6_isTaken_13 : decode cX6_isTaken 13 = .ok (.aload_n 0, 1) := by decide +kernel
theorem dX6_isTaken_14 : decode cX6_isTaken 14 = .ok (.getfield 28, 3) := by decide +kernel
theorem dX6_isTaken_17 : decode cX6_isTaken 17 = .ok (.aload_n 0, 1) := by decide +kernel
theorem dX6_isTaken_18 : decode cX6_isTaken 18 = .ok (.getfield 25, 3) := by decide +kernel
theorem dX6_isTaken_21 : decode cX6_isTaken 21 = .ok (.iload_n 1, 1) := by decide +kernel
theorem dX6_isTaken_22 : decode cX6_isTaken 22 = .ok (.iaload, 1) := by decide +kernel
theorem dX6_isTaken_23 : decode cX6_isTaken 23 = .ok (.iaload, 1) := by decide +kernel
theorem dX6_isTaken_24 : decode cX6_isTaken 24 = .ok (.iload_n 1, 1) := by decide +kernel
theorem dX6_isTaken_25 : decode cX6_isTaken 25 = .ok (.if_icmp .ne 7, 3) := by decide +kernel
theorem dX6_isTaken_28 : decode cX6_isTaken 28 = .ok (.iconst 1, 1) := by decide +kernel
theorem dX6_isTaken_29 : decode cX6_isTaken 29 = .ok (.goto 4, 3) := by decide +kernel
theorem dX6_isTaken_32 : decode cX6_isTaken 32 = .ok (.iconst 0, 1) := by decide +kernel
theorem dX6_isTaken_33 : decode cX6_isTaken 33 = .ok (.ireturn, 1) := by decide +kernel
theorem dX6_tracePath_0 : decode cX6_tracePath 0 = .ok (.iconst 1, 1) := by decide +kernel
theorem dX6_tracePath_1 : decode cX6_tracePath 1 = .ok (.istore 4, 2) := by decide +kernel
theorem dX6_tracePath_3 : decode cX6_tracePath 3 = .ok (.iload_n 1, 1) := by decide +kernel
theorem dX6_tracePath_4 : decode cX6_tracePath 4 = .ok (.istore 5, 2) := by decide +kernel
theorem dX6_tracePath_6 : decode cX6_tracePath 6 = .ok (.iload 5, 2) := by decide +kernel
theorem dX6_tracePath_8 : decode cX6_tracePath 8 = .ok (.ifCond .le 25, 3) := by decide +kernel
theorem dX6_tracePath_11 : decode cX6_tracePath 11 = .ok (.iload 4, 2) := by decide +kernel
theorem dX6_tracePath_13 : decode cX6_tracePath 13 = .ok (.aload_n 3, 1) := by decide +kernel
theorem dX6_tracePath_14 : decode cX6_tracePath 14 = .ok (.arraylength, 1) := by decide +kernel
theorem dX6_tracePath_15 : decode cX6_tracePath 15 = .ok (.if_icmp .ge 18, 3) := by decide +kernel
theorem dX6_tracePath_18 : decode cX6_tracePath 18 = .ok (.iinc 4 1, 3) := by decide +kernel
theorem dX6_tracePath_21 : decode cX6_tracePath 21 = .ok (.aload_n 0, 1) := by decide +kernel
theorem dX6_tracePath_22 : decode cX6_tracePath 22 = .ok (.getfield 18, 3) := by decide +kernel
theorem dX6_tracePath_25 : decode cX6_tracePath 25 = .ok (.iload 5, 2) := by decide +kernel
theorem dX6_tracePath_27 : decode cX6_tracePath 27 = .ok (.iaload, 1) := by decide +kernel
theorem dX6_tracePath_28 : decode cX6_tracePath 28 = .ok (.istore 5, 2) := by decide +kernel
theorem dX6_tracePath_30 : decode cX6_tracePath 30 = .ok (.goto (-24), 3) := by decide +kernel
theorem dX6_tracePath_33 : decode cX6_tracePath 33 = .ok (.aload_n 3, 1) := by decide +kernel
theorem dX6_tracePath_34 : decode cX6_tracePath 34 = .ok (.iload 4, 2) := by decide +kernel
theorem dX6_tracePath_36 : decode cX6_tracePath 36 = .ok (.iconst 1, 1) := by decide +kernel
theorem dX6_tracePath_37 : decode cX6_tracePath 37 = .ok (.isub, 1) := by decide +kernel
theorem dX6_tracePath_38 : decode cX6_tracePath 38 = .ok (.iload_n 2, 1) := by decide +kernel
theorem dX6_tracePath_39 : decode cX6_tracePath 39 = .ok (.iastore, 1) := by decide +kernel
theorem dX6_tracePath_40 : decode cX6_tracePath 40 = .ok (.iload_n 1, 1) := by decide +kernel
theorem dX6_tracePath_41 : decode cX6_tracePath 41 = .ok (.istore 5, 2) := by decide +kernel
theorem dX6_tracePath_43 : decode cX6_tracePath 43 = .ok (.iload 4, 2) := by decide +kernel
theorem dX6_tracePath_45 : decode cX6_tracePath 45 = .ok (.iconst 2, 1) := by decide +kernel
theorem dX6_tracePath_46 : decode cX6_tracePath 46 = .ok (.isub, 1) := by decide +kernel
theorem dX6_tracePath_47 : decode cX6_tracePath 47 = .ok (.istore 6, 2) := by decide +kernel
theorem dX6_tracePath_49 : decode cX6_tracePath 49 = .ok (.iload 6, 2) := by decide +kernel
theorem dX6_tracePath_51 : decode cX6_tracePath 51 = .ok (.ifCond .lt 29, 3) := by decide +kernel
theorem dX6_tracePath_54 : decode cX6_tracePath 54 = .ok (.aload_n 3, 1) := by decide +kernel
theorem dX6_tracePath_55 : decode cX6_tracePath 55 = .ok (.iload 6, 2) := by decide +kernel
theorem dX6_tracePath_57 : decode cX6_tracePath 57 = .ok (.aload_n 0, 1) := by decide +kernel
theorem dX6_tracePath_58 : decode cX6_tracePath 58 = .ok (.getfield 22, 3) := by decide +kernel
theorem dX6_tracePath_61 : decode cX6_tracePath 61 = .ok (.iload 5, 2) := by decide +kernel
theorem dX6_tracePath_63 : decode cX6_tracePath 63 = .ok (.iaload, 1) := by decide +kernel
theorem dX6_tracePath_64 : decode cX6_tracePath 64 = .ok (.iastore, 1) := by decide +kernel
theorem dX6_tracePath_65 : decode cX6_tracePath 65 = .ok (.aload_n 0, 1) := by decide +kernel
theorem dX6_tracePath_66 : decode cX6_tracePath 66 = .ok (.getfield 18, 3) := by decide +kernel
theorem dX6_tracePath_69 : decode cX6_tracePath 69 = .ok (.iload 5, 2) := by decide +kernel
theorem dX6_tracePath_71 : decode cX6_tracePath 71 = .ok (.iaload, 1) := by decide +kernel
theorem dX6_tracePath_72 : decode cX6_tracePath 72 = .ok (.istore 5, 2) := by decide +kernel
theorem dX6_tracePath_74 : decode cX6_tracePath 74 = .ok (.iinc 6 (-1), 3) := by decide +kernel
theorem dX6_tracePath_77 : decode cX6_tracePath 77 = .ok (.goto (-28), 3) := by decide +kernel
theorem dX6_tracePath_80 : decode cX6_tracePath 80 = .ok (.iload 4, 2) := by decide +kernel
theorem dX6_tracePath_82 : decode cX6_tracePath 82 = .ok (.ireturn, 1) := by decide +kernel
theorem dX7_init_0 : decode cX7_init 0 = .ok (.aload_n 0, 1) := by decide +kernel
theorem dX7_init_1 : decode cX7_init 1 = .ok (.invokespecial 3, 3) := by decide +kernel
theorem dX7_init_4 : decode cX7_init 4 = .ok (.aload_n 0, 1) := by decide +kernel
theorem dX7_init_5 : decode cX7_init 5 = .ok (.bipush 60, 2) := by decide +kernel
theorem dX7_init_7 : decode cX7_init 7 = .ok (.newarray .int, 2) := by decide +kernel
theorem dX7_init_9 : decode cX7_init 9 = .ok (.putfield 11, 3) := by decide +kernel
theorem dX7_init_12 : decode cX7_init 12 = .ok (.aload_n 0, 1) := by decide +kernel
theorem dX7_init_13 : decode cX7_init 13 = .ok (.bipush 60, 2) := by decide +kernel
theorem dX7_init_15 : decode cX7_init 15 = .ok (.newarray .int, 2) := by decide +kernel
theorem dX7_init_17 : decode cX7_init 17 = .ok (.putfield 15, 3) := by decide +kernel
theorem dX7_init_20 : decode cX7_init 20 = .ok (.aload_n 0, 1) := by decide +kernel
theorem dX7_init_21 : decode cX7_init 21 = .ok (.bipush 17, 2) := by decide +kernel
theorem dX7_init_23 : decode cX7_init 23 = .ok (.newarray .int, 2) := by decide +kernel
theorem dX7_init_25 : decode cX7_init 25 = .ok (.putfield 18, 3) := by decide +kernel
theorem dX7_init_28 : decode cX7_init 28 = .ok (.aload_n 0, 1) := by decide +kernel
theorem dX7_init_29 : decode cX7_init 29 = .ok (.bipush 17, 2) := by decide +kernel
theorem dX7_init_31 : decode cX7_init 31 = .ok (.newarray .long, 2) := by decide +kernel
theorem dX7_init_33 : decode cX7_init 33 = .ok (.putfield 21, 3) := by decide +kernel
theorem dX7_init_36 : decode cX7_init 36 = .ok (.aload_n 0, 1) := by decide +kernel
theorem dX7_init_37 : decode cX7_init 37 = .ok (.bipush 17, 2) := by decide +kernel
theorem dX7_init_39 : decode cX7_init 39 = .ok (.newarray .long, 2) := by decide +kernel
theorem dX7_init_41 : decode cX7_init 41 = .ok (.putfield 25, 3) := by decide +kernel
theorem dX7_init_44 : decode cX7_init 44 = .ok (.aload_n 0, 1) := by decide +kernel
theorem dX7_init_45 : decode cX7_init 45 = .ok (.bipush 17, 2) := by decide +kernel
theorem dX7_init_47 : decode cX7_init 47 = .ok (.newarray .int, 2) := by decide +kernel
theorem dX7_init_49 : decode cX7_init 49 = .ok (.putfield 28, 3) := by decide +kernel
theorem dX7_init_52 : decode cX7_init 52 = .ok (.aload_n 0, 1) := by decide +kernel
theorem dX7_init_53 : decode cX7_init 53 = .ok (.iconst (-1), 1) := by decide +kernel
theorem dX7_init_54 : decode cX7_init 54 = .ok (.putfield 31, 3) := by decide +kernel
theorem dX7_init_57 : decode cX7_init 57 = .ok (.return_, 1) := by decide +kernel
theorem dX7_forget_0 : decode cX7_forget 0 = .ok (.aload_n 0, 1) := by decide +kernel
theorem dX7_forget_1 : decode cX7_forget 1 = .ok (.iconst 0, 1) := by decide +kernel
theorem dX7_forget_2 : decode cX7_forget 2 = .ok (.putfield 35, 3) := by decide +kernel
theorem dX7_forget_5 : decode cX7_forget 5 = .ok (.aload_n 0, 1) := by decide +kernel
theorem dX7_forget_6 : decode cX7_forget 6 = .ok (.iconst (-1), 1) := by decide +kernel
theorem dX7_forget_7 : decode cX7_forget 7 = .ok (.putfield 31, 3) := by decide +kernel
theorem dX7_forget_10 : decode cX7_forget 10 = .ok (.return_, 1) := by decide +kernel
theorem dX7_tell_0 : decode cX7_tell 0 = .ok (.iload_n 2, 1) := by decide +kernel
theorem dX7_tell_1 : decode cX7_tell 1 = .ok (.ifCond .lt 19, 3) := by decide +kernel
theorem dX7_tell_4 : decode cX7_tell 4 = .ok (.iload_n 2, 1) := by decide +kernel
theorem dX7_tell_5 : decode cX7_tell 5 = .ok (.sipush 1000, 3) := by decide +kernel
theorem dX7_tell_8 : decode cX7_tell 8 = .ok (.if_icmp .gt 12, 3) := by decide +kernel
theorem dX7_tell_11 : decode cX7_tell 11 = .ok (.aload_n 0, 1) := by decide +kernel
theorem dX7_tell_12 : decode cX7_tell 12 = .ok (.getfield 35, 3) := by decide +kernel
theorem dX7_tell_15 : decode cX7_tell 15 = .ok (.bipush 60, 2) := by decide +kernel
theorem dX7_tell_17 : decode cX7_tell 17 = .ok (.if_icmp .lt 5, 3) := by decide +kernel
theorem dX7_tell_20 : decode cX7_tell 20 = .ok (.iconst (-1), 1) := by decide +kernel
theorem dX7_tell_21 : decode cX7_tell 21 = .ok (.ireturn, 1) := by decide +kernel
theorem dX7_tell_22 : decode cX7_tell 22 = .ok (.aload_n 0, 1) := by decide +kernel
theorem dX7_tell_23 : decode cX7_tell 23 = .ok (.getfield 11, 3) := by decide +kernel
theorem dX7_tell_26 : decode cX7_tell 26 = .ok (.aload_n 0, 1) := by decide +kernel
theorem dX7_tell_27 : decode cX7_tell 27 = .ok (.getfield 35, 3) := by decide +kernel
theorem dX7_tell_30 : decode cX7_tell 30 = .ok (.iload_n 1, 1) := by decide +kernel
theorem dX7_tell_31 : decode cX7_tell 31 = .ok (.iastore, 1) := by decide +kernel
theorem dX7_tell_32 : decode cX7_tell 32 = .ok (.aload_n 0, 1) := by decide +kernel
theorem dX7_tell_33 : decode cX7_tell 33 = .ok (.getfield 15, 3) := by decide +kernel
theorem dX7_tell_36 : decode cX7_tell 36 = .ok (.aload_n 0, 1) := by decide +kernel
theorem dX7_tell_37 : decode cX7_tell 37 = .ok (.getfield 35, 3) := by decide +kernel
theorem dX7_tell_40 : decode cX7_tell 40 = .ok (.iload_n 2, 1) := by decide +kernel
theorem dX7_tell_41 : decode cX7_tell 41 = .ok (.iastore, 1) := by decide +kernel
theorem dX7_tell_42 : decode cX7_tell 42 = .ok (.aload_n 0, 1) := by decide +kernel
theorem dX7_tell_43 : decode cX7_tell 43 = .ok (.dup, 1) := by decide +kernel
theorem dX7_tell_44 : decode cX7_tell 44 = .ok (.getfield 35, 3) := by decide +kernel
theorem dX7_tell_47 : decode cX7_tell 47 = .ok (.iconst 1, 1) := by decide +kernel
theorem dX7_tell_48 : decode cX7_tell 48 = .ok (.iadd, 1) := by decide +kernel
theorem dX7_tell_49 : decode cX7_tell 49 = .ok (.putfield 35, 3) := by decide +kernel
theorem dX7_tell_52 : decode cX7_tell 52 = .ok (.aload_n 0, 1) := by decide +kernel
theorem dX7_tell_53 : decode cX7_tell 53 = .ok (.iconst (-1), 1) := by decide +kernel
theorem dX7_tell_54 : decode cX7_tell 54 = .ok (.putfield 31, 3) := by decide +kernel
theorem dX7_tell_57 : decode cX7_tell 57 = .ok (.aload_n 0, 1) := by decide +kernel
theorem dX7_tell_58 : decode cX7_tell 58 = .ok (.getfield 35, 3) := by decide +kernel
theorem dX7_tell_61 : decode cX7_tell 61 = .ok (.iconst 1, 1) := by decide +kernel
theorem dX7_tell_62 : decode cX7_tell 62 = .ok (.isub, 1) := by decide +kernel
theorem dX7_tell_63 : decode cX7_tell 63 = .ok (.ireturn, 1) := by decide +kernel
theorem dX7_list_0 : decode cX7_list 0 = .ok (.aload_n 0, 1) := by decide +kernel
theorem dX7_list_1 : decode cX7_list 1 = .ok (.getfield 31, 3) := by decide +kernel
theorem dX7_list_4 : decode cX7_list 4 = .ok (.iload_n 2, 1) := by decide +kernel
theorem dX7_list_5 : decode cX7_list 5 = .ok (.if_icmp .ne 4, 3) := by decide +kernel
theorem dX7_list_8 : decode cX7_list 8 = .ok (.return_, 1) := by decide +kernel
theorem dX7_list_9 : decode cX7_list 9 = .ok (.aload_n 0, 1) := by decide +kernel
theorem dX7_list_10 : decode cX7_list 10 = .ok (.iload_n 2, 1) := by decide +kernel
theorem dX7_list_11 : decode cX7_list 11 = .ok (.putfield 31, 3) := by decide +kernel
theorem dX7_list_14 : decode cX7_list 14 = .ok (.aload_n 0, 1) := by decide +kernel
theorem dX7_list_15 : decode cX7_list 15 = .ok (.iconst 0, 1) := by decide +kernel
theorem dX7_list_16 : decode cX7_list 16 = .ok (.putfield 38, 3) := by decide +kernel
theorem dX7_list_19 : decode cX7_list 19 = .ok (.aload_n 0, 1) := by decide +kernel
theorem dX7_list_20 : decode cX7_list 20 = .ok (.aload_n 1, 1) := by decide +kernel
theorem dX7_list_21 : decode cX7_list 21 = .ok (.iconst 0, 1) := by decide +kernel
theorem dX7_list_22 : decode cX7_list 22 = .ok (.lconst 0, 1) := by decide +kernel
theorem dX7_list_23 : decode cX7_list 23 = .ok (.invokevirtual 41, 3) := by decide +kernel
theorem dX7_list_26 : decode cX7_list 26 = .ok (.lconst 0, 1) := by decide +kernel
theorem dX7_list_27 : decode cX7_list 27 = .ok (.lstore_n 3, 1) := by decide +kernel
theorem dX7_list_28 : decode cX7_list 28 = .ok (.iconst 0, 1) := by decide +kernel
theorem dX7_list_29 : decode cX7_list 29 = .ok (.istore 5, 2) := by decide +kernel
theorem dX7_list_31 : decode cX7_list 31 = .ok (.iload 5, 2) := by decide +kernel
theorem dX7_list_33 : decode cX7_list 33 = .ok (.sipush 156, 3) := by decide +kernel
theorem dX7_list_36 : decode cX7_list 36 = .ok (.if_icmp .ge 45, 3) := by decide +kernel
theorem dX7_list_39 : decode cX7_list 39 = .ok (.aload_n 1, 1) := by decide +kernel
theorem dX7_list_40 : decode cX7_list 40 = .ok (.iload 5, 2) := by decide +kernel
theorem dX7_list_42 : decode cX7_list 42 = .ok (.lload_n 3, 1) := by decide +kernel
theorem dX7_list_43 : decode cX7_list 43 = .ok (.invokevirtual 45, 3) := by decide +kernel
theorem dX7_list_46 : decode cX7_list 46 = .ok (.ifCond .eq 29, 3) := by decide +kernel
theorem dX7_list_49 : decode cX7_list 49 = .ok (.lload_n 3, 1) := by decide +kernel
theorem dX7_list_50 : decode cX7_list 50 = .ok (.aload_n 1, 1) := by decide +kernel
theorem dX7_list_51 : decode cX7_list 51 = .ok (.getfield 51, 3) := by decide +kernel
theorem dX7_list_54 : decode cX7_list 54 = .ok (.iload 5, 2) := by decide +kernel
theorem dX7_list_56 : decode cX7_list 56 = .ok (.laload, 1) := by decide +kernel
theorem dX7_list_57 : decode cX7_list 57 = .ok (.lor, 1) := by decide +kernel
theorem dX7_list_58 : decode cX7_list 58 = .ok (.lstore_n 3, 1) := by decide +kernel
theorem dX7_list_59 : decode cX7_list 59 = .ok (.aload_n 0, 1) := by decide +kernel
theorem dX7_list_60 : decode cX7_list 60 = .ok (.aload_n 1, 1) := by decide +kernel
theorem dX7_list_61 : decode cX7_list 61 = .ok (.iconst 1, 1) := by decide +kernel
theorem dX7_list_62 : decode cX7_list 62 = .ok (.iload 5, 2) := by decide +kernel
theorem dX7_list_64 : decode cX7_list 64 = .ok (.iadd, 1) := by decide +kernel
theorem dX7_list_65 : decode cX7_list 65 = .ok (.aload_n 1, 1) := by decide +kernel
theorem dX7_list_66 : decode cX7_list 66 = .ok (.getfield 51, 3) := by decide +kernel
theorem dX7_list_69 : decode cX7_list 69 = .ok (.iload 5, 2) := by decide +kernel
theorem dX7_list_71 : decode cX7_list 71 = .ok (.laload, 1) := by decide +kernel
theorem dX7_list_72 : decode cX7_list 72 = .ok (.invokevirtual 41, 3) := by decide +kernel
theorem dX7_list_75 : decode cX7_list 75 = .ok (.iinc 5 1, 3) := by decide +kernel
theorem dX7_list_78 : decode cX7_list 78 = .ok (.goto (-47), 3) := by decide +kernel
theorem dX7_list_81 : decode cX7_list 81 = .ok (.return_, 1) := by decide +kernel
theorem dX7_weigh_0 : decode cX7_weigh 0 = .ok (.aload_n 1, 1) := by decide +kernel
theorem dX7_weigh_1 : decode cX7_weigh 1 = .ok (.getfield 54, 3) := by decide +kernel
theorem dX7_weigh_4 : decode cX7_weigh 4 = .ok (.lstore 5, 2) := by decide +kernel
theorem dX7_weigh_6 : decode cX7_weigh 6 = .ok (.iconst 0, 1) := by decide +kernel
theorem dX7_weigh_7 : decode cX7_weigh 7 = .ok (.istore 7, 2) := by decide +kernel
theorem dX7_weigh_9 : decode cX7_weigh 9 = .ok (.iload 7, 2) := by decide +kernel
theorem dX7_weigh_11 : decode cX7_weigh 11 = .ok (.aload_n 0, 1) := by decide +kernel
theorem dX7_weigh_12 : decode cX7_weigh 12 = .ok (.getfield 35, 3) := by decide +kernel
theorem dX7_weigh_15 : decode cX7_weigh 15 = .ok (.if_icmp .ge 40, 3) := by decide +kernel
theorem dX7_weigh_18 : decode cX7_weigh 18 = .ok (.aload_n 1, 1) := by decide +kernel
theorem dX7_weigh_19 : decode cX7_weigh 19 = .ok (.lload 5, 2) := by decide +kernel
theorem dX7_weigh_21 : decode cX7_weigh 21 = .ok (.aload_n 0, 1) := by decide +kernel
theorem dX7_weigh_22 : decode cX7_weigh 22 = .ok (.getfield 11, 3) := by decide +kernel
theorem dX7_weigh_25 : decode cX7_weigh 25 = .ok (.iload 7, 2) := by decide +kernel
theorem dX7_weigh_27 : decode cX7_weigh 27 = .ok (.iaload, 1) := by decide +kernel
theorem dX7_weigh_28 : decode cX7_weigh 28 = .ok (.lload_n 3, 1) := by decide +kernel
theorem dX7_weigh_29 : decode cX7_weigh 29 = .ok (.invokevirtual 58, 3) := by decide +kernel
theorem dX7_weigh_32 : decode cX7_weigh 32 = .ok (.aload_n 0, 1) := by decide +kernel
theorem dX7_weigh_33 : decode cX7_weigh 33 = .ok (.getfield 15, 3) := by decide +kernel
theorem dX7_weigh_36 : decode cX7_weigh 36 = .ok (.iload 7, 2) := by decide +kernel
theorem dX7_weigh_38 : decode cX7_weigh 38 = .ok (.iaload, 1) := by decide +kernel
theorem dX7_weigh_39 : decode cX7_weigh 39 = .ok (.if_icmp .eq 4, 3) := by decide +kernel
theorem dX7_weigh_42 : decode cX7_weigh 42 = .ok (.return_, 1) := by decide +kernel
theorem dX7_weigh_43 : decode cX7_weigh 43 = .ok (.aload_n 1, 1) := by decide +kernel
theorem dX7_weigh_44 : decode cX7_weigh 44 = .ok (.getfield 62, 3) := by decide +kernel
theorem dX7_weigh_47 : decode cX7_weigh 47 = .ok (.lstore 5, 2) := by decide +kernel
theorem dX7_weigh_49 : decode cX7_weigh 49 = .ok (.iinc 7 1, 3) := by decide +kernel
theorem dX7_weigh_52 : decode cX7_weigh 52 = .ok (.goto (-43), 3) := by decide +kernel
theorem dX7_weigh_55 : decode cX7_weigh 55 = .ok (.aload_n 0, 1) := by decide +kernel
theorem dX7_weigh_56 : decode cX7_weigh 56 = .ok (.getfield 38, 3) := by decide +kernel
theorem dX7_weigh_59 : decode cX7_weigh 59 = .ok (.bipush 16, 2) := by decide +kernel
theorem dX7_weigh_61 : decode cX7_weigh 61 = .ok (.if_icmp .gt 44, 3) := by decide +kernel
theorem dX7_weigh_64 : decode cX7_weigh 64 = .ok (.aload_n 0, 1) := by decide +kernel
theorem dX7_weigh_65 : decode cX7_weigh 65 = .ok (.getfield 18, 3) := by decide +kernel
theorem dX7_weigh_68 : decode cX7_weigh 68 = .ok (.aload_n 0, 1) := by decide +kernel
theorem dX7_weigh_69 : decode cX7_weigh 69 = .ok (.getfield 38, 3) := by decide +kernel
theorem dX7_weigh_72 : decode cX7_weigh 72 = .ok (.iload_n 2, 1) := by decide +kernel
theorem dX7_weigh_73 : decode cX7_weigh 73 = .ok (.iastore, 1) := by decide +kernel
theorem dX7_weigh_74 : decode cX7_weigh 74 = .ok (.aload_n 0, 1) := by decide +kernel
theorem dX7_weigh_75 : decode cX7_weigh 75 = .ok (.getfield 21, 3) := by decide +kernel
theorem dX7_weigh_78 : decode cX7_weigh 78 = .ok (.aload_n 0, 1) := by decide +kernel
theorem dX7_weigh_79 : decode cX7_weigh 79 = .ok (.getfield 38, 3) := by decide +kernel
theorem dX7_weigh_82 : decode cX7_weigh 82 = .ok (.lload_n 3, 1) := by decide +kernel
theorem dX7_weigh_83 : decode cX7_weigh 83 = .ok (.lastore, 1) := by decide +kernel
theorem dX7_weigh_84 : decode cX7_weigh 84 = .ok (.aload_n 0, 1) := by decide +kernel
theorem dX7_weigh_85 : decode cX7_weigh 85 = .ok (.getfield 25, 3) := by decide +kernel
theorem dX7_weigh_88 : decode cX7_weigh 88 = .ok (.aload_n 0, 1) := by decide +kernel
theorem dX7_weigh_89 : decode cX7_weigh 89 = .ok (.getfield 38, 3) := by decide +kernel
theorem dX7_weigh_92 : decode cX7_weigh 92 = .ok (.lload 5, 2) := by decide +kernel
theorem dX7_weigh_94 : decode cX7_weigh 94 = .ok (.lastore, 1) := by decide +kernel
theorem dX7_weigh_95 : decode cX7_weigh 95 = .ok (.aload_n 0, 1) := by decide +kernel
theorem dX7_weigh_96 : decode cX7_weigh 96 = .ok (.dup, 1) := by decide +kernel
theorem dX7_weigh_97 : decode cX7_weigh 97 = .ok (.getfield 38, 3) := by decide +kernel
theorem dX7_weigh_100 : decode cX7_weigh 100 = .ok (.iconst 1, 1) := by decide +kernel
theorem dX7_weigh_101 : decode cX7_weigh 101 = .ok (.iadd, 1) := by decide +kernel
theorem dX7_weigh_102 : decode cX7_weigh 102 = .ok (.putfield 38, 3) := by decide +kernel
theorem dX7_weigh_105 : decode cX7_weigh 105 = .ok (.return_, 1) := by decide +kernel
theorem dX7_bestHopper_0 : decode cX7_bestHopper 0 = .ok (.iconst (-1), 1) := by decide +kernel
theorem dX7_bestHopper_1 : decode cX7_bestHopper 1 = .ok (.istore_n 2, 1) := by decide +kernel
theorem dX7_bestHopper_2 : decode cX7_bestHopper 2 = .ok (.iconst 0, 1) := by decide +kernel
theorem dX7_bestHopper_3 : decode cX7_bestHopper 3 = .ok (.istore_n 3, 1) := by decide +kernel
theorem dX7_bestHopper_4 : decode cX7_bestHopper 4 = .ok (.iconst 0, 1) := by decide +kernel
theorem dX7_bestHopper_5 : decode cX7_bestHopper 5 = .ok (.istore 4, 2) := by decide +kernel
theorem dX7_bestHopper_7 : decode cX7_bestHopper 7 = .ok (.iload 4, 2) := by decide +kernel
theorem dX7_bestHopper_9 : decode cX7_bestHopper 9 = .ok (.iconst 4, 1) := by decide +kernel
theorem dX7_bestHopper_10 : decode cX7_bestHopper 10 = .ok (.if_icmp .ge 42, 3) := by decide +kernel
theorem dX7_bestHopper_13 : decode cX7_bestHopper 13 = .ok (.aload_n 0, 1) := by decide +kernel
theorem dX7_bestHopper_14 : decode cX7_bestHopper 14 = .ok (.getfield 38, 3) := by decide +kernel
theorem dX7_bestHopper_17 : decode cX7_bestHopper 17 = .ok (.ifCond .le 35, 3) := by decide +kernel
theorem dX7_bestHopper_20 : decode cX7_bestHopper 20 = .ok (.aload_n 0, 1) := by decide +kernel
theorem dX7_bestHopper_21 : decode cX7_bestHopper 21 = .ok (.aload_n 1, 1) := by decide +kernel
theorem dX7_bestHopper_22 : decode cX7_bestHopper 22 = .ok (.iload 4, 2) := by decide +kernel
theorem dX7_bestHopper_24 : decode cX7_bestHopper 24 = .ok (.invokevirtual 65, 3) := by decide +kernel
theorem dX7_bestHopper_27 : decode cX7_bestHopper 27 = .ok (.istore 5, 2) := by decide +kernel
theorem dX7_bestHopper_29 : decode cX7_bestHopper 29 = .ok (.iload_n 2, 1) := by decide +kernel
theorem dX7_bestHopper_30 : decode cX7_bestHopper 30 = .ok (.iconst (-1), 1) := by decide +kernel
theorem dX7_bestHopper_31 : decode cX7_bestHopper 31 = .ok (.if_icmp .eq 9, 3) := by decide +kernel
theorem dX7_bestHopper_34 : decode cX7_bestHopper 34 = .ok (.iload 5, 2) := by decide +kernel
theorem dX7_bestHopper_36 : decode cX7_bestHopper 36 = .ok (.iload_n 3, 1) := by decide +kernel
theorem dX7_bestHopper_37 : decode cX7_bestHopper 37 = .ok (.if_icmp .ge 9, 3) := by decide +kernel
theorem dX7_bestHopper_40 : decode cX7_bestHopper 40 = .ok (.iload 4, 2) := by decide +kernel
theorem dX7_bestHopper_42 : decode cX7_bestHopper 42 = .ok (.istore_n 2, 1) := by decide +kernel
theorem dX7_bestHopper_43 : decode cX7_bestHopper 43 = .ok (.iload 5, 2) := by decide +kernel
theorem dX7_bestHopper_45 : decode cX7_bestHopper 45 = .ok (.istore_n 3, 1) := by decide +kernel
theorem dX7_bestHopper_46 : decode cX7_bestHopper 46 = .ok (.iinc 4 1, 3) := by decide +kernel
theorem dX7_bestHopper_49 : decode cX7_bestHopper 49 = .ok (.goto (-42), 3) := by decide +kernel
theorem dX7_bestHopper_52 : decode cX7_bestHopper 52 = .ok (.iload_n 2, 1) := by decide +kernel
theorem dX7_bestHopper_53 : decode cX7_bestHopper 53 = .ok (.ireturn, 1) := by decide +kernel
theorem dX7_mostAlike_0 : decode cX7_mostAlike 0 = .ok (.iconst 0, 1) := by decide +kernel
theorem dX7_mostAlike_1 : decode cX7_mostAlike 1 = .ok (.istore_n 3, 1) := by decide +kernel
theorem dX7_mostAlike_2 : decode cX7_mostAlike 2 = .ok (.iconst 0, 1) := by decide +kernel
theorem dX7_mostAlike_3 : decode cX7_mostAlike 3 = .ok (.istore 4, 2) := by decide +kernel
theorem dX7_mostAlike_5 : decode cX7_mostAlike 5 = .ok (.iload 4, 2) := by decide +kernel
theorem dX7_mostAlike_7 : decode cX7_mostAlike 7 = .ok (.aload_n 0, 1) := by decide +kernel
theorem dX7_mostAlike_8 : decode cX7_mostAlike 8 = .ok (.getfield 38, 3) := by decide +kernel
theorem dX7_mostAlike_11 : decode cX7_mostAlike 11 = .ok (.if_icmp .ge 88, 3) := by decide +kernel
theorem dX7_mostAlike_14 : decode cX7_mostAlike 14 = .ok (.aload_n 0, 1) := by decide +kernel
theorem dX7_mostAlike_15 : decode cX7_mostAlike 15 = .ok (.getfield 28, 3) := by decide +kernel
theorem dX7_mostAlike_18 : decode cX7_mostAlike 18 = .ok (.iload 4, 2) := by decide +kernel
theorem dX7_mostAlike_20 : decode cX7_mostAlike 20 = .ok (.aload_n 1, 1) := by decide +kernel
theorem dX7_mostAlike_21 : decode cX7_mostAlike 21 = .ok (.aload_n 0, 1) := by decide +kernel
theorem dX7_mostAlike_22 : decode cX7_mostAlike 22 = .ok (.getfield 25, 3) := by decide +kernel
theorem dX7_mostAlike_25 : decode cX7_mostAlike 25 = .ok (.iload 4, 2) := by decide +kernel
theorem dX7_mostAlike_27 : decode cX7_mostAlike 27 = .ok (.laload, 1) := by decide +kernel
theorem dX7_mostAlike_28 : decode cX7_mostAlike 28 = .ok (.iload_n 2, 1) := by decide +kernel
theorem dX7_mostAlike_29 : decode cX7_mostAlike 29 = .ok (.aload_n 0, 1) := by decide +kernel
theorem dX7_mostAlike_30 : decode cX7_mostAlike 30 = .ok (.getfield 21, 3) := by decide +kernel
theorem dX7_mostAlike_33 : decode cX7_mostAlike 33 = .ok (.iload 4, 2) := by decide +kernel
theorem dX7_mostAlike_35 : decode cX7_mostAlike 35 = .ok (.laload, 1) := by decide +kernel
theorem dX7_mostAlike_36 : decode cX7_mostAlike 36 = .ok (.invokevirtual 58, 3) := by decide +kernel
theorem dX7_mostAlike_39 : decode cX7_mostAlike 39 = .ok (.iastore, 1) := by decide +kernel
theorem dX7_mostAlike_40 : decode cX7_mostAlike 40 = .ok (.iconst 0, 1) := by decide +kernel
theorem dX7_mostAlike_41 : decode cX7_mostAlike 41 = .ok (.istore 5, 2) := by decide +kernel
theorem dX7_mostAlike_43 : decode cX7_mostAlike 43 = .ok (.iconst 0, 1) := by decide +kernel
theorem dX7_mostAlike_44 : decode cX7_mostAlike 44 = .ok (.istore 6, 2) := by decide +kernel
theorem dX7_mostAlike_46 : decode cX7_mostAlike 46 = .ok (.iload 6, 2) := by decide +kernel
theorem dX7_mostAlike_48 : decode cX7_mostAlike 48 = .ok (.iload 4, 2) := by decide +kernel
theorem dX7_mostAlike_50 : decode cX7_mostAlike 50 = .ok (.if_icmp .gt 36, 3) := by decide +kernel
theorem dX7_mostAlike_53 : decode cX7_mostAlike 53 = .ok (.iload 5, 2) := by decide +kernel
theorem dX7_mostAlike_55 : decode cX7_mostAlike 55 = .ok (.aload_n 0, 1) := by decide +kernel
theorem dX7_mostAlike_56 : decode cX7_mostAlike 56 = .ok (.getfield 28, 3) := by decide +kernel
theorem dX7_mostAlike_59 : decode cX7_mostAlike 59 = .ok (.iload 6, 2) := by decide +kernel
theorem dX7_mostAlike_61 : decode cX7_mostAlike 61 = .ok (.iaload, 1) := by decide +kernel
theorem dX7_mostAlike_62 : decode cX7_mostAlike 62 = .ok (.aload_n 0, 1) := by decide +kernel
theorem dX7_mostAlike_63 : decode cX7_mostAlike 63 = .ok (.getfield 28, 3) := by decide +kernel
theorem dX7_mostAlike_66 : decode cX7_mostAlike 66 = .ok (.iload 4, 2) := by decide +kernel
theorem dX7_mostAlike_68 : decode cX7_mostAlike 68 = .ok (.iaload, 1) := by decide +kernel
theorem dX7_mostAlike_69 : decode cX7_mostAlike 69 = .ok (.if_icmp .ne 7, 3) := by decide +kernel
theorem dX7_mostAlike_72 : decode cX7_mostAlike 72 = .ok (.iconst 1, 1) := by decide +kernel
theorem dX7_mostAlike_73 : decode cX7_mostAlike 73 = .ok (.goto 4, 3) := by decide +kernel
theorem dX7_mostAlike_76 : decode cX7_mostAlike 76 = .ok (.iconst 0, 1) := by decide +kernel
theorem dX7_mostAlike_77 : decode cX7_mostAlike 77 = .ok (.iadd, 1) := by decide +kernel
theorem dX7_mostAlike_78 : decode cX7_mostAlike 78 = .ok (.istore 5, 2) := by decide +kernel
theorem dX7_mostAlike_80 : decode cX7_mostAlike 80 = .ok (.iinc 6 1, 3) := by decide +kernel
theorem dX7_mostAlike_83 : decode cX7_mostAlike 83 = .ok (.goto (-37), 3) := by decide +kernel
theorem dX7_mostAlike_86 : decode cX7_mostAlike 86 = .ok (.iload_n 3, 1) := by decide +kernel
theorem dX7_mostAlike_87 : decode cX7_mostAlike 87 = .ok (.iload 5, 2) := by decide +kernel
theorem dX7_mostAlike_89 : decode cX7_mostAlike 89 = .ok (.invokestatic 69, 3) := by decide +kernel
theorem dX7_mostAlike_92 : decode cX7_mostAlike 92 = .ok (.istore_n 3, 1) := by decide +kernel
theorem dX7_mostAlike_93 : decode cX7_mostAlike 93 = .ok (.iinc 4 1, 3) := by decide +kernel
theorem dX7_mostAlike_96 : decode cX7_mostAlike 96 = .ok (.goto (-91), 3) := by decide +kernel
theorem dX7_mostAlike_99 : decode cX7_mostAlike 99 = .ok (.iload_n 3, 1) := by decide +kernel
theorem dX7_mostAlike_100 : decode cX7_mostAlike 100 = .ok (.ireturn, 1) := by decide +kernel
theorem dX8_init_0 : decode cX8_init 0 = .ok (.aload_n 0, 1) := by decide +kernel
theorem dX8_init_1 : decode cX8_init 1 = .ok (.invokespecial 3, 3) := by decide +kernel
theorem dX8_init_4 : decode cX8_init 4 = .ok (.aload_n 0, 1) := by decide +kernel
theorem dX8_init_5 : decode cX8_init 5 = .ok (.bipush 18, 2) := by decide +kernel
theorem dX8_init_7 : decode cX8_init 7 = .ok (.newarray .long, 2) := by decide +kernel
theorem dX8_init_9 : decode cX8_init 9 = .ok (.putfield 9, 3) := by decide +kernel
theorem dX8_init_12 : decode cX8_init 12 = .ok (.aload_n 0, 1) := by decide +kernel
theorem dX8_init_13 : decode cX8_init 13 = .ok (.sipush 1000, 3) := by decide +kernel
theorem dX8_init_16 : decode cX8_init 16 = .ok (.newarray .byte, 2) := by decide +kernel
theorem dX8_init_18 : decode cX8_init 18 = .ok (.putfield 15, 3) := by decide +kernel
theorem dX8_init_21 : decode cX8_init 21 = .ok (.aload_n 0, 1) := by decide +kernel
theorem dX8_init_22 : decode cX8_init 22 = .ok (.sipush 1001, 3) := by decide +kernel
theorem dX8_init_25 : decode cX8_init 25 = .ok (.newarray .int, 2) := by decide +kernel
theorem dX8_init_27 : decode cX8_init 27 = .ok (.putfield 19, 3) := by decide +kernel
theorem dX8_init_30 : decode cX8_init 30 = .ok (.aload_n 0, 1) := by decide +kernel
theorem dX8_init_31 : decode cX8_init 31 = .ok (.sipush 1001, 3) := by decide +kernel
theorem dX8_init_34 : decode cX8_init 34 = .ok (.newarray .int, 2) := by decide +kernel
theorem dX8_init_36 : decode cX8_init 36 = .ok (.putfield 23, 3) := by decide +kernel
theorem dX8_init_39 : decode cX8_init 39 = .ok (.aload_n 0, 1) := by decide +kernel
theorem dX8_init_40 : decode cX8_init 40 = .ok (.sipush 1001, 3) := by decide +kernel
theorem dX8_init_43 : decode cX8_init 43 = .ok (.newarray .long, 2) := by decide +kernel
theorem dX8_init_45 : decode cX8_init 45 = .ok (.putfield 26, 3) := by decide +kernel
theorem dX8_init_48 : decode cX8_init 48 = .ok (.iconst 1, 1) := by decide +kernel
theorem dX8_init_49 : decode cX8_init 49 = .ok (.istore_n 1, 1) := by decide +kernel
theorem dX8_init_50 : decode cX8_init 50 = .ok (.iconst 0, 1) := by decide +kernel
theorem dX8_init_51 : decode cX8_init 51 = .ok (.istore_n 2, 1) := by decide +kernel
theorem dX8_init_52 : decode cX8_init 52 = .ok (.iload_n 2, 1) := by decide +kernel
theorem dX8_init_53 : decode cX8_init 53 = .ok (.ldc 29, 2) := by decide +kernel
theorem dX8_init_55 : decode cX8_init 55 = .ok (.invokevirtual 31, 3) := by decide +kernel
theorem dX8_init_58 : decode cX8_init 58 = .ok (.if_icmp .ge 55, 3) := by decide +kernel
theorem dX8_init_61 : decode cX8_init 61 = .ok (.ldc 29, 2) := by decide +kernel
theorem dX8_init_63 : decode cX8_init 63 = .ok (.iload_n 2, 1) := by decide +kernel
theorem dX8_init_64 : decode cX8_init 64 = .ok (.invokevirtual 37, 3) := by decide +kernel
theorem dX8_init_67 : decode cX8_init 67 = .ok (.bipush 32, 2) := by decide +kernel
theorem dX8_init_69 : decode cX8_init 69 = .ok (.if_icmp .ne 9, 3) := by decide +kernel
theorem dX8_init_72 : decode cX8_init 72 = .ok (.iinc 1 1, 3) := by decide +kernel
theorem dX8_init_75 : decode cX8_init 75 = .ok (.goto 32, 3) := by decide +kernel
theorem dX8_init_78 : decode cX8_init 78 = .ok (.iload_n 1, 1) := by decide +kernel
theorem dX8_init_79 : decode cX8_init 79 = .ok (.bipush 17, 2) := by decide +kernel
theorem dX8_init_81 : decode cX8_init 81 = .ok (.if_icmp .gt 26, 3) := by decide +kernel
theorem dX8_init_84 : decode cX8_init 84 = .ok (.aload_n 0, 1) := by decide +kernel
theorem dX8_init_85 : decode cX8_init 85 = .ok (.getfield 9, 3) := by decide +kernel
theorem dX8_init_88 : decode cX8_init 88 = .ok (.iload_n 1, 1) := by decide +kernel
theorem dX8_init_89 : decode cX8_init 89 = .ok (.aload_n 0, 1) := by decide +kernel
theorem dX8_init_90 : decode cX8_init 90 = .ok (.getfield 9, 3) := by decide +kernel
theorem dX8_init_93 : decode cX8_init 93 = .ok (.iload_n 1, 1) := by decide +kernel
theorem dX8_init_94 : decode cX8_init 94 = .ok (.laload, 1) := by decide +kernel
theorem dX8_init_95 : decode cX8_init 95 = .ok (.bipush 8, 2) := by decide +kernel
theorem dX8_init_97 : decode cX8_init 97 = .ok (.lshl, 1) := by decide +kernel
theorem dX8_init_98 : decode cX8_init 98 = .ok (.ldc 29, 2) := by decide +kernel
theorem dX8_init_100 : decode cX8_init 100 = .ok (.iload_n 2, 1) := by decide +kernel
theorem dX8_init_101 : decode cX8_init 101 = .ok (.invokevirtual 37, 3) := by decide +kernel
theorem dX8_init_104 : decode cX8_init 104 = .ok (.i2l, 1) := by decide +kernel
theorem dX8_init_105 : decode cX8_init 105 = .ok (.lor, 1) := by decide +kernel
theorem dX8_init_106 : decode cX8_init 106 = .ok (.lastore, 1) := by decide +kernel
theorem dX8_init_107 : decode cX8_init 107 = .ok (.iinc 2 1, 3) := by decide +kernel
theorem dX8_init_110 : decode cX8_init 110 = .ok (.goto (-58), 3) := by decide +kernel
theorem dX8_init_113 : decode cX8_init 113 = .ok (.return_, 1) := by decide +kernel
theorem dX8_addEight_0 : decode cX8_addEight 0 = .ok (.bipush 56, 2) := by decide +kernel
theorem dX8_addEight_2 : decode cX8_addEight 2 = .ok (.istore_n 3, 1) := by decide +kernel
theorem dX8_addEight_3 : decode cX8_addEight 3 = .ok (.iload_n 3, 1) := by decide +kernel
theorem dX8_addEight_4 : decode cX8_addEight 4 = .ok (.ifCond .lt 72, 3) := by decide +kernel
theorem dX8_addEight_7 : decode cX8_addEight 7 = .ok (.lload_n 1, 1) := by decide +kernel
theorem dX8_addEight_8 : decode cX8_addEight 8 = .ok (.iload_n 3, 1) := by decide +kernel
theorem dX8_addEight_9 : decode cX8_addEight 9 = .ok (.lushr, 1) := by decide +kernel
theorem dX8_addEight_10 : decode cX8_addEight 10 = .ok (.l2i, 1) := by decide +kernel
theorem dX8_addEight_11 : decode cX8_addEight 11 = .ok (.sipush 255, 3) := by decide +kernel
theorem dX8_addEight_14 : decode cX8_addEight 14 = .ok (.iand, 1) := by decide +kernel
theorem dX8_addEight_15 : decode cX8_addEight 15 = .ok (.istore 4, 2) := by decide +kernel
theorem dX8_addEight_17 : decode cX8_addEight 17 = .ok (.iload 4, 2) := by decide +kernel
theorem dX8_addEight_19 : decode cX8_addEight 19 = .ok (.bipush 10, 2) := by decide +kernel
theorem dX8_addEight_21 : decode cX8_addEight 21 = .ok (.if_icmp .eq 17, 3) := by decide +kernel
theorem dX8_addEight_24 : decode cX8_addEight 24 = .ok (.iload 4, 2) := by decide +kernel
theorem dX8_addEight_26 : decode cX8_addEight 26 = .ok (.bipush 32, 2) := by decide +kernel
theorem dX8_addEight_28 : decode cX8_addEight 28 = .ok (.if_icmp .lt 42, 3) := by decide +kernel
theorem dX8_addEight_31 : decode cX8_addEight 31 = .ok (.iload 4, 2) := by decide +kernel
theorem dX8_addEight_33 : decode cX8_addEight 33 = .ok (.bipush 126, 2) := by decide +kernel
theorem dX8_addEight_35 : decode cX8_addEight 35 = .ok (.if_icmp .gt 35, 3) := by decide +kernel
theorem dX8_addEight_38 : decode cX8_addEight 38 = .ok (.aload_n 0, 1) := by decide +kernel
theorem dX8_addEight_39 : decode cX8_addEight 39 = .ok (.getfield 41, 3) := by decide +kernel
theorem dX8_addEight_42 : decode cX8_addEight 42 = .ok (.sipush 1000, 3) := by decide +kernel
theorem dX8_addEight_45 : decode cX8_addEight 45 = .ok (.if_icmp .ge 25, 3) := by decide +kernel
theorem dX8_addEight_48 : decode cX8_addEight 48 = .ok (.aload_n 0, 1) := by decide +kernel
theorem dX8_addEight_49 : decode cX8_addEight 49 = .ok (.getfield 15, 3) := by decide +kernel
theorem dX8_addEight_52 : decode cX8_addEight 52 = .ok (.aload_n 0, 1) := by decide +kernel
theorem dX8_addEight_53 : decode cX8_addEight 53 = .ok (.getfield 41, 3) := by decide +kernel
theorem dX8_addEight_56 : decode cX8_addEight 56 = .ok (.iload 4, 2) := by decide +kernel
theorem dX8_addEight_58 : decode cX8_addEight 58 = .ok (.i2b, 1) := by decide +kernel
theorem dX8_addEight_59 : decode cX8_addEight 59 = .ok (.bastore, 1) := by decide +kernel
theorem dX8_addEight_60 : decode cX8_addEight 60 = .ok (.aload_n 0, 1) := by decide +kernel
theorem dX8_addEight_61 : decode cX8_addEight 61 = .ok (.dup, 1) := by decide +kernel
theorem dX8_addEight_62 : decode cX8_addEight 62 = .ok (.getfield 41, 3) := by decide +kernel
theorem dX8_addEight_65 : decode cX8_addEight 65 = .ok (.iconst 1, 1) := by decide +kernel
theorem dX8_addEight_66 : decode cX8_addEight 66 = .ok (.iadd, 1) := by decide +kernel
theorem dX8_addEight_67 : decode cX8_addEight 67 = .ok (.putfield 41, 3) := by decide +kernel
theorem dX8_addEight_70 : decode cX8_addEight 70 = .ok (.iinc 3 (-8), 3) := by decide +kernel
theorem dX8_addEight_73 : decode cX8_addEight 73 = .ok (.goto (-70), 3) := by decide +kernel
theorem dX8_addEight_76 : decode cX8_addEight 76 = .ok (.return_, 1) := by decide +kernel
theorem dX8_cut_0 : decode cX8_cut 0 = .ok (.aload_n 0, 1) := by decide +kernel
theorem dX8_cut_1 : decode cX8_cut 1 = .ok (.iconst 0, 1) := by decide +kernel
theorem dX8_cut_2 : decode cX8_cut 2 = .ok (.putfield 44, 3) := by decide +kernel
theorem dX8_cut_5 : decode cX8_cut 5 = .ok (.bipush 21, 2) := by decide +kernel
theorem dX8_cut_7 : decode cX8_cut 7 = .ok (.istore_n 1, 1) := by decide +kernel
theorem dX8_cut_8 : decode cX8_cut 8 = .ok (.iconst 0, 1) := by decide +kernel
theorem dX8_cut_9 : decode cX8_cut 9 = .ok (.istore_n 2, 1) := by decide +kernel
theorem dX8_cut_10 : decode cX8_cut 10 = .ok (.iload_n 2, 1) := by decide +kernel
theorem dX8_cut_11 : decode cX8_cut 11 = .ok (.aload_n 0, 1) := by decide +kernel
theorem dX8_cut_12 : decode cX8_cut 12 = .ok (.getfield 41, 3) := by decide +kernel
theorem dX8_cut_15 : decode cX8_cut 15 = .ok (.if_icmp .ge 72, 3) := by decide +kernel
theorem dX8_cut_18 : decode cX8_cut 18 = .ok (.aload_n 0, 1) := by decide +kernel
theorem dX8_cut_19 : decode cX8_cut 19 = .ok (.getfield 15, 3) := by decide +kernel
theorem dX8_cut_22 : decode cX8_cut 22 = .ok (.iload_n 2, 1) := by decide +kernel
theorem dX8_cut_23 : decode cX8_cut 23 = .ok (.baload, 1) := by decide +kernel
theorem dX8_cut_24 : decode cX8_cut 24 = .ok (.invokestatic 47, 3) := by decide +kernel
theorem dX8_cut_27 : decode cX8_cut 27 = .ok (.istore_n 3, 1) := by decide +kernel
theorem dX8_cut_28 : decode cX8_cut 28 = .ok (.iload_n 3, 1) := by decide +kernel
theorem dX8_cut_29 : decode cX8_cut 29 = .ok (.iload_n 1, 1) := by decide +kernel
theorem dX8_cut_30 : decode cX8_cut 30 = .ok (.if_icmp .ne 37, 3) := by decide +kernel
theorem dX8_cut_33 : decode cX8_cut 33 = .ok (.iload_n 3, 1) := by decide +kernel
theorem dX8_cut_34 : decode cX8_cut 34 = .ok (.bipush 18, 2) := by decide +kernel
theorem dX8_cut_36 : decode cX8_cut 36 = .ok (.if_icmp .eq 9, 3) := by decide +kernel
theorem dX8_cut_39 : decode cX8_cut 39 = .ok (.iload_n 3, 1) := by decide +kernel
theorem dX8_cut_40 : decode cX8_cut 40 = .ok (.bipush 19, 2) := by decide +kernel
theorem dX8_cut_42 : decode cX8_cut 42 = .ok (.if_icmp .ne 25, 3) := by decide +kernel
theorem dX8_cut_45 : decode cX8_cut 45 = .ok (.aload_n 0, 1) := by decide +kernel
theorem dX8_cut_46 : decode cX8_cut 46 = .ok (.getfield 44, 3) := by decide +kernel
theorem dX8_cut_49 : decode cX8_cut 49 = .ok (.ifCond .le 18, 3) := by decide +kernel
theorem dX8_cut_52 : decode cX8_cut 52 = .ok (.aload_n 0, 1) := by decide +kernel
theorem dX8_cut_53 : decode cX8_cut 53 = .ok (.aload_n 0, 1) := by decide +kernel
theorem dX8_cut_54 : decode cX8_cut 54 = .ok (.getfield 44, 3) := by decide +kernel
theorem dX8_cut_57 : decode cX8_cut 57 = .ok (.iconst 1, 1) := by decide +kernel
theorem dX8_cut_58 : decode cX8_cut 58 = .ok (.isub, 1) := by decide +kernel
theorem dX8_cut_59 : decode cX8_cut 59 = .ok (.iload_n 2, 1) := by decide +kernel
theorem dX8_cut_60 : decode cX8_cut 60 = .ok (.iload_n 3, 1) := by decide +kernel
theorem dX8_cut_61 : decode cX8_cut 61 = .ok (.invokevirtual 51, 3) := by decide +kernel
theorem dX8_cut_64 : decode cX8_cut 64 = .ok (.goto 15, 3) := by decide +kernel
theorem dX8_cut_67 : decode cX8_cut 67 = .ok (.iload_n 3, 1) := by decide +kernel
theorem dX8_cut_68 : decode cX8_cut 68 = .ok (.bipush 21, 2) := by decide +kernel
theorem dX8_cut_70 : decode cX8_cut 70 = .ok (.if_icmp .eq 9, 3) := by decide +kernel
theorem dX8_cut_73 : decode cX8_cut 73 = .ok (.aload_n 0, 1) := by decide +kernel
theorem dX8_cut_74 : decode cX8_cut 74 = .ok (.iload_n 2, 1) := by decide +kernel
theorem dX8_cut_75 : decode cX8_cut 75 = .ok (.iload_n 3, 1) := by decide +kernel
theorem dX8_cut_76 : decode cX8_cut 76 = .ok (.invokevirtual 55, 3) := by decide +kernel
theorem dX8_cut_79 : decode cX8_cut 79 = .ok (.iload_n 3, 1) := by decide +kernel
theorem dX8_cut_80 : decode cX8_cut 80 = .ok (.istore_n 1, 1) := by decide +kernel
theorem dX8_cut_81 : decode cX8_cut 81 = .ok (.iinc 2 1, 3) := by decide +kernel
theorem dX8_cut_84 : decode cX8_cut 84 = .ok (.goto (-74), 3) := by decide +kernel
theorem dX8_cut_87 : decode cX8_cut 87 = .ok (.iconst 0, 1) := by decide +kernel
theorem dX8_cut_88 : decode cX8_cut 88 = .ok (.istore_n 2, 1) := by decide +kernel
theorem dX8_cut_89 : decode cX8_cut 89 = .ok (.iload_n 2, 1) := by decide +kernel
theorem dX8_cut_90 : decode cX8_cut 90 = .ok (.aload_n 0, 1) := by decide +kernel
theorem dX8_cut_91 : decode cX8_cut 91 = .ok (.getfield 44, 3) := by decide +kernel
theorem dX8_cut_94 : decode cX8_cut 94 = .ok (.if_icmp .ge 45, 3) := by decide +kernel
theorem dX8_cut_97 : decode cX8_cut 97 = .ok (.aload_n 0, 1) := by decide +kernel
theorem dX8_cut_98 : decode cX8_cut 98 = .ok (.getfield 19, 3) := by decide +kernel
theorem dX8_cut_101 : decode cX8_cut 101 = .ok (.iload_n 2, 1) := by decide +kernel
theorem dX8_cut_102 : decode cX8_cut 102 = .ok (.aload_n 0, 1) := by decide +kernel
theorem dX8_cut_103 : decode cX8_cut 103 = .ok (.getfield 19, 3) := by decide +kernel
theorem dX8_cut_106 : decode cX8_cut 106 = .ok (.iload_n 2, 1) := by decide +kernel
theorem dX8_cut_107 : decode cX8_cut 107 = .ok (.iaload, 1) := by decide +kernel
theorem dX8_cut_108 : decode cX8_cut 108 = .ok (.bipush 18, 2) := by decide +kernel
theorem dX8_cut_110 : decode cX8_cut 110 = .ok (.if_icmp .ne 16, 3) := by decide +kernel
theorem dX8_cut_113 : decode cX8_cut 113 = .ok (.aload_n 0, 1) := by decide +kernel
theorem dX8_cut_114 : decode cX8_cut 114 = .ok (.aload_n 0, 1) := by decide +kernel
theorem dX8_cut_115 : decode cX8_cut 115 = .ok (.getfield 26, 3) := by decide +kernel
theorem dX8_cut_118 : decode cX8_cut 118 = .ok (.iload_n 2, 1) := by decide +kernel
theorem dX8_cut_119 : decode cX8_cut 119 = .ok (.laload, 1) := by decide +kernel
theorem dX8_cut_120 : decode cX8_cut 120 = .ok (.invokevirtual 59, 3) := by decide +kernel
theorem dX8_cut_123 : decode cX8_cut 123 = .ok (.goto 9, 3) := by decide +kernel
theorem dX8_cut_126 : decode cX8_cut 126 = .ok (.aload_n 0, 1) := by decide +kernel
theorem dX8_cut_127 : decode cX8_cut 127 = .ok (.getfield 19, 3) := by decide +kernel
theorem dX8_cut_130 : decode cX8_cut 130 = .ok (.iload_n 2, 1) := by decide +kernel
theorem dX8_cut_131 : decode cX8_cut 131 = .ok (.iaload, 1) := by decide +kernel
theorem dX8_cut_132 : decode cX8_cut 132 = .ok (.iastore, 1) := by decide +kernel
theorem dX8_cut_133 : decode cX8_cut 133 = .ok (.iinc 2 1, 3) := by decide +kernel
theorem dX8_cut_136 : decode cX8_cut 136 = .ok (.goto (-47), 3) := by decide +kernel
theorem dX8_cut_139 : decode cX8_cut 139 = .ok (.aload_n 0, 1) := by decide +kernel
theorem dX8_cut_140 : decode cX8_cut 140 = .ok (.getfield 19, 3) := by decide +kernel
theorem dX8_cut_143 : decode cX8_cut 143 = .ok (.aload_n 0, 1) := by decide +kernel
theorem dX8_cut_144 : decode cX8_cut 144 = .ok (.getfield 44, 3) := by decide +kernel
theorem dX8_cut_147 : decode cX8_cut 147 = .ok (.bipush 22, 2) := by decide +kernel
theorem dX8_cut_149 : decode cX8_cut 149 = .ok (.iastore, 1) := by decide +kernel
theorem dX8_cut_150 : decode cX8_cut 150 = .ok (.aload_n 0, 1) := by decide +kernel
theorem dX8_cut_151 : decode cX8_cut 151 = .ok (.getfield 23, 3) := by decide +kernel
theorem dX8_cut_154 : decode cX8_cut 154 = .ok (.aload_n 0, 1) := by decide +kernel
theorem dX8_cut_155 : decode cX8_cut 155 = .ok (.getfield 44, 3) := by decide +kernel
theorem dX8_cut_158 : decode cX8_cut 158 = .ok (.aload_n 0, 1) := by decide +kernel
theorem dX8_cut_159 : decode cX8_cut 159 = .ok (.getfield 41, 3) := by decide +kernel
theorem dX8_cut_162 : decode cX8_cut 162 = .ok (.iastore, 1) := by decide +kernel
theorem dX8_cut_163 : decode cX8_cut 163 = .ok (.aload_n 0, 1) := by decide +kernel
theorem dX8_cut_164 : decode cX8_cut 164 = .ok (.iconst 0, 1) := by decide +kernel
theorem dX8_cut_165 : decode cX8_cut 165 = .ok (.putfield 41, 3) := by decide +kernel
theorem dX8_cut_168 : decode cX8_cut 168 = .ok (.return_, 1) := by decide +kernel
theorem dX8_sortOf_0 : decode cX8_sortOf 0 = .ok (.iload_n 0, 1) := by decide +kernel
theorem dX8_sortOf_1 : decode cX8_sortOf 1 = .ok (.bipush 97, 2) := by decide +kernel
theorem dX8_sortOf_3 : decode cX8_sortOf 3 = .ok (.if_icmp .lt 12, 3) := by decide +kernel
theorem dX8_sortOf_6 : decode cX8_sortOf 6 = .ok (.iload_n 0, 1) := by decide +kernel
theorem dX8_sortOf_7 : decode cX8_sortOf 7 = .ok (.bipush 122, 2) := by decide +kernel
theorem dX8_sortOf_9 : decode cX8_sortOf 9 = .ok (.if_icmp .gt 6, 3) := by decide +kernel
theorem dX8_sortOf_12 : decode cX8_sortOf 12 = .ok (.bipush 18, 2) := by decide +kernel
theorem dX8_sortOf_14 : decode cX8_sortOf 14 = .ok (.ireturn, 1) := by decide +kernel
theorem dX8_sortOf_15 : decode cX8_sortOf 15 = .ok (.iload_n 0, 1) := by decide +kernel
theorem dX8_sortOf_16 : decode cX8_sortOf 16 = .ok (.bipush 48, 2) := by decide +kernel
theorem dX8_sortOf_18 : decode cX8_sortOf 18 = .ok (.if_icmp .lt 12, 3) := by decide +kernel
theorem dX8_sortOf_21 : decode cX8_sortOf 21 = .ok (.iload_n 0, 1) := by decide +kernel
theorem dX8_sortOf_22 : decode cX8_sortOf 22 = .ok (.bipush 57, 2) := by decide +kernel
theorem dX8_sortOf_24 : decode cX8_sortOf 24 = .ok (.if_icmp .gt 6, 3) := by decide +kernel
theorem dX8_sortOf_27 : decode cX8_sortOf 27 = .ok (.bipush 19, 2) := by decide +kernel
theorem dX8_sortOf_29 : decode cX8_sortOf 29 = .ok (.ireturn, 1) := by decide +kernel
theorem dX8_sortOf_30 : decode cX8_sortOf 30 = .ok (.iload_n 0, 1) := by decide +kernel
theorem dX8_sortOf_31 : decode cX8_sortOf 31 = .ok (.bipush 32, 2) := by decide +kernel
theorem dX8_sortOf_33 : decode cX8_sortOf 33 = .ok (.if_icmp .eq 9, 3) := by decide +kernel
theorem dX8_sortOf_36 : decode cX8_sortOf 36 = .ok (.iload_n 0, 1) := by decide +kernel
theorem dX8_sortOf_37 : decode cX8_sortOf 37 = .ok (.bipush 10, 2) := by decide +kernel
theorem dX8_sortOf_39 : decode cX8_sortOf 39 = .ok (.if_icmp .ne 6, 3) := by decide +kernel
theorem dX8_sortOf_42 : decode cX8_sortOf 42 = .ok (.bipush 21, 2) := by decide +kernel
theorem dX8_sortOf_44 : decode cX8_sortOf 44 = .ok (.ireturn, 1) := by decide +kernel
theorem dX8_sortOf_45 : decode cX8_sortOf 45 = .ok (.iload_n 0, 1) := by decide +kernel
theorem dX8_sortOf_46 : decode cX8_sortOf 46 = .ok (.bipush 40, 2) := by decide +kernel
theorem dX8_sortOf_48 : decode cX8_sortOf 48 = .ok (.if_icmp .eq 21, 3) := by decide +kernel
theorem dX8_sortOf_51 : decode cX8_sortOf 51 = .ok (.iload_n 0, 1) := by decide +kernel
theorem dX8_sortOf_52 : decode cX8_sortOf 52 = .ok (.bipush 41, 2) := by decide +kernel
theorem dX8_sortOf_54 : decode cX8_sortOf 54 = .ok (.if_icmp .eq 15, 3) := by decide +kernel
theorem dX8_sortOf_57 : decode cX8_sortOf 57 = .ok (.iload_n 0, 1) := by decide +kernel
theorem dX8_sortOf_58 : decode cX8_sortOf 58 = .ok (.bipush 45, 2) := by decide +kernel
theorem dX8_sortOf_60 : decode cX8_sortOf 60 = .ok (.if_icmp .eq 9, 3) := by decide +kernel
theorem dX8_sortOf_63 : decode cX8_sortOf 63 = .ok (.iload_n 0, 1) := by decide +kernel
theorem dX8_sortOf_64 : decode cX8_sortOf 64 = .ok (.bipush 59, 2) := by decide +kernel
theorem dX8_sortOf_66 : decode cX8_sortOf 66 = .ok (.if_icmp .ne 7, 3) := by decide +kernel
theorem dX8_sortOf_69 : decode cX8_sortOf 69 = .ok (.iload_n 0, 1) := by decide +kernel
theorem dX8_sortOf_70 : decode cX8_sortOf 70 = .ok (.goto 5, 3) := by decide +kernel
theorem dX8_sortOf_73 : decode cX8_sortOf 73 = .ok (.bipush 20, 2) := by decide +kernel
theorem dX8_sortOf_75 : decode cX8_sortOf 75 = .ok (.ireturn, 1) := by decide +kernel
theorem dX8_begin_0 : decode cX8_begin 0 = .ok (.aload_n 0, 1) := by decide +kernel
theorem dX8_begin_1 : decode cX8_begin 1 = .ok (.getfield 19, 3) := by decide +kernel
theorem dX8_begin_4 : decode cX8_begin 4 = .ok (.aload_n 0, 1) := by decide +kernel
theorem dX8_begin_5 : decode cX8_begin 5 = .ok (.getfield 44, 3) := by decide +kernel
theorem dX8_begin_8 : decode cX8_begin 8 = .ok (.iload_n 2, 1) := by decide +kernel
theorem dX8_begin_9 : decode cX8_begin 9 = .ok (.iastore, 1) := by decide +kernel
theorem dX8_begin_10 : decode cX8_begin 10 = .ok (.aload_n 0, 1) := by decide +kernel
theorem dX8_begin_11 : decode cX8_begin 11 = .ok (.getfield 23, 3) := by decide +kernel
theorem dX8_begin_14 : decode cX8_begin 14 = .ok (.aload_n 0, 1) := by decide +kernel
theorem dX8_begin_15 : decode cX8_begin 15 = .ok (.getfield 44, 3) := by decide +kernel
theorem dX8_begin_18 : decode cX8_begin 18 = .ok (.iload_n 1, 1) := by decide +kernel
theorem dX8_begin_19 : decode cX8_begin 19 = .ok (.iastore, 1) := by decide +kernel
theorem dX8_begin_20 : decode cX8_begin 20 = .ok (.aload_n 0, 1) := by decide +kernel
theorem dX8_begin_21 : decode cX8_begin 21 = .ok (.getfield 26, 3) := by decide +kernel
theorem dX8_begin_24 : decode cX8_begin 24 = .ok (.aload_n 0, 1) := by decide +kernel
theorem dX8_begin_25 : decode cX8_begin 25 = .ok (.getfield 44, 3) := by decide +kernel
theorem dX8_begin_28 : decode cX8_begin 28 = .ok (.iload_n 2, 1) := by decide +kernel
theorem dX8_begin_29 : decode cX8_begin 29 = .ok (.bipush 19, 2) := by decide +kernel
theorem dX8_begin_31 : decode cX8_begin 31 = .ok (.if_icmp .ne 16, 3) := by decide +kernel
theorem dX8_begin_34 : decode cX8_begin 34 = .ok (.aload_n 0, 1) := by decide +kernel
theorem dX8_begin_35 : decode cX8_begin 35 = .ok (.getfield 15, 3) := by decide +kernel
theorem dX8_begin_38 : decode cX8_begin 38 = .ok (.iload_n 1, 1) := by decide +kernel
theorem dX8_begin_39 : decode cX8_begin 39 = .ok (.baload, 1) := by decide +kernel
theorem dX8_begin_40 : decode cX8_begin 40 = .ok (.bipush 48, 2) := by decide +kernel
theorem dX8_begin_42 : decode cX8_begin 42 = .ok (.isub, 1) := by decide +kernel
theorem dX8_begin_43 : decode cX8_begin 43 = .ok (.i2l, 1) := by decide +kernel
theorem dX8_begin_44 : decode cX8_begin 44 = .ok (.goto 10, 3) := by decide +kernel
theorem dX8_begin_47 : decode cX8_begin 47 = .ok (.aload_n 0, 1) := by decide +kernel
theorem dX8_begin_48 : decode cX8_begin 48 = .ok (.getfield 15, 3) := by decide +kernel
theorem dX8_begin_51 : decode cX8_begin 51 = .ok (.iload_n 1, 1) := by decide +kernel
theorem dX8_begin_52 : decode cX8_begin 52 = .ok (.baload, 1) := by decide +kernel
theorem dX8_begin_53 : decode cX8_begin 53 = .ok (.i2l, 1) := by decide +kernel
theorem dX8_begin_54 : decode cX8_begin 54 = .ok (.lastore, 1) := by decide +kernel
theorem dX8_begin_55 : decode cX8_begin 55 = .ok (.aload_n 0, 1) := by decide +kernel
theorem dX8_begin_56 : decode cX8_begin 56 = .ok (.dup, 1) := by decide +kernel
theorem dX8_begin_57 : decode cX8_begin 57 = .ok (.getfield 44, 3) := by decide +kernel
theorem dX8_begin_60 : decode cX8_begin 60 = .ok (.iconst 1, 1) := by decide +kernel
theorem dX8_begin_61 : decode cX8_begin 61 = .ok (.iadd, 1) := by decide +kernel
theorem dX8_begin_62 : decode cX8_begin 62 = .ok (.putfield 44, 3) := by decide +kernel
theorem dX8_begin_65 : decode cX8_begin 65 = .ok (.return_, 1) := by decide +kernel
theorem dX8_lengthen_0 : decode cX8_lengthen 0 = .ok (.iload_n 2, 1) := by decide +kernel
theorem dX8_lengthen_1 : decode cX8_lengthen 1 = .ok (.aload_n 0, 1) := by decide +kernel
theorem dX8_lengthen_2 : decode cX8_lengthen 2 = .ok (.getfield 23, 3) := by decide +kernel
theorem dX8_lengthen_5 : decode cX8_lengthen 5 = .ok (.iload_n 1, 1) := by decide +kernel
theorem dX8_lengthen_6 : decode cX8_lengthen 6 = .ok (.iaload, 1) := by decide +kernel
theorem dX8_lengthen_7 : decode cX8_lengthen 7 = .ok (.isub, 1) := by decide +kernel
theorem dX8_lengthen_8 : decode cX8_lengthen 8 = .ok (.iconst 1, 1) := by decide +kernel
theorem dX8_lengthen_9 : decode cX8_lengthen 9 = .ok (.iadd, 1) := by decide +kernel
theorem dX8_lengthen_10 : decode cX8_lengthen 10 = .ok (.istore 4, 2) := by decide +kernel
theorem dX8_lengthen_12 : decode cX8_lengthen 12 = .ok (.iload_n 3, 1) := by decide +kernel
theorem dX8_lengthen_13 : decode cX8_lengthen 13 = .ok (.bipush 18, 2) := by decide +kernel
theorem dX8_lengthen_15 : decode cX8_lengthen 15 = .ok (.if_icmp .ne 29, 3) := by decide +kernel
theorem dX8_lengthen_18 : decode cX8_lengthen 18 = .ok (.aload_n 0, 1) := by decide +kernel
theorem dX8_lengthen_19 : decode cX8_lengthen 19 = .ok (.getfield 26, 3) := by decide +kernel
theorem dX8_lengthen_22 : decode cX8_lengthen 22 = .ok (.iload_n 1, 1) := by decide +kernel
theorem dX8_lengthen_23 : decode cX8_lengthen 23 = .ok (.aload_n 0, 1) := by decide +kernel
theorem dX8_lengthen_24 : decode cX8_lengthen 24 = .ok (.getfield 26, 3) := by decide +kernel
theorem dX8_lengthen_27 : decode cX8_lengthen 27 = .ok (.iload_n 1, 1) := by decide +kernel
theorem dX8_lengthen_28 : decode cX8_lengthen 28 = .ok (.laload, 1) := by decide +kernel
theorem dX8_lengthen_29 : decode cX8_lengthen 29 = .ok (.bipush 8, 2) := by decide +kernel
theorem dX8_lengthen_31 : decode cX8_lengthen 31 = .ok (.lshl, 1) := by decide +kernel
theorem dX8_lengthen_32 : decode cX8_lengthen 32 = .ok (.aload_n 0, 1) := by decide +kernel
theorem dX8_lengthen_33 : decode cX8_lengthen 33 = .ok (.getfield 15, 3) := by decide +kernel
theorem dX8_lengthen_36 : decode cX8_lengthen 36 = .ok (.iload_n 2, 1) := by decide +kernel
theorem dX8_lengthen_37 : decode cX8_lengthen 37 = .ok (.baload, 1) := by decide +kernel
theorem dX8_lengthen_38 : decode cX8_lengthen 38 = .ok (.i2l, 1) := by decide +kernel
theorem dX8_lengthen_39 : decode cX8_lengthen 39 = .ok (.lor, 1) := by decide +kernel
theorem dX8_lengthen_40 : decode cX8_lengthen 40 = .ok (.lastore, 1) := by decide +kernel
theorem dX8_lengthen_41 : decode cX8_lengthen 41 = .ok (.goto 31, 3) := by decide +kernel
theorem dX8_lengthen_44 : decode cX8_lengthen 44 = .ok (.aload_n 0, 1) := by decide +kernel
theorem dX8_lengthen_45 : decode cX8_lengthen 45 = .ok (.getfield 26, 3) := by decide +kernel
theorem dX8_lengthen_48 : decode cX8_lengthen 48 = .ok (.iload_n 1, 1) := by decide +kernel
theorem dX8_lengthen_49 : decode cX8_lengthen 49 = .ok (.ldc2_w 63, 3) := by decide +kernel
theorem dX8_lengthen_52 : decode cX8_lengthen 52 = .ok (.aload_n 0, 1) := by decide +kernel
theorem dX8_lengthen_53 : decode cX8_lengthen 53 = .ok (.getfield 26, 3) := by decide +kernel
theorem dX8_lengthen_56 : decode cX8_lengthen 56 = .ok (.iload_n 1, 1) := by decide +kernel
theorem dX8_lengthen_57 : decode cX8_lengthen 57 = .ok (.laload, 1) := by decide +kernel
theorem dX8_lengthen_58 : decode cX8_lengthen 58 = .ok (.lmul, 1) := by decide +kernel
theorem dX8_lengthen_59 : decode cX8_lengthen 59 = .ok (.aload_n 0, 1) := by decide +kernel
theorem dX8_lengthen_60 : decode cX8_lengthen 60 = .ok (.getfield 15, 3) := by decide +kernel
theorem dX8_lengthen_63 : decode cX8_lengthen 63 = .ok (.iload_n 2, 1) := by decide +kernel
theorem dX8_lengthen_64 : decode cX8_lengthen 64 = .ok (.baload, 1) := by decide +kernel
theorem dX8_lengthen_65 : decode cX8_lengthen 65 = .ok (.i2l, 1) := by decide +kernel
theorem dX8_lengthen_66 : decode cX8_lengthen 66 = .ok (.ladd, 1) := by decide +kernel
theorem dX8_lengthen_67 : decode cX8_lengthen 67 = .ok (.ldc2_w 65, 3) := by decide +kernel
theorem dX8_lengthen_70 : decode cX8_lengthen 70 = .ok (.lsub, 1) := by decide +kernel
theorem dX8_lengthen_71 : decode cX8_lengthen 71 = .ok (.lastore, 1) := by decide +kernel
theorem dX8_lengthen_72 : decode cX8_lengthen 72 = .ok (.iload 4, 2) := by decide +kernel
theorem dX8_lengthen_74 : decode cX8_lengthen 74 = .ok (.iload_n 3, 1) := by decide +kernel
theorem dX8_lengthen_75 : decode cX8_lengthen 75 = .ok (.bipush 18, 2) := by decide +kernel
theorem dX8_lengthen_77 : decode cX8_lengthen 77 = .ok (.if_icmp .ne 8, 3) := by decide +kernel
theorem dX8_lengthen_80 : decode cX8_lengthen 80 = .ok (.bipush 8, 2) := by decide +kernel
theorem dX8_lengthen_82 : decode cX8_lengthen 82 = .ok (.goto 4, 3) := by decide +kernel
theorem dX8_lengthen_85 : decode cX8_lengthen 85 = .ok (.iconst 3, 1) := by decide +kernel
theorem dX8_lengthen_86 : decode cX8_lengthen 86 = .ok (.if_icmp .le 11, 3) := by decide +kernel
theorem dX8_lengthen_89 : decode cX8_lengthen 89 = .ok (.aload_n 0, 1) := by decide +kernel
theorem dX8_lengthen_90 : decode cX8_lengthen 90 = .ok (.getfield 19, 3) := by decide +kernel
theorem dX8_lengthen_93 : decode cX8_lengthen 93 = .ok (.iload_n 1, 1) := by decide +kernel
theorem dX8_lengthen_94 : decode cX8_lengthen 94 = .ok (.bipush 20, 2) := by decide +kernel
theorem dX8_lengthen_96 : decode cX8_lengthen 96 = .ok (.iastore, 1) := by decide +kernel
theorem dX8_lengthen_97 : decode cX8_lengthen 97 = .ok (.return_, 1) := by decide +kernel
theorem dX8_wordOf_0 : decode cX8_wordOf 0 = .ok (.iconst 1, 1) := by decide +kernel
theorem dX8_wordOf_1 : decode cX8_wordOf 1 = .ok (.istore_n 3, 1) := by decide +kernel
theorem dX8_wordOf_2 : decode cX8_wordOf 2 = .ok (.iload_n 3, 1) := by decide +kernel
theorem dX8_wordOf_3 : decode cX8_wordOf 3 = .ok (.bipush 17, 2) := by decide +kernel
theorem dX8_wordOf_5 : decode cX8_wordOf 5 = .ok (.if_icmp .gt 22, 3) := by decide +kernel
theorem dX8_wordOf_8 : decode cX8_wordOf 8 = .ok (.aload_n 0, 1) := by decide +kernel
theorem dX8_wordOf_9 : decode cX8_wordOf 9 = .ok (.getfield 9, 3) := by decide +kernel
theorem dX8_wordOf_12 : decode cX8_wordOf 12 = .ok (.iload_n 3, 1) := by decide +kernel
theorem dX8_wordOf_13 : decode cX8_wordOf 13 = .ok (.laload, 1) := by decide +kernel
theorem dX8_wordOf_14 : decode cX8_wordOf 14 = .ok (.lload_n 1, 1) := by decide +kernel
theorem dX8_wordOf_15 : decode cX8_wordOf 15 = .ok (.lcmp, 1) := by decide +kernel
theorem dX8_wordOf_16 : decode cX8_wordOf 16 = .ok (.ifCond .ne 5, 3) := by decide +kernel
theorem dX8_wordOf_19 : decode cX8_wordOf 19 = .ok (.iload_n 3, 1) := by decide +kernel
theorem dX8_wordOf_20 : decode cX8_wordOf 20 = .ok (.ireturn, 1) := by decide +kernel
theorem dX8_wordOf_21 : decode cX8_wordOf 21 = .ok (.iinc 3 1, 3) := by decide +kernel
theorem dX8_wordOf_24 : decode cX8_wordOf 24 = .ok (.goto (-22), 3) := by decide +kernel
theorem dX8_wordOf_27 : decode cX8_wordOf 27 = .ok (.bipush 18, 2) := by decide +kernel
theorem dX8_wordOf_29 : decode cX8_wordOf 29 = .ok (.ireturn, 1) := by decide +kernel
theorem dX9_init_0 : decode cX9_init 0 = .ok (.aload_n 0, 1) := by decide +kernel
theorem dX9_init_1 : decode cX9_init 1 = .ok (.invokespecial 3, 3) := by decide +kernel
theorem dX9_init_4 : decode cX9_init 4 = .ok (.aload_n 0, 1) := by decide +kernel
theorem dX9_init_5 : decode cX9_init 5 = .ok (.sipush 3001, 3) := by decide +kernel
theorem dX9_init_8 : decode cX9_init 8 = .ok (.newarray .int, 2) := by decide +kernel
theorem dX9_init_10 : decode cX9_init 10 = .ok (.putfield 11, 3) := by decide +kernel
theorem dX9_init_13 : decode cX9_init 13 = .ok (.return_, 1) := by decide +kernel
theorem dX9_look_0 : decode cX9_look 0 = .ok (.aload_n 0, 1) := by decide +kernel
theorem dX9_look_1 : decode cX9_look 1 = .ok (.getfield 15, 3) := by decide +kernel
theorem dX9_look_4 : decode cX9_look 4 = .ok (.ifCond .eq 19, 3) := by decide +kernel
theorem dX9_look_7 : decode cX9_look 7 = .ok (.aload_n 0, 1) := by decide +kernel
theorem dX9_look_8 : decode cX9_look 8 = .ok (.getfield 19, 3) := by decide +kernel
theorem dX9_look_11 : decode cX9_look 11 = .ok (.iload_n 2, 1) := by decide +kernel
theorem dX9_look_12 : decode cX9_look 12 = .ok (.if_icmp .ne 11, 3) := by decide +kernel
theorem dX9_look_15 : decode cX9_look 15 = .ok (.aload_n 0, 1) := by decide +kernel
theorem dX9_look_16 : decode cX9_look 16 = .ok (.getfield 23, 3) := by decide +kernel
theorem dX9_look_19 : decode cX9_look 19 = .ok (.iload_n 3, 1) := by decide +kernel
theorem dX9_look_20 : decode cX9_look 20 = .ok (.if_icmp .eq 34, 3) := by decide +kernel
theorem dX9_look_23 : decode cX9_look 23 = .ok (.aload_n 0, 1) := by decide +kernel
theorem dX9_look_24 : decode cX9_look 24 = .ok (.iconst 1, 1) := by decide +kernel
theorem dX9_look_25 : decode cX9_look 25 = .ok (.putfield 15, 3) := by decide +kernel
theorem dX9_look_28 : decode cX9_look 28 = .ok (.aload_n 0, 1) := by decide +kernel
theorem dX9_look_29 : decode cX9_look 29 = .ok (.iload_n 2, 1) := by decide +kernel
theorem dX9_look_30 : decode cX9_look 30 = .ok (.putfield 19, 3) := by decide +kernel
theorem dX9_look_33 : decode cX9_look 33 = .ok (.aload_n 0, 1) := by decide +kernel
theorem dX9_look_34 : decode cX9_look 34 = .ok (.iload_n 3, 1) := by decide +kernel
theorem dX9_look_35 : decode cX9_look 35 = .ok (.putfield 23, 3) := by decide +kernel
theorem dX9_look_38 : decode cX9_look 38 = .ok (.aload_n 0, 1) := by decide +kernel
theorem dX9_look_39 : decode cX9_look 39 = .ok (.aload_n 0, 1) := by decide +kernel
theorem dX9_look_40 : decode cX9_look 40 = .ok (.aload_n 1, 1) := by decide +kernel
theorem dX9_look_41 : decode cX9_look 41 = .ok (.iload_n 2, 1) := by decide +kernel
theorem dX9_look_42 : decode cX9_look 42 = .ok (.aaload, 1) := by decide +kernel
theorem dX9_look_43 : decode cX9_look 43 = .ok (.aload_n 1, 1) := by decide +kernel
theorem dX9_look_44 : decode cX9_look 44 = .ok (.iload_n 3, 1) := by decide +kernel
theorem dX9_look_45 : decode cX9_look 45 = .ok (.aaload, 1) := by decide +kernel
theorem dX9_look_46 : decode cX9_look 46 = .ok (.aload 4, 2) := by decide +kernel
theorem dX9_look_48 : decode cX9_look 48 = .ok (.invokevirtual 26, 3) := by decide +kernel
theorem dX9_look_51 : decode cX9_look 51 = .ok (.putfield 30, 3) := by decide +kernel
theorem dX9_look_54 : decode cX9_look 54 = .ok (.return_, 1) := by decide +kernel
theorem dX9_search_0 : decode cX9_search 0 = .ok (.aload_n 3, 1) := by decide +kernel
theorem dX9_search_1 : decode cX9_search 1 = .ok (.sipush 3000, 3) := by decide +kernel
theorem dX9_search_4 : decode cX9_search 4 = .ok (.invokevirtual 33, 3) := by decide +kernel
theorem dX9_search_7 : decode cX9_search 7 = .ok (.aload_n 3, 1) := by decide +kernel
theorem dX9_search_8 : decode cX9_search 8 = .ok (.aload_n 1, 1) := by decide +kernel
theorem dX9_search_9 : decode cX9_search 9 = .ok (.getfield 39, 3) := by decide +kernel
theorem dX9_search_12 : decode cX9_search 12 = .ok (.aload_n 2, 1) := by decide +kernel
theorem dX9_search_13 : decode cX9_search 13 = .ok (.getfield 39, 3) := by decide +kernel
theorem dX9_search_16 : decode cX9_search 16 = .ok (.iconst (-1), 1) := by decide +kernel
theorem dX9_search_17 : decode cX9_search 17 = .ok (.iconst (-1), 1) := by decide +kernel
theorem dX9_search_18 : decode cX9_search 18 = .ok (.invokevirtual 45, 3) := by decide +kernel
theorem dX9_search_21 : decode cX9_search 21 = .ok (.pop, 1) := by decide +kernel
theorem dX9_search_22 : decode cX9_search 22 = .ok (.iconst 0, 1) := by decide +kernel
theorem dX9_search_23 : decode cX9_search 23 = .ok (.istore 4, 2) := by decide +kernel
theorem dX9_search_25 : decode cX9_search 25 = .ok (.iload 4, 2) := by decide +kernel
theorem dX9_search_27 : decode cX9_search 27 = .ok (.aload_n 3, 1) := by decide +kernel
theorem dX9_search_28 : decode cX9_search 28 = .ok (.getfield 49, 3) := by decide +kernel
theorem dX9_search_31 : decode cX9_search 31 = .ok (.if_icmp .ge 102, 3) := by decide +kernel
theorem dX9_search_34 : decode cX9_search 34 = .ok (.iload 4, 2) := by decide +kernel
theorem dX9_search_36 : decode cX9_search 36 = .ok (.sipush 3000, 3) := by decide +kernel
theorem dX9_search_39 : decode cX9_search 39 = .ok (.if_icmp .ge 94, 3) := by decide +kernel
theorem dX9_search_42 : decode cX9_search 42 = .ok (.iconst 0, 1) := by decide +kernel
theorem dX9_search_43 : decode cX9_search 43 = .ok (.istore 5, 2) := by decide +kernel
theorem dX9_search_45 : decode cX9_search 45 = .ok (.iload 5, 2) := by decide +kernel
theorem dX9_search_47 : decode cX9_search 47 = .ok (.iconst 4, 1) := by decide +kernel
theorem dX9_search_48 : decode cX9_search 48 = .ok (.if_icmp .ge 79, 3) := by decide +kernel
theorem dX9_search_51 : decode cX9_search 51 = .ok (.aload_n 1, 1) := by decide +kernel
theorem dX9_search_52 : decode cX9_search 52 = .ok (.aload_n 3, 1) := by decide +kernel
theorem dX9_search_53 : decode cX9_search 53 = .ok (.getfield 52, 3) := by decide +kernel
theorem dX9_search_56 : decode cX9_search 56 = .ok (.iload 4, 2) := by decide +kernel
theorem dX9_search_58 : decode cX9_search 58 = .ok (.laload, 1) := by decide +kernel
theorem dX9_search_59 : decode cX9_search 59 = .ok (.iload 5, 2) := by decide +kernel
theorem dX9_search_61 : decode cX9_search 61 = .ok (.lconst 0, 1) := by decide +kernel
theorem dX9_search_62 : decode cX9_search 62 = .ok (.invokevirtual 56, 3) := by decide +kernel
theorem dX9_search_65 : decode cX9_search 65 = .ok (.istore 6, 2) := by decide +kernel
theorem dX9_search_67 : decode cX9_search 67 = .ok (.iload 6, 2) := by decide +kernel
theorem dX9_search_69 : decode cX9_search 69 = .ok (.aload_n 2, 1) := by decide +kernel
theorem dX9_search_70 : decode cX9_search 70 = .ok (.aload_n 3, 1) := by decide +kernel
theorem dX9_search_71 : decode cX9_search 71 = .ok (.getfield 60, 3) := by decide +kernel
theorem dX9_search_74 : decode cX9_search 74 = .ok (.iload 4, 2) := by decide +kernel
theorem dX9_search_76 : decode cX9_search 76 = .ok (.laload, 1) := by decide +kernel
theorem dX9_search_77 : decode cX9_search 77 = .ok (.iload 5, 2) := by decide +kernel
theorem dX9_search_79 : decode cX9_search 79 = .ok (.lconst 0, 1) := by decide +kernel
theorem dX9_search_80 : decode cX9_search 80 = .ok (.invokevirtual 56, 3) := by decide +kernel
theorem dX9_search_83 : decode cX9_search 83 = .ok (.if_icmp .eq 16, 3) := by decide +kernel
theorem dX9_search_86 : decode cX9_search 86 = .ok (.aload_n 3, 1) := by decide +kernel
theorem dX9_search_87 : decode cX9_search 87 = .ok (.iload 4, 2) := by decide +kernel
theorem dX9_search_89 : decode cX9_search 89 = .ok (.iload 5, 2) := by decide +kernel
theorem dX9_search_91 : decode cX9_search 91 = .ok (.aload_n 0, 1) := by decide +kernel
theorem dX9_search_92 : decode cX9_search 92 = .ok (.getfield 11, 3) := by decide +kernel
theorem dX9_search_95 : decode cX9_search 95 = .ok (.invokevirtual 63, 3) := by decide +kernel
theorem dX9_search_98 : decode cX9_search 98 = .ok (.ireturn, 1) := by decide +kernel
theorem dX9_search_99 : decode cX9_search 99 = .ok (.aload_n 3, 1) := by decide +kernel
theorem dX9_search_100 : decode cX9_search 100 = .ok (.aload_n 1, 1) := by decide +kernel
theorem dX9_search_101 : decode cX9_search 101 = .ok (.getfield 67, 3) := by decide +kernel
theorem dX9_search_104 : decode cX9_search 104 = .ok (.aload_n 2, 1) := by decide +kernel
theorem dX9_search_105 : decode cX9_search 105 = .ok (.getfield 67, 3) := by decide +kernel
theorem dX9_search_108 : decode cX9_search 108 = .ok (.iload 4, 2) := by decide +kernel
theorem dX9_search_110 : decode cX9_search 110 = .ok (.iload 5, 2) := by decide +kernel
theorem dX9_search_112 : decode cX9_search 112 = .ok (.invokevirtual 45, 3) := by decide +kernel
theorem dX9_search_115 : decode cX9_search 115 = .ok (.iconst (-1), 1) := by decide +kernel
theorem dX9_search_116 : decode cX9_search 116 = .ok (.if_icmp .ne 5, 3) := by decide +kernel
theorem dX9_search_119 : decode cX9_search 119 = .ok (.iconst (-1), 1) := by decide +kernel
theorem dX9_search_120 : decode cX9_search 120 = .ok (.ireturn, 1) := by decide +kernel
theorem dX9_search_121 : decode cX9_search 121 = .ok (.iinc 5 1, 3) := by decide +kernel
theorem dX9_search_124 : decode cX9_search 124 = .ok (.goto (-79), 3) := by decide +kernel
theorem dX9_search_127 : decode cX9_search 127 = .ok (.iinc 4 1, 3) := by decide +kernel
theorem dX9_search_130 : decode cX9_search 130 = .ok (.goto (-105), 3) := by decide +kernel
theorem dX9_search_133 : decode cX9_search 133 = .ok (.iconst 0, 1) := by decide +kernel
theorem dX9_search_134 : decode cX9_search 134 = .ok (.ireturn, 1) := by decide +kernel
theorem dX10_init_0 : decode cX10_init 0 = .ok (.aload_n 0, 1) := by decide +kernel
theorem dX10_init_1 : decode cX10_init 1 = .ok (.invokespecial 3, 3) := by decide +kernel
theorem dX10_init_4 : decode cX10_init 4 = .ok (.aload_n 0, 1) := by decide +kernel
theorem dX10_init_5 : decode cX10_init 5 = .ok (.bipush 12, 2) := by decide +kernel
theorem dX10_init_7 : decode cX10_init 7 = .ok (.newarray .int, 2) := by decide +kernel
theorem dX10_init_9 : decode cX10_init 9 = .ok (.putfield 11, 3) := by decide +kernel
theorem dX10_init_12 : decode cX10_init 12 = .ok (.aload_n 0, 1) := by decide +kernel
theorem dX10_init_13 : decode cX10_init 13 = .ok (.bipush 12, 2) := by decide +kernel
theorem dX10_init_15 : decode cX10_init 15 = .ok (.newarray .int, 2) := by decide +kernel
theorem dX10_init_17 : decode cX10_init 17 = .ok (.putfield 15, 3) := by decide +kernel
theorem dX10_init_20 : decode cX10_init 20 = .ok (.aload_n 0, 1) := by decide +kernel
theorem dX10_init_21 : decode cX10_init 21 = .ok (.sipush 3001, 3) := by decide +kernel
theorem dX10_init_24 : decode cX10_init 24 = .ok (.newarray .int, 2) := by decide +kernel
theorem dX10_init_26 : decode cX10_init 26 = .ok (.putfield 18, 3) := by decide +kernel
theorem dX10_init_29 : decode cX10_init 29 = .ok (.return_, 1) := by decide +kernel
theorem dX10_set_0 : decode cX10_set 0 = .ok (.aload_n 0, 1) := by decide +kernel
theorem dX10_set_1 : decode cX10_set 1 = .ok (.iload_n 1, 1) := by decide +kernel
theorem dX10_set_2 : decode cX10_set 2 = .ok (.invokevirtual 21, 3) := by decide +kernel
theorem dX10_set_5 : decode cX10_set 5 = .ok (.istore 4, 2) := by decide +kernel
theorem dX10_set_7 : decode cX10_set 7 = .ok (.aload_n 3, 1) := by decide +kernel
theorem dX10_set_8 : decode cX10_set 8 = .ok (.iload_n 1, 1) := by decide +kernel
theorem dX10_set_9 : decode cX10_set 9 = .ok (.invokevirtual 25, 3) := by decide +kernel
theorem dX10_set_12 : decode cX10_set 12 = .ok (.ifCond .eq 10, 3) := by decide +kernel
theorem dX10_set_15 : decode cX10_set 15 = .ok (.iload 4, 2) := by decide +kernel
theorem dX10_set_17 : decode cX10_set 17 = .ok (.bipush 12, 2) := by decide +kernel
theorem dX10_set_19 : decode cX10_set 19 = .ok (.if_icmp .lt 5, 3) := by decide +kernel
theorem dX10_set_22 : decode cX10_set 22 = .ok (.iconst 0, 1) := by decide +kernel
theorem dX10_set_23 : decode cX10_set 23 = .ok (.ireturn, 1) := by decide +kernel
theorem dX10_set_24 : decode cX10_set 24 = .ok (.aload_n 0, 1) := by decide +kernel
theorem dX10_set_25 : decode cX10_set 25 = .ok (.getfield 11, 3) := by decide +kernel
theorem dX10_set_28 : decode cX10_set 28 = .ok (.iload 4, 2) := by decide +kernel
theorem dX10_set_30 : decode cX10_set 30 = .ok (.iload_n 1, 1) := by decide +kernel
theorem dX10_set_31 : decode cX10_set 31 = .ok (.iastore, 1) := by decide +kernel
theorem dX10_set_32 : decode cX10_set 32 = .ok (.aload_n 0, 1) := by decide +kernel
theorem dX10_set_33 : decode cX10_set 33 = .ok (.getfield 15, 3) := by decide +kernel
theorem dX10_set_36 : decode cX10_set 36 = .ok (.iload 4, 2) := by decide +kernel
theorem dX10_set_38 : decode cX10_set 38 = .ok (.iload_n 2, 1) := by decide +kernel
theorem dX10_set_39 : decode cX10_set 39 = .ok (.iastore, 1) := by decide +kernel
theorem dX10_set_40 : decode cX10_set 40 = .ok (.aload_n 0, 1) := by decide +kernel
theorem dX10_set_41 : decode cX10_set 41 = .ok (.aload_n 0, 1) := by decide +kernel
theorem dX10_set_42 : decode cX10_set 42 = .ok (.getfield 31, 3) := by decide +kernel
theorem dX10_set_45 : decode cX10_set 45 = .ok (.iload 4, 2) := by decide +kernel
theorem dX10_set_47 : decode cX10_set 47 = .ok (.iconst 1, 1) := by decide +kernel
theorem dX10_set_48 : decode cX10_set 48 = .ok (.iadd, 1) := by decide +kernel
theorem dX10_set_49 : decode cX10_set 49 = .ok (.invokestatic 35, 3) := by decide +kernel
theorem dX10_set_52 : decode cX10_set 52 = .ok (.putfield 31, 3) := by decide +kernel
theorem dX10_set_55 : decode cX10_set 55 = .ok (.aload_n 0, 1) := by decide +kernel
theorem dX10_set_56 : decode cX10_set 56 = .ok (.iconst 0, 1) := by decide +kernel
theorem dX10_set_57 : decode cX10_set 57 = .ok (.putfield 41, 3) := by decide +kernel
theorem dX10_set_60 : decode cX10_set 60 = .ok (.iconst 1, 1) := by decide +kernel
theorem dX10_set_61 : decode cX10_set 61 = .ok (.ireturn, 1) := by decide +kernel
theorem dX10_drop_0 : decode cX10_drop 0 = .ok (.aload_n 0, 1) := by decide +kernel
theorem dX10_drop_1 : decode cX10_drop 1 = .ok (.iload_n 1, 1) := by decide +kernel
theorem dX10_drop_2 : decode cX10_drop 2 = .ok (.invokevirtual 21, 3) := by decide +kernel
theorem dX10_drop_5 : decode cX10_drop 5 = .ok (.istore_n 3, 1) := by decide +kernel
theorem dX10_drop_6 : decode cX10_drop 6 = .ok (.iload_n 3, 1) := by decide +kernel
theorem dX10_drop_7 : decode cX10_drop 7 = .ok (.aload_n 0, 1) := by decide +kernel
theorem dX10_drop_8 : decode cX10_drop 8 = .ok (.getfield 31, 3) := by decide +kernel
theorem dX10_drop_11 : decode cX10_drop 11 = .ok (.if_icmp .lt 9, 3) := by decide +kernel
theorem dX10_drop_14 : decode cX10_drop 14 = .ok (.aload_n 2, 1) := by decide +kernel
theorem dX10_drop_15 : decode cX10_drop 15 = .ok (.iload_n 1, 1) := by decide +kernel
theorem dX10_drop_16 : decode cX10_drop 16 = .ok (.invokevirtual 25, 3) := by decide +kernel
theorem dX10_drop_19 : decode cX10_drop 19 = .ok (.ireturn, 1) := by decide +kernel
theorem dX10_drop_20 : decode cX10_drop 20 = .ok (.aload_n 0, 1) := by decide +kernel
theorem dX10_drop_21 : decode cX10_drop 21 = .ok (.dup, 1) := by decide +kernel
theorem dX10_drop_22 : decode cX10_drop 22 = .ok (.getfield 31, 3) := by decide +kernel
theorem dX10_drop_25 : decode cX10_drop 25 = .ok (.iconst 1, 1) := by decide +kernel
theorem dX10_drop_26 : decode cX10_drop 26 = .ok (.isub, 1) := by decide +kernel
theorem dX10_drop_27 : decode cX10_drop 27 = .ok (.putfield 31, 3) := by decide +kernel
theorem dX10_drop_30 : decode cX10_drop 30 = .ok (.aload_n 0, 1) := by decide +kernel
theorem dX10_drop_31 : decode cX10_drop 31 = .ok (.getfield 11, 3) := by decide +kernel
theorem dX10_drop_34 : decode cX10_drop 34 = .ok (.iload_n 3, 1) := by decide +kernel
theorem dX10_drop_35 : decode cX10_drop 35 = .ok (.aload_n 0, 1) := by decide +kernel
theorem dX10_drop_36 : decode cX10_drop 36 = .ok (.getfield 11, 3) := by decide +kernel
theorem dX10_drop_39 : decode cX10_drop 39 = .ok (.aload_n 0, 1) := by decide +kernel
theorem dX10_drop_40 : decode cX10_drop 40 = .ok (.getfield 31, 3) := by decide +kernel
theorem dX10_drop_43 : decode cX10_drop 43 = .ok (.iaload, 1) := by decide +kernel
theorem dX10_drop_44 : decode cX10_drop 44 = .ok (.iastore, 1) := by decide +kernel
theorem dX10_drop_45 : decode cX10_drop 45 = .ok (.aload_n 0, 1) := by decide +kernel
theorem dX10_drop_46 : decode cX10_drop 46 = .ok (.getfield 15, 3) := by decide +kernel
theorem dX10_drop_49 : decode cX10_drop 49 = .ok (.iload_n 3, 1) := by decide +kernel
theorem dX10_drop_50 : decode cX10_drop 50 = .ok (.aload_n 0, 1) := by decide +kernel
theorem dX10_drop_51 : decode cX10_drop 51 = .ok (.getfield 15, 3) := by decide +kernel
theorem dX10_drop_54 : decode cX10_drop 54 = .ok (.aload_n 0, 1) := by decide +kernel
theorem dX10_drop_55 : decode cX10_drop 55 = .ok (.getfield 31, 3) := by decide +kernel
theorem dX10_drop_58 : decode cX10_drop 58 = .ok (.iaload, 1) := by decide +kernel
theorem dX10_drop_59 : decode cX10_drop 59 = .ok (.iastore, 1) := by decide +kernel
theorem dX10_drop_60 : decode cX10_drop 60 = .ok (.aload_n 0, 1) := by decide +kernel
theorem dX10_drop_61 : decode cX10_drop 61 = .ok (.iconst 0, 1) := by decide +kernel
theorem dX10_drop_62 : decode cX10_drop 62 = .ok (.putfield 41, 3) := by decide +kernel
theorem dX10_drop_65 : decode cX10_drop 65 = .ok (.iconst 1, 1) := by decide +kernel
theorem dX10_drop_66 : decode cX10_drop 66 = .ok (.ireturn, 1) := by decide +kernel
theorem dX10_indexOf_0 : decode cX10_indexOf 0 = .ok (.iconst 0, 1) := by decide +kernel
theorem dX10_indexOf_1 : decode cX10_indexOf 1 = .ok (.istore_n 2, 1) := by decide +kernel
theorem dX10_indexOf_2 : decode cX10_indexOf 2 = .ok (.iload_n 2, 1) := by decide +kernel
theorem dX10_indexOf_3 : decode cX10_indexOf 3 = .ok (.aload_n 0, 1) := by decide +kernel
theorem dX10_indexOf_4 : decode cX10_indexOf 4 = .ok (.getfield 31, 3) := by decide +kernel
theorem dX10_indexOf_7 : decode cX10_indexOf 7 = .ok (.if_icmp .ge 19, 3) := by decide +kernel
theorem dX10_indexOf_10 : decode cX10_indexOf 10 = .ok (.aload_n 0, 1) := by decide +kernel
theorem dX10_indexOf_11 : decode cX10_indexOf 11 = .ok (.getfield 11, 3) := by decide +kernel
theorem dX10_indexOf_14 : decode cX10_indexOf 14 = .ok (.iload_n 2, 1) := by decide +kernel
theorem dX10_indexOf_15 : decode cX10_indexOf 15 = .ok (.iaload, 1) := by decide +kernel
theorem dX10_indexOf_16 : decode cX10_indexOf 16 = .ok (.iload_n 1, 1) := by decide +kernel
theorem dX10_indexOf_17 : decode cX10_indexOf 17 = .ok (.if_icmp .eq 9, 3) := by decide +kernel
theorem dX10_indexOf_20 : decode cX10_indexOf 20 = .ok (.iinc 2 1, 3) := by decide +kernel
theorem dX10_indexOf_23 : decode cX10_indexOf 23 = .ok (.goto (-21), 3) := by decide +kernel
theorem dX10_indexOf_26 : decode cX10_indexOf 26 = .ok (.iload_n 2, 1) := by decide +kernel
theorem dX10_indexOf_27 : decode cX10_indexOf 27 = .ok (.ireturn, 1) := by decide +kernel
theorem dX10_look_0 : decode cX10_look 0 = .ok (.aload_n 0, 1) := by decide +kernel
theorem dX10_look_1 : decode cX10_look 1 = .ok (.getfield 41, 3) := by decide +kernel
theorem dX10_look_4 : decode cX10_look 4 = .ok (.ifCond .ne 18, 3) := by decide +kernel
theorem dX10_look_7 : decode cX10_look 7 = .ok (.aload_n 0, 1) := by decide +kernel
theorem dX10_look_8 : decode cX10_look 8 = .ok (.iconst 1, 1) := by decide +kernel
theorem dX10_look_9 : decode cX10_look 9 = .ok (.putfield 41, 3) := by decide +kernel
theorem dX10_look_12 : decode cX10_look 12 = .ok (.aload_n 0, 1) := by decide +kernel
theorem dX10_look_13 : decode cX10_look 13 = .ok (.aload_n 0, 1) := by decide +kernel
theorem dX10_look_14 : decode cX10_look 14 = .ok (.aload_n 1, 1) := by decide +kernel
theorem dX10_look_15 : decode cX10_look 15 = .ok (.aload_n 2, 1) := by decide +kernel
theorem dX10_look_16 : decode cX10_look 16 = .ok (.invokevirtual 45, 3) := by decide +kernel
theorem dX10_look_19 : decode cX10_look 19 = .ok (.putfield 49, 3) := by decide +kernel
theorem dX10_look_22 : decode cX10_look 22 = .ok (.return_, 1) := by decide +kernel
theorem dX10_search_0 : decode cX10_search 0 = .ok (.lconst 0, 1) := by decide +kernel
theorem dX10_search_1 : decode cX10_search 1 = .ok (.lstore_n 3, 1) := by decide +kernel
theorem dX10_search_2 : decode cX10_search 2 = .ok (.lconst 0, 1) := by decide +kernel
theorem dX10_search_3 : decode cX10_search 3 = .ok (.lstore 5, 2) := by decide +kernel
theorem dX10_search_5 : decode cX10_search 5 = .ok (.iconst 0, 1) := by decide +kernel
theorem dX10_search_6 : decode cX10_search 6 = .ok (.istore 7, 2) := by decide +kernel
theorem dX10_search_8 : decode cX10_search 8 = .ok (.iload 7, 2) := by decide +kernel
theorem dX10_search_10 : decode cX10_search 10 = .ok (.aload_n 0, 1) := by decide +kernel
theorem dX10_search_11 : decode cX10_search 11 = .ok (.getfield 31, 3) := by decide +kernel
theorem dX10_search_14 : decode cX10_search 14 = .ok (.if_icmp .ge 68, 3) := by decide +kernel
theorem dX10_search_17 : decode cX10_search 17 = .ok (.aload_n 1, 1) := by decide +kernel
theorem dX10_search_18 : decode cX10_search 18 = .ok (.aload_n 0, 1) := by decide +kernel
theorem dX10_search_19 : decode cX10_search 19 = .ok (.getfield 11, 3) := by decide +kernel
theorem dX10_search_22 : decode cX10_search 22 = .ok (.iload 7, 2) := by decide +kernel
theorem dX10_search_24 : decode cX10_search 24 = .ok (.iaload, 1) := by decide +kernel
theorem dX10_search_25 : decode cX10_search 25 = .ok (.invokevirtual 25, 3) := by decide +kernel
theorem dX10_search_28 : decode cX10_search 28 = .ok (.ifCond .ne 5, 3) := by decide +kernel
theorem dX10_search_31 : decode cX10_search 31 = .ok (.iconst (-1), 1) := by decide +kernel
theorem dX10_search_32 : decode cX10_search 32 = .ok (.ireturn, 1) := by decide +kernel
theorem dX10_search_33 : decode cX10_search 33 = .ok (.lload_n 3, 1) := by decide +kernel
theorem dX10_search_34 : decode cX10_search 34 = .ok (.lconst 1, 1) := by decide +kernel
theorem dX10_search_35 : decode cX10_search 35 = .ok (.aload_n 1, 1) := by decide +kernel
theorem dX10_search_36 : decode cX10_search 36 = .ok (.getfield 52, 3) := by decide +kernel
theorem dX10_search_39 : decode cX10_search 39 = .ok (.aload_n 0, 1) := by decide +kernel
theorem dX10_search_40 : decode cX10_search 40 = .ok (.getfield 11, 3) := by decide +kernel
theorem dX10_search_43 : decode cX10_search 43 = .ok (.iload 7, 2) := by decide +kernel
theorem dX10_search_45 : decode cX10_search 45 = .ok (.iaload, 1) := by decide +kernel
theorem dX10_search_46 : decode cX10_search 46 = .ok (.iaload, 1) := by decide +kernel
theorem dX10_search_47 : decode cX10_search 47 = .ok (.lshl, 1) := by decide +kernel
theorem dX10_search_48 : decode cX10_search 48 = .ok (.lor, 1) := by decide +kernel
theorem dX10_search_49 : decode cX10_search 49 = .ok (.lstore_n 3, 1) := by decide +kernel
theorem dX10_search_50 : decode cX10_search 50 = .ok (.lload 5, 2) := by decide +kernel
theorem dX10_search_52 : decode cX10_search 52 = .ok (.aload_n 0, 1) := by decide +kernel
theorem dX10_search_53 : decode cX10_search 53 = .ok (.getfield 15, 3) := by decide +kernel
theorem dX10_search_56 : decode cX10_search 56 = .ok (.iload 7, 2) := by decide +kernel
theorem dX10_search_58 : decode cX10_search 58 = .ok (.iaload, 1) := by decide +kernel
theorem dX10_search_59 : decode cX10_search 59 = .ok (.i2l, 1) := by decide +kernel
theorem dX10_search_60 : decode cX10_search 60 = .ok (.aload_n 1, 1) := by decide +kernel
theorem dX10_search_61 : decode cX10_search 61 = .ok (.getfield 52, 3) := by decide +kernel
theorem dX10_search_64 : decode cX10_search 64 = .ok (.aload_n 0, 1) := by decide +kernel
theorem dX10_search_65 : decode cX10_search 65 = .ok (.getfield 11, 3) := by decide +kernel
theorem dX10_search_68 : decode cX10_search 68 = .ok (.iload 7, 2) := by decide +kernel
theorem dX10_search_70 : decode cX10_search 70 = .ok (.iaload, 1) := by decide +kernel
theorem dX10_search_71 : decode cX10_search 71 = .ok (.iaload, 1) := by decide +kernel
theorem dX10_search_72 : decode cX10_search 72 = .ok (.lshl, 1) := by decide +kernel
theorem dX10_search_73 : decode cX10_search 73 = .ok (.lor, 1) := by decide +kernel
theorem dX10_search_74 : decode cX10_search 74 = .ok (.lstore 5, 2) := by decide +kernel
theorem dX10_search_76 : decode cX10_search 76 = .ok (.iinc 7 1, 3) := by decide +kernel
theorem dX10_search_79 : decode cX10_search 79 = .ok (.goto (-71), 3) := by decide +kernel
theorem dX10_search_82 : decode cX10_search 82 = .ok (.aload_n 1, 1) := by decide +kernel
theorem dX10_search_83 : decode cX10_search 83 = .ok (.getfield 55, 3) := by decide +kernel
theorem dX10_search_86 : decode cX10_search 86 = .ok (.lload_n 3, 1) := by decide +kernel
theorem dX10_search_87 : decode cX10_search 87 = .ok (.land, 1) := by decide +kernel
theorem dX10_search_88 : decode cX10_search 88 = .ok (.lload 5, 2) := by decide +kernel
theorem dX10_search_90 : decode cX10_search 90 = .ok (.lcmp, 1) := by decide +kernel
theorem dX10_search_91 : decode cX10_search 91 = .ok (.ifCond .ne 5, 3) := by decide +kernel
theorem dX10_search_94 : decode cX10_search 94 = .ok (.iconst 0, 1) := by decide +kernel
theorem dX10_search_95 : decode cX10_search 95 = .ok (.ireturn, 1) := by decide +kernel
theorem dX10_search_96 : decode cX10_search 96 = .ok (.aload_n 2, 1) := by decide +kernel
theorem dX10_search_97 : decode cX10_search 97 = .ok (.sipush 3000, 3) := by decide +kernel
theorem dX10_search_100 : decode cX10_search 100 = .ok (.invokevirtual 59, 3) := by decide +kernel
theorem dX10_search_103 : decode cX10_search 103 = .ok (.aload_n 2, 1) := by decide +kernel
theorem dX10_search_104 : decode cX10_search 104 = .ok (.aload_n 1, 1) := by decide +kernel
theorem dX10_search_105 : decode cX10_search 105 = .ok (.getfield 55, 3) := by decide +kernel
theorem dX10_search_108 : decode cX10_search 108 = .ok (.lconst 0, 1) := by decide +kernel
theorem dX10_search_109 : decode cX10_search 109 = .ok (.iconst (-1), 1) := by decide +kernel
theorem dX10_search_110 : decode cX10_search 110 = .ok (.iconst (-1), 1) := by decide +kernel
theorem dX10_search_111 : decode cX10_search 111 = .ok (.invokevirtual 65, 3) := by decide +kernel
theorem dX10_search_114 : decode cX10_search 114 = .ok (.pop, 1) := by decide +kernel
theorem dX10_search_115 : decode cX10_search 115 = .ok (.iconst 0, 1) := by decide +kernel
theorem dX10_search_116 : decode cX10_search 116 = .ok (.istore 7, 2) := by decide +kernel
theorem dX10_search_118 : decode cX10_search 118 = .ok (.iload 7, 2) := by decide +kernel
theorem dX10_search_120 : decode cX10_search 120 = .ok (.aload_n 2, 1) := by decide +kernel
theorem dX10_search_121 : decode cX10_search 121 = .ok (.getfield 69, 3) := by decide +kernel
theorem dX10_search_124 : decode cX10_search 124 = .ok (.if_icmp .ge 91, 3) := by decide +kernel
theorem dX10_search_127 : decode cX10_search 127 = .ok (.iload 7, 2) := by decide +kernel
theorem dX10_search_129 : decode cX10_search 129 = .ok (.sipush 3000, 3) := by decide +kernel
theorem dX10_search_132 : decode cX10_search 132 = .ok (.if_icmp .ge 83, 3) := by decide +kernel
theorem dX10_search_135 : decode cX10_search 135 = .ok (.iconst 0, 1) := by decide +kernel
theorem dX10_search_136 : decode cX10_search 136 = .ok (.istore 8, 2) := by decide +kernel
theorem dX10_search_138 : decode cX10_search 138 = .ok (.iload 8, 2) := by decide +kernel
theorem dX10_search_140 : decode cX10_search 140 = .ok (.iconst 4, 1) := by decide +kernel
theorem dX10_search_141 : decode cX10_search 141 = .ok (.if_icmp .ge 68, 3) := by decide +kernel
theorem dX10_search_144 : decode cX10_search 144 = .ok (.aload_n 1, 1) := by decide +kernel
theorem dX10_search_145 : decode cX10_search 145 = .ok (.aload_n 2, 1) := by decide +kernel
theorem dX10_search_146 : decode cX10_search 146 = .ok (.getfield 70, 3) := by decide +kernel
theorem dX10_search_149 : decode cX10_search 149 = .ok (.iload 7, 2) := by decide +kernel
theorem dX10_search_151 : decode cX10_search 151 = .ok (.laload, 1) := by decide +kernel
theorem dX10_search_152 : decode cX10_search 152 = .ok (.iload 8, 2) := by decide +kernel
theorem dX10_search_154 : decode cX10_search 154 = .ok (.lconst 0, 1) := by decide +kernel
theorem dX10_search_155 : decode cX10_search 155 = .ok (.invokevirtual 74, 3) := by decide +kernel
theorem dX10_search_158 : decode cX10_search 158 = .ok (.pop, 1) := by decide +kernel
theorem dX10_search_159 : decode cX10_search 159 = .ok (.aload_n 2, 1) := by decide +kernel
theorem dX10_search_160 : decode cX10_search 160 = .ok (.aload_n 1, 1) := by decide +kernel
theorem dX10_search_161 : decode cX10_search 161 = .ok (.getfield 78, 3) := by decide +kernel
theorem dX10_search_164 : decode cX10_search 164 = .ok (.lconst 0, 1) := by decide +kernel
theorem dX10_search_165 : decode cX10_search 165 = .ok (.iload 7, 2) := by decide +kernel
theorem dX10_search_167 : decode cX10_search 167 = .ok (.iload 8, 2) := by decide +kernel
theorem dX10_search_169 : decode cX10_search 169 = .ok (.invokevirtual 65, 3) := by decide +kernel
theorem dX10_search_172 : decode cX10_search 172 = .ok (.iconst (-1), 1) := by decide +kernel
theorem dX10_search_173 : decode cX10_search 173 = .ok (.if_icmp .ne 5, 3) := by decide +kernel
theorem dX10_search_176 : decode cX10_search 176 = .ok (.iconst (-1), 1) := by decide +kernel
theorem dX10_search_177 : decode cX10_search 177 = .ok (.ireturn, 1) := by decide +kernel
theorem dX10_search_178 : decode cX10_search 178 = .ok (.aload_n 1, 1) := by decide +kernel
theorem dX10_search_179 : decode cX10_search 179 = .ok (.getfield 78, 3) := by decide +kernel
theorem dX10_search_182 : decode cX10_search 182 = .ok (.lload_n 3, 1) := by decide +kernel
theorem dX10_search_183 : decode cX10_search 183 = .ok (.land, 1) := by decide +kernel
theorem dX10_search_184 : decode cX10_search 184 = .ok (.lload 5, 2) := by decide +kernel
theorem dX10_search_186 : decode cX10_search 186 = .ok (.lcmp, 1) := by decide +kernel
theorem dX10_search_187 : decode cX10_search 187 = .ok (.ifCond .ne 16, 3) := by decide +kernel
theorem dX10_search_190 : decode cX10_search 190 = .ok (.aload_n 2, 1) := by decide +kernel
theorem dX10_search_191 : decode cX10_search 191 = .ok (.iload 7, 2) := by decide +kernel
theorem dX10_search_193 : decode cX10_search 193 = .ok (.iload 8, 2) := by decide +kernel
theorem dX10_search_195 : decode cX10_search 195 = .ok (.aload_n 0, 1) := by decide +kernel
theorem dX10_search_196 : decode cX10_search 196 = .ok (.getfield 18, 3) := by decide +kernel
theorem dX10_search_199 : decode cX10_search 199 = .ok (.invokevirtual 81, 3) := by decide +kernel
theorem dX10_search_202 : decode cX10_search 202 = .ok (.ireturn, 1) := by decide +kernel
theorem dX10_search_203 : decode cX10_search 203 = .ok (.iinc 8 1, 3) := by decide +kernel
theorem dX10_search_206 : decode cX10_search 206 = .ok (.goto (-68), 3) := by decide +kernel
theorem dX10_search_209 : decode cX10_search 209 = .ok (.iinc 7 1, 3) := by decide +kernel
theorem dX10_search_212 : decode cX10_search 212 = .ok (.goto (-94), 3) := by decide +kernel
theorem dX10_search_215 : decode cX10_search 215 = .ok (.iconst (-1), 1) := by decide +kernel
theorem dX10_search_216 : decode cX10_search 216 = .ok (.ireturn, 1) := by decide +kernel
theorem dX11_init_0 : decode cX11_init 0 = .ok (.aload_n 0, 1) := by decide +kernel
theorem dX11_init_1 : decode cX11_init 1 = .ok (.invokespecial 1, 3) := by decide +kernel
theorem dX11_init_4 : decode cX11_init 4 = .ok (.aload_n 0, 1) := by decide +kernel
theorem dX11_init_5 : decode cX11_init 5 = .ok (.new 7, 3) := by decide +kernel
theorem dX11_init_8 : decode cX11_init 8 = .ok (.dup, 1) := by decide +kernel
theorem dX11_init_9 : decode cX11_init 9 = .ok (.invokespecial 9, 3) := by decide +kernel
theorem dX11_init_12 : decode cX11_init 12 = .ok (.putfield 10, 3) := by decide +kernel
theorem dX11_init_15 : decode cX11_init 15 = .ok (.aload_n 0, 1) := by decide +kernel
theorem dX11_init_16 : decode cX11_init 16 = .ok (.new 16, 3) := by decide +kernel
theorem dX11_init_19 : decode cX11_init 19 = .ok (.dup, 1) := by decide +kernel
theorem dX11_init_20 : decode cX11_init 20 = .ok (.aload_n 0, 1) := by decide +kernel
theorem dX11_init_21 : decode cX11_init 21 = .ok (.getfield 10, 3) := by decide +kernel
theorem dX11_init_24 : decode cX11_init 24 = .ok (.invokespecial 18, 3) := by decide +kernel
theorem dX11_init_27 : decode cX11_init 27 = .ok (.putfield 21, 3) := by decide +kernel
theorem dX11_init_30 : decode cX11_init 30 = .ok (.aload_n 0, 1) := by decide +kernel
theorem dX11_init_31 : decode cX11_init 31 = .ok (.new 25, 3) := by decide +kernel
theorem dX11_init_34 : decode cX11_init 34 = .ok (.dup, 1) := by decide +kernel
theorem dX11_init_35 : decode cX11_init 35 = .ok (.invokespecial 27, 3) := by decide +kernel
theorem dX11_init_38 : decode cX11_init 38 = .ok (.putfield 28, 3) := by decide +kernel
theorem dX11_init_41 : decode cX11_init 41 = .ok (.aload_n 0, 1) := by decide +kernel
theorem dX11_init_42 : decode cX11_init 42 = .ok (.new 32, 3) := by decide +kernel
theorem dX11_init_45 : decode cX11_init 45 = .ok (.dup, 1) := by decide +kernel
theorem dX11_init_46 : decode cX11_init 46 = .ok (.aload_n 0, 1) := by decide +kernel
theorem dX11_init_47 : decode cX11_init 47 = .ok (.getfield 21, 3) := by decide +kernel
theorem dX11_init_50 : decode cX11_init 50 = .ok (.aload_n 0, 1) := by decide +kernel
theorem dX11_init_51 : decode cX11_init 51 = .ok (.getfield 28, 3) := by decide +kernel
theorem dX11_init_54 : decode cX11_init 54 = .ok (.invokespecial 34, 3) := by decide +kernel
theorem dX11_init_57 : decode cX11_init 57 = .ok (.putfield 37, 3) := by decide +kernel
theorem dX11_init_60 : decode cX11_init 60 = .ok (.aload_n 0, 1) := by decide +kernel
theorem dX11_init_61 : decode cX11_init 61 = .ok (.new 41, 3) := by decide +kernel
theorem dX11_init_64 : decode cX11_init 64 = .ok (.dup, 1) := by decide +kernel
theorem dX11_init_65 : decode cX11_init 65 = .ok (.invokespecial 43, 3) := by decide +kernel
theorem dX11_init_68 : decode cX11_init 68 = .ok (.putfield 44, 3) := by decide +kernel
theorem dX11_init_71 : decode cX11_init 71 = .ok (.aload_n 0, 1) := by decide +kernel
theorem dX11_init_72 : decode cX11_init 72 = .ok (.iconst 4, 1) := by decide +kernel
theorem dX11_init_73 : decode cX11_init 73 = .ok (.anewarray 25, 3) := by decide +kernel
theorem dX11_init_76 : decode cX11_init 76 = .ok (.putfield 48, 3) := by decide +kernel
theorem dX11_init_79 : decode cX11_init 79 = .ok (.aload_n 0, 1) := by decide +kernel
theorem dX11_init_80 : decode cX11_init 80 = .ok (.iconst 4, 1) := by decide +kernel
theorem dX11_init_81 : decode cX11_init 81 = .ok (.newarray .boolean, 2) := by decide +kernel
theorem dX11_init_83 : decode cX11_init 83 = .ok (.putfield 52, 3) := by decide +kernel
theorem dX11_init_86 : decode cX11_init 86 = .ok (.aload_n 0, 1) := by decide +kernel
theorem dX11_init_87 : decode cX11_init 87 = .ok (.new 56, 3) := by decide +kernel
theorem dX11_init_90 : decode cX11_init 90 = .ok (.dup, 1) := by decide +kernel
theorem dX11_init_91 : decode cX11_init 91 = .ok (.invokespecial 58, 3) := by decide +kernel
theorem dX11_init_94 : decode cX11_init 94 = .ok (.putfield 59, 3) := by decide +kernel
theorem dX11_init_97 : decode cX11_init 97 = .ok (.aload_n 0, 1) := by decide +kernel
theorem dX11_init_98 : decode cX11_init 98 = .ok (.new 63, 3) := by decide +kernel
theorem dX11_init_101 : decode cX11_init 101 = .ok (.dup, 1) := by decide +kernel
theorem dX11_init_102 : decode cX11_init 102 = .ok (.invokespecial 65, 3) := by decide +kernel
theorem dX11_init_105 : decode cX11_init 105 = .ok (.putfield 66, 3) := by decide +kernel
theorem dX11_init_108 : decode cX11_init 108 = .ok (.aload_n 0, 1) := by decide +kernel
theorem dX11_init_109 : decode cX11_init 109 = .ok (.new 70, 3) := by decide +kernel
theorem dX11_init_112 : decode cX11_init 112 = .ok (.dup, 1) := by decide +kernel
theorem dX11_init_113 : decode cX11_init 113 = .ok (.invokespecial 72, 3) := by decide +kernel
theorem dX11_init_116 : decode cX11_init 116 = .ok (.putfield 73, 3) := by decide +kernel
theorem dX11_init_119 : decode cX11_init 119 = .ok (.aload_n 0, 1) := by decide +kernel
theorem dX11_init_120 : decode cX11_init 120 = .ok (.new 77, 3) := by decide +kernel
theorem dX11_init_123 : decode cX11_init 123 = .ok (.dup, 1) := by decide +kernel
theorem dX11_init_124 : decode cX11_init 124 = .ok (.invokespecial 79, 3) := by decide +kernel
theorem dX11_init_127 : decode cX11_init 127 = .ok (.putfield 80, 3) := by decide +kernel
theorem dX11_init_130 : decode cX11_init 130 = .ok (.aload_n 0, 1) := by decide +kernel
theorem dX11_init_131 : decode cX11_init 131 = .ok (.new 84, 3) := by decide +kernel
theorem dX11_init_134 : decode cX11_init 134 = .ok (.dup, 1) := by decide +kernel
theorem dX11_init_135 : decode cX11_init 135 = .ok (.invokespecial 86, 3) := by decide +kernel
theorem dX11_init_138 : decode cX11_init 138 = .ok (.putfield 87, 3) := by decide +kernel
theorem dX11_init_141 : decode cX11_init 141 = .ok (.aload_n 0, 1) := by decide +kernel
theorem dX11_init_142 : decode cX11_init 142 = .ok (.new 91, 3) := by decide +kernel
theorem dX11_init_145 : decode cX11_init 145 = .ok (.dup, 1) := by decide +kernel
theorem dX11_init_146 : decode cX11_init 146 = .ok (.invokespecial 93, 3) := by decide +kernel
theorem dX11_init_149 : decode cX11_init 149 = .ok (.putfield 94, 3) := by decide +kernel
theorem dX11_init_152 : decode cX11_init 152 = .ok (.iconst 0, 1) := by decide +kernel
theorem dX11_init_153 : decode cX11_init 153 = .ok (.istore_n 1, 1) := by decide +kernel
theorem dX11_init_154 : decode cX11_init 154 = .ok (.iload_n 1, 1) := by decide +kernel
theorem dX11_init_155 : decode cX11_init 155 = .ok (.iconst 4, 1) := by decide +kernel
theorem dX11_init_156 : decode cX11_init 156 = .ok (.if_icmp .ge 22, 3) := by decide +kernel
theorem dX11_init_159 : decode cX11_init 159 = .ok (.aload_n 0, 1) := by decide +kernel
theorem dX11_init_160 : decode cX11_init 160 = .ok (.getfield 48, 3) := by decide +kernel
theorem dX11_init_163 : decode cX11_init 163 = .ok (.iload_n 1, 1) := by decide +kernel
theorem dX11_init_164 : decode cX11_init 164 = .ok (.new 25, 3) := by decide +kernel
theorem dX11_init_167 : decode cX11_init 167 = .ok (.dup, 1) := by decide +kernel
theorem dX11_init_168 : decode cX11_init 168 = .ok (.invokespecial 27, 3) := by decide +kernel
theorem dX11_init_171 : decode cX11_init 171 = .ok (.aastore, 1) := by decide +kernel
theorem dX11_init_172 : decode cX11_init 172 = .ok (.iinc 1 1, 3) := by decide +kernel
theorem dX11_init_175 : decode cX11_init 175 = .ok (.goto (-21), 3) := by decide +kernel
theorem dX11_init_178 : decode cX11_init 178 = .ok (.return_, 1) := by decide +kernel
theorem dX11_feed_0 : decode cX11_feed 0 = .ok (.aload_n 0, 1) := by decide +kernel
theorem dX11_feed_1 : decode cX11_feed 1 = .ok (.getfield 10, 3) := by decide +kernel
theorem dX11_feed_4 : decode cX11_feed 4 = .ok (.lload_n 1, 1) := by decide +kernel
theorem dX11_feed_5 : decode cX11_feed 5 = .ok (.invokevirtual 98, 3) := by decide +kernel
theorem dX11_feed_8 : decode cX11_feed 8 = .ok (.aload_n 0, 1) := by decide +kernel
theorem dX11_feed_9 : decode cX11_feed 9 = .ok (.getfield 10, 3) := by decide +kernel
theorem dX11_feed_12 : decode cX11_feed 12 = .ok (.lload_n 3, 1) := by decide +kernel
theorem dX11_feed_13 : decode cX11_feed 13 = .ok (.invokevirtual 98, 3) := by decide +kernel
theorem dX11_feed_16 : decode cX11_feed 16 = .ok (.aload_n 0, 1) := by decide +kernel
theorem dX11_feed_17 : decode cX11_feed 17 = .ok (.getfield 10, 3) := by decide +kernel
theorem dX11_feed_20 : decode cX11_feed 20 = .ok (.lload 5, 2) := by decide +kernel
theorem dX11_feed_22 : decode cX11_feed 22 = .ok (.invokevirtual 98, 3) := by decide +kernel
theorem dX11_feed_25 : decode cX11_feed 25 = .ok (.aload_n 0, 1) := by decide +kernel
theorem dX11_feed_26 : decode cX11_feed 26 = .ok (.getfield 10, 3) := by decide +kernel
theorem dX11_feed_29 : decode cX11_feed 29 = .ok (.getfield 102, 3) := by decide +kernel
theorem dX11_feed_32 : decode cX11_feed 32 = .ok (.ireturn, 1) := by decide +kernel
theorem dX11_draw_0 : decode cX11_draw 0 = .ok (.aload_n 0, 1) := by decide +kernel
theorem dX11_draw_1 : decode cX11_draw 1 = .ok (.getfield 21, 3) := by decide +kernel
theorem dX11_draw_4 : decode cX11_draw 4 = .ok (.invokevirtual 106, 3) := by decide +kernel
theorem dX11_draw_7 : decode cX11_draw 7 = .ok (.istore_n 1, 1) := by decide +kernel
theorem dX11_draw_8 : decode cX11_draw 8 = .ok (.iload_n 1, 1) := by decide +kernel
theorem dX11_draw_9 : decode cX11_draw 9 = .ok (.ifCond .eq 5, 3) := by decide +kernel
theorem dX11_draw_12 : decode cX11_draw 12 = .ok (.iload_n 1, 1) := by decide +kernel
theorem dX11_draw_13 : decode cX11_draw 13 = .ok (.ireturn, 1) := by decide +kernel
theorem dX11_draw_14 : decode cX11_draw 14 = .ok (.aload_n 0, 1) := by decide +kernel
theorem dX11_draw_15 : decode cX11_draw 15 = .ok (.getfield 44, 3) := by decide +kernel
theorem dX11_draw_18 : decode cX11_draw 18 = .ok (.invokevirtual 110, 3) := by decide +kernel
theorem dX11_draw_21 : decode cX11_draw 21 = .ok (.astore_n 2, 1) := by decide +kernel
theorem dX11_draw_22 : decode cX11_draw 22 = .ok (.aload_n 2, 1) := by decide +kernel
theorem dX11_draw_23 : decode cX11_draw 23 = .ok (.aload_n 0, 1) := by decide +kernel
theorem dX11_draw_24 : decode cX11_draw 24 = .ok (.getfield 28, 3) := by decide +kernel
theorem dX11_draw_27 : decode cX11_draw 27 = .ok (.invokevirtual 114, 3) := by decide +kernel
theorem dX11_draw_30 : decode cX11_draw 30 = .ok (.aload_n 0, 1) := by decide +kernel
theorem dX11_draw_31 : decode cX11_draw 31 = .ok (.getfield 37, 3) := by decide +kernel
theorem dX11_draw_34 : decode cX11_draw 34 = .ok (.invokevirtual 118, 3) := by decide +kernel
theorem dX11_draw_37 : decode cX11_draw 37 = .ok (.istore_n 3, 1) := by decide +kernel
theorem dX11_draw_38 : decode cX11_draw 38 = .ok (.iload_n 3, 1) := by decide +kernel
theorem dX11_draw_39 : decode cX11_draw 39 = .ok (.ifCond .eq 14, 3) := by decide +kernel
theorem dX11_draw_42 : decode cX11_draw 42 = .ok (.aload_n 0, 1) := by decide +kernel
theorem dX11_draw_43 : decode cX11_draw 43 = .ok (.getfield 28, 3) := by decide +kernel
theorem dX11_draw_46 : decode cX11_draw 46 = .ok (.aload_n 2, 1) := by decide +kernel
theorem dX11_draw_47 : decode cX11_draw 47 = .ok (.invokevirtual 114, 3) := by decide +kernel
theorem dX11_draw_50 : decode cX11_draw 50 = .ok (.iload_n 3, 1) := by decide +kernel
theorem dX11_draw_51 : decode cX11_draw 51 = .ok (.ineg, 1) := by decide +kernel
theorem dX11_draw_52 : decode cX11_draw 52 = .ok (.ireturn, 1) := by decide +kernel
theorem dX11_draw_53 : decode cX11_draw 53 = .ok (.aload_n 0, 1) := by decide +kernel
theorem dX11_draw_54 : decode cX11_draw 54 = .ok (.getfield 44, 3) := by decide +kernel
theorem dX11_draw_57 : decode cX11_draw 57 = .ok (.invokevirtual 121, 3) := by decide +kernel
theorem dX11_draw_60 : decode cX11_draw 60 = .ok (.aload_n 0, 1) := by decide +kernel
theorem dX11_draw_61 : decode cX11_draw 61 = .ok (.invokevirtual 124, 3) := by decide +kernel
theorem dX11_draw_64 : decode cX11_draw 64 = .ok (.iconst 0, 1) := by decide +kernel
theorem dX11_draw_65 : decode cX11_draw 65 = .ok (.ireturn, 1) := by decide +kernel
theorem dX11_takeBack_0 : decode cX11_takeBack 0 = .ok (.aload_n 0, 1) := by decide +kernel
theorem dX11_takeBack_1 : decode cX11_takeBack 1 = .ok (.getfield 44, 3) := by decide +kernel
theorem dX11_takeBack_4 : decode cX11_takeBack 4 = .ok (.getfield 127, 3) := by decide +kernel
theorem dX11_takeBack_7 : decode cX11_takeBack 7 = .ok (.ifCond .ne 5, 3) := by decide +kernel
theorem dX11_takeBack_10 : decode cX11_takeBack 10 = .ok (.iconst 0, 1) := by decide +kernel
theorem dX11_takeBack_11 : decode cX11_takeBack 11 = .ok (.ireturn, 1) := by decide +kernel
theorem dX11_takeBack_12 : decode cX11_takeBack 12 = .ok (.aload_n 0, 1) := by decide +kernel
theorem dX11_takeBack_13 : decode cX11_takeBack 13 = .ok (.getfield 28, 3) := by decide +kernel
theorem dX11_takeBack_16 : decode cX11_takeBack 16 = .ok (.aload_n 0, 1) := by decide +kernel
theorem dX11_takeBack_17 : decode cX11_takeBack 17 = .ok (.getfield 44, 3) := by decide +kernel
theorem dX11_takeBack_20 : decode cX11_takeBack 20 = .ok (.invokevirtual 130, 3) := by decide +kernel
theorem dX11_takeBack_23 : decode cX11_takeBack 23 = .ok (.invokevirtual 114, 3) := by decide +kernel
theorem dX11_takeBack_26 : decode cX11_takeBack 26 = .ok (.aload_n 0, 1) := by decide +kernel
theorem dX11_takeBack_27 : decode cX11_takeBack 27 = .ok (.invokevirtual 124, 3) := by decide +kernel
theorem dX11_takeBack_30 : decode cX11_takeBack 30 = .ok (.iconst 1, 1) := by decide +kernel
theorem dX11_takeBack_31 : decode cX11_takeBack 31 = .ok (.ireturn, 1) := by decide +kernel
theorem dX11_piece_0 : decode cX11_piece 0 = .ok (.iload_n 1, 1) := by decide +kernel
theorem dX11_piece_1 : decode cX11_piece 1 = .ok (.iload_n 2, 1) := by decide +kernel
theorem dX11_piece_2 : decode cX11_piece 2 = .ok (.invokestatic 133, 3) := by decide +kernel
theorem dX11_piece_5 : decode cX11_piece 5 = .ok (.ifCond .eq 19, 3) := by decide +kernel
theorem dX11_piece_8 : decode cX11_piece 8 = .ok (.aload_n 0, 1) := by decide +kernel
theorem dX11_piece_9 : decode cX11_piece 9 = .ok (.getfield 28, 3) := by decide +kernel
theorem dX11_piece_12 : decode cX11_piece 12 = .ok (.getfield 137, 3) := by decide +kernel
theorem dX11_piece_15 : decode cX11_piece 15 = .ok (.iload_n 1, 1) := by decide +kernel
theorem dX11_piece_16 : decode cX11_piece 16 = .ok (.iload_n 2, 1) := by decide +kernel
theorem dX11_piece_17 : decode cX11_piece 17 = .ok (.invokestatic 141, 3) := by decide +kernel
theorem dX11_piece_20 : decode cX11_piece 20 = .ok (.iaload, 1) := by decide +kernel
theorem dX11_piece_21 : decode cX11_piece 21 = .ok (.goto 4, 3) := by decide +kernel
theorem dX11_piece_24 : decode cX11_piece 24 = .ok (.iconst (-1), 1) := by decide +kernel
theorem dX11_piece_25 : decode cX11_piece 25 = .ok (.ireturn, 1) := by decide +kernel
theorem dX11_shows_0 : decode cX11_shows 0 = .ok (.iload_n 1, 1) := by decide +kernel
theorem dX11_shows_1 : decode cX11_shows 1 = .ok (.iload_n 2, 1) := by decide +kernel
theorem dX11_shows_2 : decode cX11_shows 2 = .ok (.invokestatic 133, 3) := by decide +kernel
theorem dX11_shows_5 : decode cX11_shows 5 = .ok (.ifCond .eq 18, 3) := by decide +kernel
theorem dX11_shows_8 : decode cX11_shows 8 = .ok (.aload_n 0, 1) := by decide +kernel
theorem dX11_shows_9 : decode cX11_shows 9 = .ok (.getfield 28, 3) := by decide +kernel
theorem dX11_shows_12 : decode cX11_shows 12 = .ok (.iload_n 1, 1) := by decide +kernel
theorem dX11_shows_13 : decode cX11_shows 13 = .ok (.iload_n 2, 1) := by decide +kernel
theorem dX11_shows_14 : decode cX11_shows 14 = .ok (.invokestatic 141, 3) := by decide +kernel
theorem dX11_shows_17 : decode cX11_shows 17 = .ok (.invokevirtual 145, 3) := by decide +kernel
theorem dX11_shows_20 : decode cX11_shows 20 = .ok (.goto 4, 3) := by decide +kernel
theorem dX11_shows_23 : decode cX11_shows 23 = .ok (.iconst (-1), 1) := by decide +kernel
theorem dX11_shows_24 : decode cX11_shows 24 = .ok (.ireturn, 1) := by decide +kernel
theorem dX11_train_0 : decode cX11_train 0 = .ok (.iload_n 1, 1) := by decide +kernel
theorem dX11_train_1 : decode cX11_train 1 = .ok (.iload_n 2, 1) := by decide +kernel
theorem dX11_train_2 : decode cX11_train 2 = .ok (.invokestatic 133, 3) := by decide +kernel
theorem dX11_train_5 : decode cX11_train 5 = .ok (.ifCond .eq 19, 3) := by decide +kernel
theorem dX11_train_8 : decode cX11_train 8 = .ok (.aload_n 0, 1) := by decide +kernel
theorem dX11_train_9 : decode cX11_train 9 = .ok (.getfield 28, 3) := by decide +kernel
theorem dX11_train_12 : decode cX11_train 12 = .ok (.getfield 149, 3) := by decide +kernel
theorem dX11_train_15 : decode cX11_train 15 = .ok (.iload_n 1, 1) := by decide +kernel
theorem dX11_train_16 : decode cX11_train 16 = .ok (.iload_n 2, 1) := by decide +kernel
theorem dX11_train_17 : decode cX11_train 17 = .ok (.invokestatic 141, 3) := by decide +kernel
theorem dX11_train_20 : decode cX11_train 20 = .ok (.iaload, 1) := by decide +kernel
theorem dX11_train_21 : decode cX11_train 21 = .ok (.goto 4, 3) := by decide +kernel
theorem dX11_train_24 : decode cX11_train 24 = .ok (.iconst (-1), 1) := by decide +kernel
theorem dX11_train_25 : decode cX11_train 25 = .ok (.ireturn, 1) := by decide +kernel
theorem dX11_lever_0 : decode cX11_lever 0 = .ok (.iload_n 1, 1) := by decide +kernel
theorem dX11_lever_1 : decode cX11_lever 1 = .ok (.ifCond .lt 9, 3) := by decide +kernel
theorem dX11_lever_4 : decode cX11_lever 4 = .ok (.iload_n 1, 1) := by decide +kernel
theorem dX11_lever_5 : decode cX11_lever 5 = .ok (.bipush 13, 2) := by decide +kernel
theorem dX11_lever_7 : decode cX11_lever 7 = .ok (.if_icmp .lt 7, 3) := by decide +kernel
theorem dX11_lever_10 : decode cX11_lever 10 = .ok (.iconst (-1), 1) := by decide +kernel
theorem dX11_lever_11 : decode cX11_lever 11 = .ok (.goto 12, 3) := by decide +kernel
theorem dX11_lever_14 : decode cX11_lever 14 = .ok (.aload_n 0, 1) := by decide +kernel
theorem dX11_lever_15 : decode cX11_lever 15 = .ok (.getfield 28, 3) := by decide +kernel
theorem dX11_lever_18 : decode cX11_lever 18 = .ok (.getfield 152, 3) := by decide +kernel
theorem dX11_lever_21 : decode cX11_lever 21 = .ok (.iload_n 1, 1) := by decide +kernel
theorem dX11_lever_22 : decode cX11_lever 22 = .ok (.iaload, 1) := by decide +kernel
theorem dX11_lever_23 : decode cX11_lever 23 = .ok (.ireturn, 1) := by decide +kernel
theorem dX11_hopper_0 : decode cX11_hopper 0 = .ok (.iload_n 1, 1) := by decide +kernel
theorem dX11_hopper_1 : decode cX11_hopper 1 = .ok (.invokestatic 155, 3) := by decide +kernel
theorem dX11_hopper_4 : decode cX11_hopper 4 = .ok (.ifCond .eq 12, 3) := by decide +kernel
theorem dX11_hopper_7 : decode cX11_hopper 7 = .ok (.iload_n 2, 1) := by decide +kernel
theorem dX11_hopper_8 : decode cX11_hopper 8 = .ok (.ifCond .lt 8, 3) := by decide +kernel
theorem dX11_hopper_11 : decode cX11_hopper 11 = .ok (.iload_n 2, 1) := by decide +kernel
theorem dX11_hopper_12 : decode cX11_hopper 12 = .ok (.iconst 2, 1) := by decide +kernel
theorem dX11_hopper_13 : decode cX11_hopper 13 = .ok (.if_icmp .le 11, 3) := by decide +kernel
theorem dX11_hopper_16 : decode cX11_hopper 16 = .ok (.new 159, 3) := by decide +kernel
theorem dX11_hopper_19 : decode cX11_hopper 19 = .ok (.dup, 1) := by decide +kernel
theorem dX11_hopper_20 : decode cX11_hopper 20 = .ok (.invokespecial 161, 3) := by decide +kernel
theorem dX11_hopper_23 : decode cX11_hopper 23 = .ok (.athrow, 1) := by decide +kernel
theorem dX11_hopper_24 : decode cX11_hopper 24 = .ok (.iload_n 2, 1) := by decide +kernel
theorem dX11_hopper_25 : decode cX11_hopper 25 = .ok (.ifCond .ne 13, 3) := by decide +kernel
theorem dX11_hopper_28 : decode cX11_hopper 28 = .ok (.aload_n 0, 1) := by decide +kernel
theorem dX11_hopper_29 : decode cX11_hopper 29 = .ok (.getfield 28, 3) := by decide +kernel
theorem dX11_hopper_32 : decode cX11_hopper 32 = .ok (.getfield 162, 3) := by decide +kernel
theorem dX11_hopper_35 : decode cX11_hopper 35 = .ok (.iload_n 1, 1) := by decide +kernel
theorem dX11_hopper_36 : decode cX11_hopper 36 = .ok (.iaload, 1) := by decide +kernel
theorem dX11_hopper_37 : decode cX11_hopper 37 = .ok (.ireturn, 1) := by decide +kernel
theorem dX11_hopper_38 : decode cX11_hopper 38 = .ok (.iload_n 2, 1) := by decide +kernel
theorem dX11_hopper_39 : decode cX11_hopper 39 = .ok (.iconst 1, 1) := by decide +kernel
theorem dX11_hopper_40 : decode cX11_hopper 40 = .ok (.if_icmp .ne 15, 3) := by decide +kernel
theorem dX11_hopper_43 : decode cX11_hopper 43 = .ok (.aload_n 0, 1) := by decide +kernel
theorem dX11_hopper_44 : decode cX11_hopper 44 = .ok (.getfield 28, 3) := by decide +kernel
theorem dX11_hopper_47 : decode cX11_hopper 47 = .ok (.getfield 165, 3) := by decide +kernel
theorem dX11_hopper_50 : decode cX11_hopper 50 = .ok (.iload_n 1, 1) := by decide +kernel
theorem dX11_hopper_51 : decode cX11_hopper 51 = .ok (.iaload, 1) := by decide +kernel
theorem dX11_hopper_52 : decode cX11_hopper 52 = .ok (.goto 12, 3) := by decide +kernel
theorem dX11_hopper_55 : decode cX11_hopper 55 = .ok (.aload_n 0, 1) := by decide +kernel
theorem dX11_hopper_56 : decode cX11_hopper 56 = .ok (.getfield 28, 3) := by decide +kernel
theorem dX11_hopper_59 : decode cX11_hopper 59 = .ok (.getfield 168, 3) := by decide +kernel
theorem dX11_hopper_62 : decode cX11_hopper 62 = .ok (.iload_n 1, 1) := by decide +kernel
theorem dX11_hopper_63 : decode cX11_hopper 63 = .ok (.iaload, 1) := by decide +kernel
theorem dX11_hopper_64 : decode cX11_hopper 64 = .ok (.ireturn, 1) := by decide +kernel
theorem dX11_run_0 : decode cX11_run 0 = .ok (.iload_n 1, 1) := by decide +kernel
theorem dX11_run_1 : decode cX11_run 1 = .ok (.invokestatic 155, 3) := by decide +kernel
theorem dX11_run_4 : decode cX11_run 4 = .ok (.ifCond .eq 15, 3) := by decide +kernel
theorem dX11_run_7 : decode cX11_run 7 = .ok (.iload_n 2, 1) := by decide +kernel
theorem dX11_run_8 : decode cX11_run 8 = .ok (.iconst 1, 1) := by decide +kernel
theorem dX11_run_9 : decode cX11_run 9 = .ok (.if_icmp .lt 10, 3) := by decide +kernel
theorem dX11_run_12 : decode cX11_run 12 = .ok (.iload_n 2, 1) := by decide +kernel
theorem dX11_run_13 : decode cX11_run 13 = .ok (.sipush 200, 3) := by decide +kernel
theorem dX11_run_16 : decode cX11_run 16 = .ok (.if_icmp .le 5, 3) := by decide +kernel
theorem dX11_run_19 : decode cX11_run 19 = .ok (.iconst (-1), 1) := by decide +kernel
theorem dX11_run_20 : decode cX11_run 20 = .ok (.ireturn, 1) := by decide +kernel
theorem dX11_run_21 : decode cX11_run 21 = .ok (.iload_n 1, 1) := by decide +kernel
theorem dX11_run_22 : decode cX11_run 22 = .ok (.istore_n 3, 1) := by decide +kernel
theorem dX11_run_23 : decode cX11_run 23 = .ok (.iconst 0, 1) := by decide +kernel
theorem dX11_run_24 : decode cX11_run 24 = .ok (.istore 4, 2) := by decide +kernel
theorem dX11_run_26 : decode cX11_run 26 = .ok (.iload 4, 2) := by decide +kernel
theorem dX11_run_28 : decode cX11_run 28 = .ok (.iload_n 2, 1) := by decide +kernel
theorem dX11_run_29 : decode cX11_run 29 = .ok (.if_icmp .ge 65, 3) := by decide +kernel
theorem dX11_run_32 : decode cX11_run 32 = .ok (.aload_n 0, 1) := by decide +kernel
theorem dX11_run_33 : decode cX11_run 33 = .ok (.getfield 28, 3) := by decide +kernel
theorem dX11_run_36 : decode cX11_run 36 = .ok (.getfield 168, 3) := by decide +kernel
theorem dX11_run_39 : decode cX11_run 39 = .ok (.iload_n 3, 1) := by decide +kernel
theorem dX11_run_40 : decode cX11_run 40 = .ok (.iaload, 1) := by decide +kernel
theorem dX11_run_41 : decode cX11_run 41 = .ok (.ifCond .ne 5, 3) := by decide +kernel
theorem dX11_run_44 : decode cX11_run 44 = .ok (.iconst 5, 1) := by decide +kernel
theorem dX11_run_45 : decode cX11_run 45 = .ok (.ireturn, 1) := by decide +kernel
theorem dX11_run_46 : decode cX11_run 46 = .ok (.aload_n 0, 1) := by decide +kernel
theorem dX11_run_47 : decode cX11_run 47 = .ok (.iload_n 3, 1) := by decide +kernel
theorem dX11_run_48 : decode cX11_run 48 = .ok (.invokevirtual 171, 3) := by decide +kernel
theorem dX11_run_51 : decode cX11_run 51 = .ok (.istore 5, 2) := by decide +kernel
theorem dX11_run_53 : decode cX11_run 53 = .ok (.iload 5, 2) := by decide +kernel
theorem dX11_run_55 : decode cX11_run 55 = .ok (.sipush 256, 3) := by decide +kernel
theorem dX11_run_58 : decode cX11_run 58 = .ok (.if_icmp .lt 12, 3) := by decide +kernel
theorem dX11_run_61 : decode cX11_run 61 = .ok (.iconst 1, 1) := by decide +kernel
theorem dX11_run_62 : decode cX11_run 62 = .ok (.iload 5, 2) := by decide +kernel
theorem dX11_run_64 : decode cX11_run 64 = .ok (.sipush 256, 3) := by decide +kernel
theorem dX11_run_67 : decode cX11_run 67 = .ok (.idiv, 1) := by decide +kernel
theorem dX11_run_68 : decode cX11_run 68 = .ok (.iadd, 1) := by decide +kernel
theorem dX11_run_69 : decode cX11_run 69 = .ok (.ireturn, 1) := by decide +kernel
theorem dX11_run_70 : decode cX11_run 70 = .ok (.aload_n 0, 1) := by decide +kernel
theorem dX11_run_71 : decode cX11_run 71 = .ok (.getfield 28, 3) := by decide +kernel
theorem dX11_run_74 : decode cX11_run 74 = .ok (.getfield 152, 3) := by decide +kernel
theorem dX11_run_77 : decode cX11_run 77 = .ok (.iload 5, 2) := by decide +kernel
theorem dX11_run_79 : decode cX11_run 79 = .ok (.iaload, 1) := by decide +kernel
theorem dX11_run_80 : decode cX11_run 80 = .ok (.istore_n 3, 1) := by decide +kernel
theorem dX11_run_81 : decode cX11_run 81 = .ok (.iload_n 3, 1) := by decide +kernel
theorem dX11_run_82 : decode cX11_run 82 = .ok (.iconst (-1), 1) := by decide +kernel
theorem dX11_run_83 : decode cX11_run 83 = .ok (.if_icmp .ne 5, 3) := by decide +kernel
theorem dX11_run_86 : decode cX11_run 86 = .ok (.iconst 1, 1) := by decide +kernel
theorem dX11_run_87 : decode cX11_run 87 = .ok (.ireturn, 1) := by decide +kernel
theorem dX11_run_88 : decode cX11_run 88 = .ok (.iinc 4 1, 3) := by decide +kernel
theorem dX11_run_91 : decode cX11_run 91 = .ok (.goto (-65), 3) := by decide +kernel
theorem dX11_run_94 : decode cX11_run 94 = .ok (.iconst 0, 1) := by decide +kernel
theorem dX11_run_95 : decode cX11_run 95 = .ok (.ireturn, 1) := by decide +kernel
theorem dX11_logged_0 : decode cX11_logged 0 = .ok (.aload_n 0, 1) := by decide +kernel
theorem dX11_logged_1 : decode cX11_logged 1 = .ok (.getfield 59, 3) := by decide +kernel
theorem dX11_logged_4 : decode cX11_logged 4 = .ok (.iload_n 1, 1) := by decide +kernel
theorem dX11_logged_5 : decode cX11_logged 5 = .ok (.invokevirtual 174, 3) := by decide +kernel
theorem dX11_logged_8 : decode cX11_logged 8 = .ok (.ireturn, 1) := by decide +kernel
theorem dX11_round_0 : decode cX11_round 0 = .ok (.iload_n 1, 1) := by decide +kernel
theorem dX11_round_1 : decode cX11_round 1 = .ok (.invokestatic 155, 3) := by decide +kernel
theorem dX11_round_4 : decode cX11_round 4 = .ok (.ifCond .eq 12, 3) := by decide +kernel
theorem dX11_round_7 : decode cX11_round 7 = .ok (.iload_n 2, 1) := by decide +kernel
theorem dX11_round_8 : decode cX11_round 8 = .ok (.ifCond .lt 8, 3) := by decide +kernel
theorem dX11_round_11 : decode cX11_round 11 = .ok (.iload_n 2, 1) := by decide +kernel
theorem dX11_round_12 : decode cX11_round 12 = .ok (.iconst 1, 1) := by decide +kernel
theorem dX11_round_13 : decode cX11_round 13 = .ok (.if_icmp .le 5, 3) := by decide +kernel
theorem dX11_round_16 : decode cX11_round 16 = .ok (.iconst (-1), 1) := by decide +kernel
theorem dX11_round_17 : decode cX11_round 17 = .ok (.ireturn, 1) := by decide +kernel
theorem dX11_round_18 : decode cX11_round 18 = .ok (.aload_n 0, 1) := by decide +kernel
theorem dX11_round_19 : decode cX11_round 19 = .ok (.getfield 73, 3) := by decide +kernel
theorem dX11_round_22 : decode cX11_round 22 = .ok (.aload_n 0, 1) := by decide +kernel
theorem dX11_round_23 : decode cX11_round 23 = .ok (.getfield 28, 3) := by decide +kernel
theorem dX11_round_26 : decode cX11_round 26 = .ok (.iload_n 1, 1) := by decide +kernel
theorem dX11_round_27 : decode cX11_round 27 = .ok (.aload_n 0, 1) := by decide +kernel
theorem dX11_round_28 : decode cX11_round 28 = .ok (.getfield 66, 3) := by decide +kernel
theorem dX11_round_31 : decode cX11_round 31 = .ok (.invokevirtual 177, 3) := by decide +kernel
theorem dX11_round_34 : decode cX11_round 34 = .ok (.iload_n 2, 1) := by decide +kernel
theorem dX11_round_35 : decode cX11_round 35 = .ok (.ifCond .ne 13, 3) := by decide +kernel
theorem dX11_round_38 : decode cX11_round 38 = .ok (.aload_n 0, 1) := by decide +kernel
theorem dX11_round_39 : decode cX11_round 39 = .ok (.getfield 73, 3) := by decide +kernel
theorem dX11_round_42 : decode cX11_round 42 = .ok (.getfield 181, 3) := by decide +kernel
theorem dX11_round_45 : decode cX11_round 45 = .ok (.goto 10, 3) := by decide +kernel
theorem dX11_round_48 : decode cX11_round 48 = .ok (.aload_n 0, 1) := by decide +kernel
theorem dX11_round_49 : decode cX11_round 49 = .ok (.getfield 73, 3) := by decide +kernel
theorem dX11_round_52 : decode cX11_round 52 = .ok (.getfield 184, 3) := by decide +kernel
theorem dX11_round_55 : decode cX11_round 55 = .ok (.ireturn, 1) := by decide +kernel
theorem dX11_shelf_0 : decode cX11_shelf 0 = .ok (.iload_n 1, 1) := by decide +kernel
theorem dX11_shelf_1 : decode cX11_shelf 1 = .ok (.ifCond .lt 21, 3) := by decide +kernel
theorem dX11_shelf_4 : decode cX11_shelf 4 = .ok (.iload_n 1, 1) := by decide +kernel
theorem dX11_shelf_5 : decode cX11_shelf 5 = .ok (.iconst 4, 1) := by decide +kernel
theorem dX11_shelf_6 : decode cX11_shelf 6 = .ok (.if_icmp .ge 16, 3) := by decide +kernel
theorem dX11_shelf_9 : decode cX11_shelf 9 = .ok (.iload_n 2, 1) := by decide +kernel
theorem dX11_shelf_10 : decode cX11_shelf 10 = .ok (.ifCond .eq 14, 3) := by decide +kernel
theorem dX11_shelf_13 : decode cX11_shelf 13 = .ok (.aload_n 0, 1) := by decide +kernel
theorem dX11_shelf_14 : decode cX11_shelf 14 = .ok (.getfield 52, 3) := by decide +kernel
theorem dX11_shelf_17 : decode cX11_shelf 17 = .ok (.iload_n 1, 1) := by decide +kernel
theorem dX11_shelf_18 : decode cX11_shelf 18 = .ok (.baload, 1) := by decide +kernel
theorem dX11_shelf_19 : decode cX11_shelf 19 = .ok (.ifCond .ne 5, 3) := by decide +kernel
theorem dX11_shelf_22 : decode cX11_shelf 22 = .ok (.iconst 0, 1) := by decide +kernel
theorem dX11_shelf_23 : decode cX11_shelf 23 = .ok (.ireturn, 1) := by decide +kernel
theorem dX11_shelf_24 : decode cX11_shelf 24 = .ok (.iload_n 2, 1) := by decide +kernel
theorem dX11_shelf_25 : decode cX11_shelf 25 = .ok (.ifCond .eq 30, 3) := by decide +kernel
theorem dX11_shelf_28 : decode cX11_shelf 28 = .ok (.aload_n 0, 1) := by decide +kernel
theorem dX11_shelf_29 : decode cX11_shelf 29 = .ok (.getfield 28, 3) := by decide +kernel
theorem dX11_shelf_32 : decode cX11_shelf 32 = .ok (.aload_n 0, 1) := by decide +kernel
theorem dX11_shelf_33 : decode cX11_shelf 33 = .ok (.getfield 48, 3) := by decide +kernel
theorem dX11_shelf_36 : decode cX11_shelf 36 = .ok (.iload_n 1, 1) := by decide +kernel
theorem dX11_shelf_37 : decode cX11_shelf 37 = .ok (.aaload, 1) := by decide +kernel
theorem dX11_shelf_38 : decode cX11_shelf 38 = .ok (.invokevirtual 114, 3) := by decide +kernel
theorem dX11_shelf_41 : decode cX11_shelf 41 = .ok (.aload_n 0, 1) := by decide +kernel
theorem dX11_shelf_42 : decode cX11_shelf 42 = .ok (.getfield 44, 3) := by decide +kernel
theorem dX11_shelf_45 : decode cX11_shelf 45 = .ok (.iconst 0, 1) := by decide +kernel
theorem dX11_shelf_46 : decode cX11_shelf 46 = .ok (.putfield 127, 3) := by decide +kernel
theorem dX11_shelf_49 : decode cX11_shelf 49 = .ok (.aload_n 0, 1) := by decide +kernel
theorem dX11_shelf_50 : decode cX11_shelf 50 = .ok (.invokevirtual 124, 3) := by decide +kernel
theorem dX11_shelf_53 : decode cX11_shelf 53 = .ok (.iconst 1, 1) := by decide +kernel
theorem dX11_shelf_54 : decode cX11_shelf 54 = .ok (.ireturn, 1) := by decide +kernel
theorem dX11_shelf_55 : decode cX11_shelf 55 = .ok (.aload_n 0, 1) := by decide +kernel
theorem dX11_shelf_56 : decode cX11_shelf 56 = .ok (.getfield 48, 3) := by decide +kernel
theorem dX11_shelf_59 : decode cX11_shelf 59 = .ok (.iload_n 1, 1) := by decide +kernel
theorem dX11_shelf_60 : decode cX11_shelf 60 = .ok (.aaload, 1) := by decide +kernel
theorem dX11_shelf_61 : decode cX11_shelf 61 = .ok (.aload_n 0, 1) := by decide +kernel
theorem dX11_shelf_62 : decode cX11_shelf 62 = .ok (.getfield 28, 3) := by decide +kernel
theorem dX11_shelf_65 : decode cX11_shelf 65 = .ok (.invokevirtual 114, 3) := by decide +kernel
theorem dX11_shelf_68 : decode cX11_shelf 68 = .ok (.aload_n 0, 1) := by decide +kernel
theorem dX11_shelf_69 : decode cX11_shelf 69 = .ok (.getfield 52, 3) := by decide +kernel
theorem dX11_shelf_72 : decode cX11_shelf 72 = .ok (.iload_n 1, 1) := by decide +kernel
theorem dX11_shelf_73 : decode cX11_shelf 73 = .ok (.iconst 1, 1) := by decide +kernel
theorem dX11_shelf_74 : decode cX11_shelf 74 = .ok (.bastore, 1) := by decide +kernel
theorem dX11_shelf_75 : decode cX11_shelf 75 = .ok (.aload_n 0, 1) := by decide +kernel
theorem dX11_shelf_76 : decode cX11_shelf 76 = .ok (.getfield 80, 3) := by decide +kernel
theorem dX11_shelf_79 : decode cX11_shelf 79 = .ok (.iconst 0, 1) := by decide +kernel
theorem dX11_shelf_80 : decode cX11_shelf 80 = .ok (.putfield 187, 3) := by decide +kernel
theorem dX11_shelf_83 : decode cX11_shelf 83 = .ok (.aload_n 0, 1) := by decide +kernel
theorem dX11_shelf_84 : decode cX11_shelf 84 = .ok (.getfield 94, 3) := by decide +kernel
theorem dX11_shelf_87 : decode cX11_shelf 87 = .ok (.iconst (-1), 1) := by decide +kernel
theorem dX11_shelf_88 : decode cX11_shelf 88 = .ok (.putfield 191, 3) := by decide +kernel
theorem dX11_shelf_91 : decode cX11_shelf 91 = .ok (.iconst 1, 1) := by decide +kernel
theorem dX11_shelf_92 : decode cX11_shelf 92 = .ok (.ireturn, 1) := by decide +kernel
theorem dX11_alike_0 : decode cX11_alike 0 = .ok (.aload_n 0, 1) := by decide +kernel
theorem dX11_alike_1 : decode cX11_alike 1 = .ok (.iload_n 1, 1) := by decide +kernel
theorem dX11_alike_2 : decode cX11_alike 2 = .ok (.invokevirtual 194, 3) := by decide +kernel
theorem dX11_alike_5 : decode cX11_alike 5 = .ok (.ifCond .eq 11, 3) := by decide +kernel
theorem dX11_alike_8 : decode cX11_alike 8 = .ok (.aload_n 0, 1) := by decide +kernel
theorem dX11_alike_9 : decode cX11_alike 9 = .ok (.iload_n 2, 1) := by decide +kernel
theorem dX11_alike_10 : decode cX11_alike 10 = .ok (.invokevirtual 194, 3) := by decide +kernel
theorem dX11_alike_13 : decode cX11_alike 13 = .ok (.ifCond .ne 5, 3) := by decide +kernel
theorem dX11_alike_16 : decode cX11_alike 16 = .ok (.iconst (-1), 1) := by decide +kernel
theorem dX11_alike_17 : decode cX11_alike 17 = .ok (.ireturn, 1) := by decide +kernel
theorem dX11_alike_18 : decode cX11_alike 18 = .ok (.iload_n 1, 1) := by decide +kernel
theorem dX11_alike_19 : decode cX11_alike 19 = .ok (.iload_n 2, 1) := by decide +kernel
theorem dX11_alike_20 : decode cX11_alike 20 = .ok (.if_icmp .ne 5, 3) := by decide +kernel
theorem dX11_alike_23 : decode cX11_alike 23 = .ok (.iconst 0, 1) := by decide +kernel
theorem dX11_alike_24 : decode cX11_alike 24 = .ok (.ireturn, 1) := by decide +kernel
theorem dX11_alike_25 : decode cX11_alike 25 = .ok (.aload_n 0, 1) := by decide +kernel
theorem dX11_alike_26 : decode cX11_alike 26 = .ok (.iload_n 1, 1) := by decide +kernel
theorem dX11_alike_27 : decode cX11_alike 27 = .ok (.iload_n 2, 1) := by decide +kernel
theorem dX11_alike_28 : decode cX11_alike 28 = .ok (.invokevirtual 197, 3) := by decide +kernel
theorem dX11_alike_31 : decode cX11_alike 31 = .ok (.aload_n 0, 1) := by decide +kernel
theorem dX11_alike_32 : decode cX11_alike 32 = .ok (.getfield 80, 3) := by decide +kernel
theorem dX11_alike_35 : decode cX11_alike 35 = .ok (.getfield 201, 3) := by decide +kernel
theorem dX11_alike_38 : decode cX11_alike 38 = .ok (.ireturn, 1) := by decide +kernel
theorem dX11_telling_0 : decode cX11_telling 0 = .ok (.aload_n 0, 1) := by decide +kernel
theorem dX11_telling_1 : decode cX11_telling 1 = .ok (.iload_n 1, 1) := by decide +kernel
theorem dX11_telling_2 : decode cX11_telling 2 = .ok (.invokevirtual 194, 3) := by decide +kernel
theorem dX11_telling_5 : decode cX11_telling 5 = .ok (.ifCond .eq 16, 3) := by decide +kernel
theorem dX11_telling_8 : decode cX11_telling 8 = .ok (.aload_n 0, 1) := by decide +kernel
theorem dX11_telling_9 : decode cX11_telling 9 = .ok (.iload_n 2, 1) := by decide +kernel
theorem dX11_telling_10 : decode cX11_telling 10 = .ok (.invokevirtual 194, 3) := by decide +kernel
theorem dX11_telling_13 : decode cX11_telling 13 = .ok (.ifCond .eq 8, 3) := by decide +kernel
theorem dX11_telling_16 : decode cX11_telling 16 = .ok (.iload_n 1, 1) := by decide +kernel
theorem dX11_telling_17 : decode cX11_telling 17 = .ok (.iload_n 2, 1) := by decide +kernel
theorem dX11_telling_18 : decode cX11_telling 18 = .ok (.if_icmp .ne 5, 3) := by decide +kernel
theorem dX11_telling_21 : decode cX11_telling 21 = .ok (.iconst (-1), 1) := by decide +kernel
theorem dX11_telling_22 : decode cX11_telling 22 = .ok (.ireturn, 1) := by decide +kernel
theorem dX11_telling_23 : decode cX11_telling 23 = .ok (.aload_n 0, 1) := by decide +kernel
theorem dX11_telling_24 : decode cX11_telling 24 = .ok (.iload_n 1, 1) := by decide +kernel
theorem dX11_telling_25 : decode cX11_telling 25 = .ok (.iload_n 2, 1) := by decide +kernel
theorem dX11_telling_26 : decode cX11_telling 26 = .ok (.invokevirtual 197, 3) := by decide +kernel
theorem dX11_telling_29 : decode cX11_telling 29 = .ok (.iload_n 3, 1) := by decide +kernel
theorem dX11_telling_30 : decode cX11_telling 30 = .ok (.ifCond .lt 14, 3) := by decide +kernel
theorem dX11_telling_33 : decode cX11_telling 33 = .ok (.iload_n 3, 1) := by decide +kernel
theorem dX11_telling_34 : decode cX11_telling 34 = .ok (.aload_n 0, 1) := by decide +kernel
theorem dX11_telling_35 : decode cX11_telling 35 = .ok (.getfield 80, 3) := by decide +kernel
theorem dX11_telling_38 : decode cX11_telling 38 = .ok (.getfield 201, 3) := by decide +kernel
theorem dX11_telling_41 : decode cX11_telling 41 = .ok (.if_icmp .lt 7, 3) := by decide +kernel
theorem dX11_telling_44 : decode cX11_telling 44 = .ok (.iconst (-1), 1) := by decide +kernel
theorem dX11_telling_45 : decode cX11_telling 45 = .ok (.goto 12, 3) := by decide +kernel
theorem dX11_telling_48 : decode cX11_telling 48 = .ok (.aload_n 0, 1) := by decide +kernel
theorem dX11_telling_49 : decode cX11_telling 49 = .ok (.getfield 80, 3) := by decide +kernel
theorem dX11_telling_52 : decode cX11_telling 52 = .ok (.getfield 202, 3) := by decide +kernel
theorem dX11_telling_55 : decode cX11_telling 55 = .ok (.iload_n 3, 1) := by decide +kernel
theorem dX11_telling_56 : decode cX11_telling 56 = .ok (.iaload, 1) := by decide +kernel
theorem dX11_telling_57 : decode cX11_telling 57 = .ok (.ireturn, 1) := by decide +kernel
theorem dX11_wish_0 : decode cX11_wish 0 = .ok (.iload_n 1, 1) := by decide +kernel
theorem dX11_wish_1 : decode cX11_wish 1 = .ok (.iload_n 2, 1) := by decide +kernel
theorem dX11_wish_2 : decode cX11_wish 2 = .ok (.invokestatic 133, 3) := by decide +kernel
theorem dX11_wish_5 : decode cX11_wish 5 = .ok (.ifCond .eq 12, 3) := by decide +kernel
theorem dX11_wish_8 : decode cX11_wish 8 = .ok (.iload_n 3, 1) := by decide +kernel
theorem dX11_wish_9 : decode cX11_wish 9 = .ok (.ifCond .lt 8, 3) := by decide +kernel
theorem dX11_wish_12 : decode cX11_wish 12 = .ok (.iload_n 3, 1) := by decide +kernel
theorem dX11_wish_13 : decode cX11_wish 13 = .ok (.iconst 2, 1) := by decide +kernel
theorem dX11_wish_14 : decode cX11_wish 14 = .ok (.if_icmp .le 5, 3) := by decide +kernel
theorem dX11_wish_17 : decode cX11_wish 17 = .ok (.iconst 0, 1) := by decide +kernel
theorem dX11_wish_18 : decode cX11_wish 18 = .ok (.ireturn, 1) := by decide +kernel
theorem dX11_wish_19 : decode cX11_wish 19 = .ok (.iload_n 1, 1) := by decide +kernel
theorem dX11_wish_20 : decode cX11_wish 20 = .ok (.iload_n 2, 1) := by decide +kernel
theorem dX11_wish_21 : decode cX11_wish 21 = .ok (.invokestatic 141, 3) := by decide +kernel
theorem dX11_wish_24 : decode cX11_wish 24 = .ok (.istore 4, 2) := by decide +kernel
theorem dX11_wish_26 : decode cX11_wish 26 = .ok (.iload_n 3, 1) := by decide +kernel
theorem dX11_wish_27 : decode cX11_wish 27 = .ok (.iconst 2, 1) := by decide +kernel
theorem dX11_wish_28 : decode cX11_wish 28 = .ok (.if_icmp .ne 19, 3) := by decide +kernel
theorem dX11_wish_31 : decode cX11_wish 31 = .ok (.aload_n 0, 1) := by decide +kernel
theorem dX11_wish_32 : decode cX11_wish 32 = .ok (.getfield 87, 3) := by decide +kernel
theorem dX11_wish_35 : decode cX11_wish 35 = .ok (.iload 4, 2) := by decide +kernel
theorem dX11_wish_37 : decode cX11_wish 37 = .ok (.aload_n 0, 1) := by decide +kernel
theorem dX11_wish_38 : decode cX11_wish 38 = .ok (.getfield 28, 3) := by decide +kernel
theorem dX11_wish_41 : decode cX11_wish 41 = .ok (.invokevirtual 205, 3) := by decide +kernel
theorem dX11_wish_44 : decode cX11_wish 44 = .ok (.goto 17, 3) := by decide +kernel
theorem dX11_wish_47 : decode cX11_wish 47 = .ok (.aload_n 0, 1) := by decide +kernel
theorem dX11_wish_48 : decode cX11_wish 48 = .ok (.getfield 87, 3) := by decide +kernel
theorem dX11_wish_51 : decode cX11_wish 51 = .ok (.iload 4, 2) := by decide +kernel
theorem dX11_wish_53 : decode cX11_wish 53 = .ok (.iload_n 3, 1) := by decide +kernel
theorem dX11_wish_54 : decode cX11_wish 54 = .ok (.aload_n 0, 1) := by decide +kernel
theorem dX11_wish_55 : decode cX11_wish 55 = .ok (.getfield 28, 3) := by decide +kernel
theorem dX11_wish_58 : decode cX11_wish 58 = .ok (.invokevirtual 209, 3) := by decide +kernel
theorem dX11_wish_61 : decode cX11_wish 61 = .ok (.ireturn, 1) := by decide +kernel
theorem dX11_way_0 : decode cX11_way 0 = .ok (.aload_n 0, 1) := by decide +kernel
theorem dX11_way_1 : decode cX11_way 1 = .ok (.getfield 87, 3) := by decide +kernel
theorem dX11_way_4 : decode cX11_way 4 = .ok (.aload_n 0, 1) := by decide +kernel
theorem dX11_way_5 : decode cX11_way 5 = .ok (.getfield 28, 3) := by decide +kernel
theorem dX11_way_8 : decode cX11_way 8 = .ok (.aload_n 0, 1) := by decide +kernel
theorem dX11_way_9 : decode cX11_way 9 = .ok (.getfield 66, 3) := by decide +kernel
theorem dX11_way_12 : decode cX11_way 12 = .ok (.invokevirtual 213, 3) := by decide +kernel
theorem dX11_way_15 : decode cX11_way 15 = .ok (.aload_n 0, 1) := by decide +kernel
theorem dX11_way_16 : decode cX11_way 16 = .ok (.getfield 87, 3) := by decide +kernel
theorem dX11_way_19 : decode cX11_way 19 = .ok (.getfield 216, 3) := by decide +kernel
theorem dX11_way_22 : decode cX11_way 22 = .ok (.ireturn, 1) := by decide +kernel
theorem dX11_step_0 : decode cX11_step 0 = .ok (.aload_n 0, 1) := by decide +kernel
theorem dX11_step_1 : decode cX11_step 1 = .ok (.getfield 87, 3) := by decide +kernel
theorem dX11_step_4 : decode cX11_step 4 = .ok (.aload_n 0, 1) := by decide +kernel
theorem dX11_step_5 : decode cX11_step 5 = .ok (.getfield 28, 3) := by decide +kernel
theorem dX11_step_8 : decode cX11_step 8 = .ok (.aload_n 0, 1) := by decide +kernel
theorem dX11_step_9 : decode cX11_step 9 = .ok (.getfield 66, 3) := by decide +kernel
theorem dX11_step_12 : decode cX11_step 12 = .ok (.invokevirtual 213, 3) := by decide +kernel
theorem dX11_step_15 : decode cX11_step 15 = .ok (.iload_n 1, 1) := by decide +kernel
theorem dX11_step_16 : decode cX11_step 16 = .ok (.ifCond .lt 14, 3) := by decide +kernel
theorem dX11_step_19 : decode cX11_step 19 = .ok (.iload_n 1, 1) := by decide +kernel
theorem dX11_step_20 : decode cX11_step 20 = .ok (.aload_n 0, 1) := by decide +kernel
theorem dX11_step_21 : decode cX11_step 21 = .ok (.getfield 87, 3) := by decide +kernel
theorem dX11_step_24 : decode cX11_step 24 = .ok (.getfield 216, 3) := by decide +kernel
theorem dX11_step_27 : decode cX11_step 27 = .ok (.if_icmp .lt 7, 3) := by decide +kernel
theorem dX11_step_30 : decode cX11_step 30 = .ok (.iconst (-1), 1) := by decide +kernel
theorem dX11_step_31 : decode cX11_step 31 = .ok (.goto 12, 3) := by decide +kernel
theorem dX11_step_34 : decode cX11_step 34 = .ok (.aload_n 0, 1) := by decide +kernel
theorem dX11_step_35 : decode cX11_step 35 = .ok (.getfield 87, 3) := by decide +kernel
theorem dX11_step_38 : decode cX11_step 38 = .ok (.getfield 217, 3) := by decide +kernel
theorem dX11_step_41 : decode cX11_step 41 = .ok (.iload_n 1, 1) := by decide +kernel
theorem dX11_step_42 : decode cX11_step 42 = .ok (.iaload, 1) := by decide +kernel
theorem dX11_step_43 : decode cX11_step 43 = .ok (.ireturn, 1) := by decide +kernel
theorem dX11_sight_0 : decode cX11_sight 0 = .ok (.iload_n 1, 1) := by decide +kernel
theorem dX11_sight_1 : decode cX11_sight 1 = .ok (.iconst (-1), 1) := by decide +kernel
theorem dX11_sight_2 : decode cX11_sight 2 = .ok (.if_icmp .ne 12, 3) := by decide +kernel
theorem dX11_sight_5 : decode cX11_sight 5 = .ok (.aload_n 0, 1) := by decide +kernel
theorem dX11_sight_6 : decode cX11_sight 6 = .ok (.getfield 94, 3) := by decide +kernel
theorem dX11_sight_9 : decode cX11_sight 9 = .ok (.invokevirtual 218, 3) := by decide +kernel
theorem dX11_sight_12 : decode cX11_sight 12 = .ok (.iconst 0, 1) := by decide +kernel
theorem dX11_sight_13 : decode cX11_sight 13 = .ok (.ireturn, 1) := by decide +kernel
theorem dX11_sight_14 : decode cX11_sight 14 = .ok (.iload_n 1, 1) := by decide +kernel
theorem dX11_sight_15 : decode cX11_sight 15 = .ok (.invokestatic 155, 3) := by decide +kernel
theorem dX11_sight_18 : decode cX11_sight 18 = .ok (.ifCond .eq 15, 3) := by decide +kernel
theorem dX11_sight_21 : decode cX11_sight 21 = .ok (.aload_n 0, 1) := by decide +kernel
theorem dX11_sight_22 : decode cX11_sight 22 = .ok (.getfield 94, 3) := by decide +kernel
theorem dX11_sight_25 : decode cX11_sight 25 = .ok (.iload_n 1, 1) := by decide +kernel
theorem dX11_sight_26 : decode cX11_sight 26 = .ok (.iload_n 2, 1) := by decide +kernel
theorem dX11_sight_27 : decode cX11_sight 27 = .ok (.invokevirtual 221, 3) := by decide +kernel
theorem dX11_sight_30 : decode cX11_sight 30 = .ok (.goto 4, 3) := by decide +kernel
theorem dX11_sight_33 : decode cX11_sight 33 = .ok (.iconst (-1), 1) := by decide +kernel
theorem dX11_sight_34 : decode cX11_sight 34 = .ok (.ireturn, 1) := by decide +kernel
theorem dX11_suspect_0 : decode cX11_suspect 0 = .ok (.aload_n 0, 1) := by decide +kernel
theorem dX11_suspect_1 : decode cX11_suspect 1 = .ok (.iload_n 1, 1) := by decide +kernel
theorem dX11_suspect_2 : decode cX11_suspect 2 = .ok (.invokevirtual 194, 3) := by decide +kernel
theorem dX11_suspect_5 : decode cX11_suspect 5 = .ok (.ifCond .ne 5, 3) := by decide +kernel
theorem dX11_suspect_8 : decode cX11_suspect 8 = .ok (.iconst (-1), 1) := by decide +kernel
theorem dX11_suspect_9 : decode cX11_suspect 9 = .ok (.ireturn, 1) := by decide +kernel
theorem dX11_suspect_10 : decode cX11_suspect 10 = .ok (.aload_n 0, 1) := by decide +kernel
theorem dX11_suspect_11 : decode cX11_suspect 11 = .ok (.getfield 94, 3) := by decide +kernel
theorem dX11_suspect_14 : decode cX11_suspect 14 = .ok (.aload_n 0, 1) := by decide +kernel
theorem dX11_suspect_15 : decode cX11_suspect 15 = .ok (.getfield 48, 3) := by decide +kernel
theorem dX11_suspect_18 : decode cX11_suspect 18 = .ok (.iload_n 1, 1) := by decide +kernel
theorem dX11_suspect_19 : decode cX11_suspect 19 = .ok (.aaload, 1) := by decide +kernel
theorem dX11_suspect_20 : decode cX11_suspect 20 = .ok (.iload_n 1, 1) := by decide +kernel
theorem dX11_suspect_21 : decode cX11_suspect 21 = .ok (.invokevirtual 224, 3) := by decide +kernel
theorem dX11_suspect_24 : decode cX11_suspect 24 = .ok (.iload_n 2, 1) := by decide +kernel
theorem dX11_suspect_25 : decode cX11_suspect 25 = .ok (.ifCond .lt 14, 3) := by decide +kernel
theorem dX11_suspect_28 : decode cX11_suspect 28 = .ok (.iload_n 2, 1) := by decide +kernel
theorem dX11_suspect_29 : decode cX11_suspect 29 = .ok (.aload_n 0, 1) := by decide +kernel
theorem dX11_suspect_30 : decode cX11_suspect 30 = .ok (.getfield 94, 3) := by decide +kernel
theorem dX11_suspect_33 : decode cX11_suspect 33 = .ok (.getfield 228, 3) := by decide +kernel
theorem dX11_suspect_36 : decode cX11_suspect 36 = .ok (.if_icmp .lt 7, 3) := by decide +kernel
theorem dX11_suspect_39 : decode cX11_suspect 39 = .ok (.iconst (-1), 1) := by decide +kernel
theorem dX11_suspect_40 : decode cX11_suspect 40 = .ok (.goto 12, 3) := by decide +kernel
theorem dX11_suspect_43 : decode cX11_suspect 43 = .ok (.aload_n 0, 1) := by decide +kernel
theorem dX11_suspect_44 : decode cX11_suspect 44 = .ok (.getfield 94, 3) := by decide +kernel
theorem dX11_suspect_47 : decode cX11_suspect 47 = .ok (.getfield 231, 3) := by decide +kernel
theorem dX11_suspect_50 : decode cX11_suspect 50 = .ok (.iload_n 2, 1) := by decide +kernel
theorem dX11_suspect_51 : decode cX11_suspect 51 = .ok (.iaload, 1) := by decide +kernel
theorem dX11_suspect_52 : decode cX11_suspect 52 = .ok (.ireturn, 1) := by decide +kernel
theorem dX11_test_0 : decode cX11_test 0 = .ok (.aload_n 0, 1) := by decide +kernel
theorem dX11_test_1 : decode cX11_test 1 = .ok (.iload_n 1, 1) := by decide +kernel
theorem dX11_test_2 : decode cX11_test 2 = .ok (.invokevirtual 194, 3) := by decide +kernel
theorem dX11_test_5 : decode cX11_test 5 = .ok (.ifCond .ne 5, 3) := by decide +kernel
theorem dX11_test_8 : decode cX11_test 8 = .ok (.iconst (-1), 1) := by decide +kernel
theorem dX11_test_9 : decode cX11_test 9 = .ok (.ireturn, 1) := by decide +kernel
theorem dX11_test_10 : decode cX11_test 10 = .ok (.aload_n 0, 1) := by decide +kernel
theorem dX11_test_11 : decode cX11_test 11 = .ok (.getfield 94, 3) := by decide +kernel
theorem dX11_test_14 : decode cX11_test 14 = .ok (.aload_n 0, 1) := by decide +kernel
theorem dX11_test_15 : decode cX11_test 15 = .ok (.getfield 48, 3) := by decide +kernel
theorem dX11_test_18 : decode cX11_test 18 = .ok (.iload_n 1, 1) := by decide +kernel
theorem dX11_test_19 : decode cX11_test 19 = .ok (.aaload, 1) := by decide +kernel
theorem dX11_test_20 : decode cX11_test 20 = .ok (.iload_n 1, 1) := by decide +kernel
theorem dX11_test_21 : decode cX11_test 21 = .ok (.invokevirtual 224, 3) := by decide +kernel
theorem dX11_test_24 : decode cX11_test 24 = .ok (.aload_n 0, 1) := by decide +kernel
theorem dX11_test_25 : decode cX11_test 25 = .ok (.getfield 94, 3) := by decide +kernel
theorem dX11_test_28 : decode cX11_test 28 = .ok (.aload_n 0, 1) := by decide +kernel
theorem dX11_test_29 : decode cX11_test 29 = .ok (.getfield 48, 3) := by decide +kernel
theorem dX11_test_32 : decode cX11_test 32 = .ok (.iload_n 1, 1) := by decide +kernel
theorem dX11_test_33 : decode cX11_test 33 = .ok (.aaload, 1) := by decide +kernel
theorem dX11_test_34 : decode cX11_test 34 = .ok (.invokevirtual 234, 3) := by decide +kernel
theorem dX11_test_37 : decode cX11_test 37 = .ok (.ireturn, 1) := by decide +kernel
theorem dX11_tries_0 : decode cX11_tries 0 = .ok (.iload_n 1, 1) := by decide +kernel
theorem dX11_tries_1 : decode cX11_tries 1 = .ok (.invokestatic 155, 3) := by decide +kernel
theorem dX11_tries_4 : decode cX11_tries 4 = .ok (.ifCond .ne 11, 3) := by decide +kernel
theorem dX11_tries_7 : decode cX11_tries 7 = .ok (.new 159, 3) := by decide +kernel
theorem dX11_tries_10 : decode cX11_tries 10 = .ok (.dup, 1) := by decide +kernel
theorem dX11_tries_11 : decode cX11_tries 11 = .ok (.invokespecial 161, 3) := by decide +kernel
theorem dX11_tries_14 : decode cX11_tries 14 = .ok (.athrow, 1) := by decide +kernel
theorem dX11_tries_15 : decode cX11_tries 15 = .ok (.aload_n 0, 1) := by decide +kernel
theorem dX11_tries_16 : decode cX11_tries 16 = .ok (.getfield 28, 3) := by decide +kernel
theorem dX11_tries_19 : decode cX11_tries 19 = .ok (.aload_n 0, 1) := by decide +kernel
theorem dX11_tries_20 : decode cX11_tries 20 = .ok (.getfield 28, 3) := by decide +kernel
theorem dX11_tries_23 : decode cX11_tries 23 = .ok (.getfield 238, 3) := by decide +kernel
theorem dX11_tries_26 : decode cX11_tries 26 = .ok (.iload_n 1, 1) := by decide +kernel
theorem dX11_tries_27 : decode cX11_tries 27 = .ok (.lconst 0, 1) := by decide +kernel
theorem dX11_tries_28 : decode cX11_tries 28 = .ok (.invokevirtual 242, 3) := by decide +kernel
theorem dX11_tries_31 : decode cX11_tries 31 = .ok (.ireturn, 1) := by decide +kernel
theorem dX11_count_0 : decode cX11_count 0 = .ok (.iload_n 1, 1) := by decide +kernel
theorem dX11_count_1 : decode cX11_count 1 = .ok (.tableswitch 135 0 9 #[55, 63, 71, 79, 87, 95, 103, 111, 119, 127], 55) := by decide +kernel
theorem dX11_count_56 : decode cX11_count 56 = .ok (.aload_n 0, 1) := by decide +kernel
theorem dX11_count_57 : decode cX11_count 57 = .ok (.getfield 28, 3) := by decide +kernel
theorem dX11_count_60 : decode cX11_count 60 = .ok (.getfield 246, 3) := by decide +kernel
theorem dX11_count_63 : decode cX11_count 63 = .ok (.ireturn, 1) := by decide +kernel
theorem dX11_count_64 : decode cX11_count 64 = .ok (.aload_n 0, 1) := by decide +kernel
theorem dX11_count_65 : decode cX11_count 65 = .ok (.getfield 28, 3) := by decide +kernel
theorem dX11_count_68 : decode cX11_count 68 = .ok (.getfield 249, 3) := by decide +kernel
theorem dX11_count_71 : decode cX11_count 71 = .ok (.ireturn, 1) := by decide +kernel
theorem dX11_count_72 : decode cX11_count 72 = .ok (.aload_n 0, 1) := by decide +kernel
theorem dX11_count_73 : decode cX11_count 73 = .ok (.getfield 28, 3) := by decide +kernel
theorem dX11_count_76 : decode cX11_count 76 = .ok (.invokevirtual 252, 3) := by decide +kernel
theorem dX11_count_79 : decode cX11_count 79 = .ok (.ireturn, 1) := by decide +kernel
theorem dX11_count_80 : decode cX11_count 80 = .ok (.aload_n 0, 1) := by decide +kernel
theorem dX11_count_81 : decode cX11_count 81 = .ok (.getfield 59, 3) := by decide +kernel
theorem dX11_count_84 : decode cX11_count 84 = .ok (.getfield 255, 3) := by decide +kernel
theorem dX11_count_87 : decode cX11_count 87 = .ok (.ireturn, 1) := by decide +kernel
theorem dX11_count_88 : decode cX11_count 88 = .ok (.aload_n 0, 1) := by decide +kernel
theorem dX11_count_89 : decode cX11_count 89 = .ok (.getfield 44, 3) := by decide +kernel
theorem dX11_count_92 : decode cX11_count 92 = .ok (.getfield 127, 3) := by decide +kernel
theorem dX11_count_95 : decode cX11_count 95 = .ok (.ireturn, 1) := by decide +kernel
theorem dX11_count_96 : decode cX11_count 96 = .ok (.aload_n 0, 1) := by decide +kernel
theorem dX11_count_97 : decode cX11_count 97 = .ok (.getfield 10, 3) := by decide +kernel
theorem dX11_count_100 : decode cX11_count 100 = .ok (.getfield 102, 3) := by decide +kernel
theorem dX11_count_103 : decode cX11_count 103 = .ok (.ireturn, 1) := by decide +kernel
theorem dX11_count_104 : decode cX11_count 104 = .ok (.aload_n 0, 1) := by decide +kernel
theorem dX11_count_105 : decode cX11_count 105 = .ok (.getfield 87, 3) := by decide +kernel
theorem dX11_count_108 : decode cX11_count 108 = .ok (.getfield 258, 3) := by decide +kernel
theorem dX11_count_111 : decode cX11_count 111 = .ok (.ireturn, 1) := by decide +kernel
theorem dX11_count_112 : decode cX11_count 112 = .ok (.aload_n 0, 1) := by decide +kernel
theorem dX11_count_113 : decode cX11_count 113 = .ok (.getfield 94, 3) := by decide +kernel
theorem dX11_count_116 : decode cX11_count 116 = .ok (.getfield 261, 3) := by decide +kernel
theorem dX11_count_119 : decode cX11_count 119 = .ok (.ireturn, 1) := by decide +kernel
theorem dX11_count_120 : decode cX11_count 120 = .ok (.aload_n 0, 1) := by decide +kernel
theorem dX11_count_121 : decode cX11_count 121 = .ok (.getfield 28, 3) := by decide +kernel
theorem dX11_count_124 : decode cX11_count 124 = .ok (.invokevirtual 264, 3) := by decide +kernel
theorem dX11_count_127 : decode cX11_count 127 = .ok (.ireturn, 1) := by decide +kernel
theorem dX11_count_128 : decode cX11_count 128 = .ok (.aload_n 0, 1) := by decide +kernel
theorem dX11_count_129 : decode cX11_count 129 = .ok (.getfield 37, 3) := by decide +kernel
theorem dX11_count_132 : decode cX11_count 132 = .ok (.getfield 267, 3) := by decide +kernel
theorem dX11_count_135 : decode cX11_count 135 = .ok (.ireturn, 1) := by decide +kernel
theorem dX11_count_136 : decode cX11_count 136 = .ok (.iconst (-1), 1) := by decide +kernel
theorem dX11_count_137 : decode cX11_count 137 = .ok (.ireturn, 1) := by decide +kernel
theorem dX11_isPlace_0 : decode cX11_isPlace 0 = .ok (.iload_n 0, 1) := by decide +kernel
theorem dX11_isPlace_1 : decode cX11_isPlace 1 = .ok (.ifCond .lt 23, 3) := by decide +kernel
theorem dX11_isPlace_4 : decode cX11_isPlace 4 = .ok (.iload_n 0, 1) := by decide +kernel
theorem dX11_isPlace_5 : decode cX11_isPlace 5 = .ok (.bipush 13, 2) := by decide +kernel
theorem dX11_isPlace_7 : decode cX11_isPlace 7 = .ok (.if_icmp .ge 17, 3) := by decide +kernel
theorem dX11_isPlace_10 : decode cX11_isPlace 10 = .ok (.iload_n 1, 1) := by decide +kernel
theorem dX11_isPlace_11 : decode cX11_isPlace 11 = .ok (.ifCond .lt 13, 3) := by decide +kernel
theorem dX11_isPlace_14 : decode cX11_isPlace 14 = .ok (.iload_n 1, 1) := by decide +kernel
theorem dX11_isPlace_15 : decode cX11_isPlace 15 = .ok (.bipush 12, 2) := by decide +kernel
theorem dX11_isPlace_17 : decode cX11_isPlace 17 = .ok (.if_icmp .ge 7, 3) := by decide +kernel
theorem dX11_isPlace_20 : decode cX11_isPlace 20 = .ok (.iconst 1, 1) := by decide +kernel
theorem dX11_isPlace_21 : decode cX11_isPlace 21 = .ok (.goto 4, 3) := by decide +kernel
theorem dX11_isPlace_24 : decode cX11_isPlace 24 = .ok (.iconst 0, 1) := by decide +kernel
theorem dX11_isPlace_25 : decode cX11_isPlace 25 = .ok (.ireturn, 1) := by decide +kernel
theorem dX11_placeOf_0 : decode cX11_placeOf 0 = .ok (.bipush 13, 2) := by decide +kernel
theorem dX11_placeOf_2 : decode cX11_placeOf 2 = .ok (.iload_n 1, 1) := by decide +kernel
theorem dX11_placeOf_3 : decode cX11_placeOf 3 = .ok (.imul, 1) := by decide +kernel
theorem dX11_placeOf_4 : decode cX11_placeOf 4 = .ok (.iload_n 0, 1) := by decide +kernel
theorem dX11_placeOf_5 : decode cX11_placeOf 5 = .ok (.iadd, 1) := by decide +kernel
theorem dX11_placeOf_6 : decode cX11_placeOf 6 = .ok (.ireturn, 1) := by decide +kernel
theorem dX11_isHopper_0 : decode cX11_isHopper 0 = .ok (.iload_n 0, 1) := by decide +kernel
theorem dX11_isHopper_1 : decode cX11_isHopper 1 = .ok (.ifCond .lt 12, 3) := by decide +kernel
theorem dX11_isHopper_4 : decode cX11_isHopper 4 = .ok (.iload_n 0, 1) := by decide +kernel
theorem dX11_isHopper_5 : decode cX11_isHopper 5 = .ok (.iconst 4, 1) := by decide +kernel
theorem dX11_isHopper_6 : decode cX11_isHopper 6 = .ok (.if_icmp .ge 7, 3) := by decide +kernel
theorem dX11_isHopper_9 : decode cX11_isHopper 9 = .ok (.iconst 1, 1) := by decide +kernel
theorem dX11_isHopper_10 : decode cX11_isHopper 10 = .ok (.goto 4, 3) := by decide +kernel
theorem dX11_isHopper_13 : decode cX11_isHopper 13 = .ok (.iconst 0, 1) := by decide +kernel
theorem dX11_isHopper_14 : decode cX11_isHopper 14 = .ok (.ireturn, 1) := by decide +kernel
theorem dX11_isFilled_0 : decode cX11_isFilled 0 = .ok (.iload_n 1, 1) := by decide +kernel
theorem dX11_isFilled_1 : decode cX11_isFilled 1 = .ok (.ifCond .lt 21, 3) := by decide +kernel
theorem dX11_isFilled_4 : decode cX11_isFilled 4 = .ok (.iload_n 1, 1) := by decide +kernel
theorem dX11_isFilled_5 : decode cX11_isFilled 5 = .ok (.iconst 4, 1) := by decide +kernel
theorem dX11_isFilled_6 : decode cX11_isFilled 6 = .ok (.if_icmp .ge 16, 3) := by decide +kernel
theorem dX11_isFilled_9 : decode cX11_isFilled 9 = .ok (.aload_n 0, 1) := by decide +kernel
theorem dX11_isFilled_10 : decode cX11_isFilled 10 = .ok (.getfield 52, 3) := by decide +kernel
theorem dX11_isFilled_13 : decode cX11_isFilled 13 = .ok (.iload_n 1, 1) := by decide +kernel
theorem dX11_isFilled_14 : decode cX11_isFilled 14 = .ok (.baload, 1) := by decide +kernel
theorem dX11_isFilled_15 : decode cX11_isFilled 15 = .ok (.ifCond .eq 7, 3) := by decide +kernel
theorem dX11_isFilled_18 : decode cX11_isFilled 18 = .ok (.iconst 1, 1) := by decide +kernel
theorem dX11_isFilled_19 : decode cX11_isFilled 19 = .ok (.goto 4, 3) := by decide +kernel
theorem dX11_isFilled_22 : decode cX11_isFilled 22 = .ok (.iconst 0, 1) := by decide +kernel
theorem dX11_isFilled_23 : decode cX11_isFilled 23 = .ok (.ireturn, 1) := by decide +kernel
theorem dX11_forgetSearches_0 : decode cX11_forgetSearches 0 = .ok (.aload_n 0, 1) := by decide +kernel
theorem dX11_forgetSearches_1 : decode cX11_forgetSearches 1 = .ok (.getfield 73, 3) := by decide +kernel
theorem dX11_forgetSearches_4 : decode cX11_forgetSearches 4 = .ok (.iconst (-1), 1) := by decide +kernel
theorem dX11_forgetSearches_5 : decode cX11_forgetSearches 5 = .ok (.putfield 270, 3) := by decide +kernel
theorem dX11_forgetSearches_8 : decode cX11_forgetSearches 8 = .ok (.aload_n 0, 1) := by decide +kernel
theorem dX11_forgetSearches_9 : decode cX11_forgetSearches 9 = .ok (.getfield 87, 3) := by decide +kernel
theorem dX11_forgetSearches_12 : decode cX11_forgetSearches 12 = .ok (.iconst 0, 1) := by decide +kernel
theorem dX11_forgetSearches_13 : decode cX11_forgetSearches 13 = .ok (.putfield 273, 3) := by decide +kernel
theorem dX11_forgetSearches_16 : decode cX11_forgetSearches 16 = .ok (.return_, 1) := by decide +kernel
theorem dX11_compareShelves_0 : decode cX11_compareShelves 0 = .ok (.aload_n 0, 1) := by decide +kernel
theorem dX11_compareShelves_1 : decode cX11_compareShelves 1 = .ok (.getfield 80, 3) := by decide +kernel
theorem dX11_compareShelves_4 : decode cX11_compareShelves 4 = .ok (.aload_n 0, 1) := by decide +kernel
theorem dX11_compareShelves_5 : decode cX11_compareShelves 5 = .ok (.getfield 48, 3) := by decide +kernel
theorem dX11_compareShelves_8 : decode cX11_compareShelves 8 = .ok (.iload_n 1, 1) := by decide +kernel
theorem dX11_compareShelves_9 : decode cX11_compareShelves 9 = .ok (.iload_n 2, 1) := by decide +kernel
theorem dX11_compareShelves_10 : decode cX11_compareShelves 10 = .ok (.aload_n 0, 1) := by decide +kernel
theorem dX11_compareShelves_11 : decode cX11_compareShelves 11 = .ok (.getfield 66, 3) := by decide +kernel
theorem dX11_compareShelves_14 : decode cX11_compareShelves 14 = .ok (.invokevirtual 274, 3) := by decide +kernel
theorem dX11_compareShelves_17 : decode cX11_compareShelves 17 = .ok (.return_, 1) := by decide +kernel
theorem dX11_dropNow_0 : decode cX11_dropNow 0 = .ok (.aload_n 0, 1) := by decide +kernel
theorem dX11_dropNow_1 : decode cX11_dropNow 1 = .ok (.getfield 28, 3) := by decide +kernel
theorem dX11_dropNow_4 : decode cX11_dropNow 4 = .ok (.aload_n 0, 1) := by decide +kernel
theorem dX11_dropNow_5 : decode cX11_dropNow 5 = .ok (.getfield 28, 3) := by decide +kernel
theorem dX11_dropNow_8 : decode cX11_dropNow 8 = .ok (.getfield 238, 3) := by decide +kernel
theorem dX11_dropNow_11 : decode cX11_dropNow 11 = .ok (.iload_n 1, 1) := by decide +kernel
theorem dX11_dropNow_12 : decode cX11_dropNow 12 = .ok (.lconst 0, 1) := by decide +kernel
theorem dX11_dropNow_13 : decode cX11_dropNow 13 = .ok (.invokevirtual 242, 3) := by decide +kernel
theorem dX11_dropNow_16 : decode cX11_dropNow 16 = .ok (.istore_n 2, 1) := by decide +kernel
theorem dX11_dropNow_17 : decode cX11_dropNow 17 = .ok (.aload_n 0, 1) := by decide +kernel
theorem dX11_dropNow_18 : decode cX11_dropNow 18 = .ok (.getfield 28, 3) := by decide +kernel
theorem dX11_dropNow_21 : decode cX11_dropNow 21 = .ok (.aload_n 0, 1) := by decide +kernel
theorem dX11_dropNow_22 : decode cX11_dropNow 22 = .ok (.getfield 28, 3) := by decide +kernel
theorem dX11_dropNow_25 : decode cX11_dropNow 25 = .ok (.getfield 277, 3) := by decide +kernel
theorem dX11_dropNow_28 : decode cX11_dropNow 28 = .ok (.putfield 238, 3) := by decide +kernel
theorem dX11_dropNow_31 : decode cX11_dropNow 31 = .ok (.aload_n 0, 1) := by decide +kernel
theorem dX11_dropNow_32 : decode cX11_dropNow 32 = .ok (.getfield 28, 3) := by decide +kernel
theorem dX11_dropNow_35 : decode cX11_dropNow 35 = .ok (.getfield 168, 3) := by decide +kernel
theorem dX11_dropNow_38 : decode cX11_dropNow 38 = .ok (.iload_n 1, 1) := by decide +kernel
theorem dX11_dropNow_39 : decode cX11_dropNow 39 = .ok (.dup2, 1) := by decide +kernel
theorem dX11_dropNow_40 : decode cX11_dropNow 40 = .ok (.iaload, 1) := by decide +kernel
theorem dX11_dropNow_41 : decode cX11_dropNow 41 = .ok (.iconst 1, 1) := by decide +kernel
theorem dX11_dropNow_42 : decode cX11_dropNow 42 = .ok (.isub, 1) := by decide +kernel
theorem dX11_dropNow_43 : decode cX11_dropNow 43 = .ok (.iastore, 1) := by decide +kernel
theorem dX11_dropNow_44 : decode cX11_dropNow 44 = .ok (.aload_n 0, 1) := by decide +kernel
theorem dX11_dropNow_45 : decode cX11_dropNow 45 = .ok (.getfield 59, 3) := by decide +kernel
theorem dX11_dropNow_48 : decode cX11_dropNow 48 = .ok (.iload_n 1, 1) := by decide +kernel
theorem dX11_dropNow_49 : decode cX11_dropNow 49 = .ok (.iconst 4, 1) := by decide +kernel
theorem dX11_dropNow_50 : decode cX11_dropNow 50 = .ok (.iload_n 2, 1) := by decide +kernel
theorem dX11_dropNow_51 : decode cX11_dropNow 51 = .ok (.imul, 1) := by decide +kernel
theorem dX11_dropNow_52 : decode cX11_dropNow 52 = .ok (.iadd, 1) := by decide +kernel
theorem dX11_dropNow_53 : decode cX11_dropNow 53 = .ok (.invokevirtual 280, 3) := by decide +kernel
theorem dX11_dropNow_56 : decode cX11_dropNow 56 = .ok (.aload_n 0, 1) := by decide +kernel
theorem dX11_dropNow_57 : decode cX11_dropNow 57 = .ok (.invokevirtual 124, 3) := by decide +kernel
theorem dX11_dropNow_60 : decode cX11_dropNow 60 = .ok (.iload_n 2, 1) := by decide +kernel
theorem dX11_dropNow_61 : decode cX11_dropNow 61 = .ok (.ireturn, 1) := by decide +kernel
