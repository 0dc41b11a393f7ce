theorem dX3_init_0 : decode cX3_init 0 = .ok (.aload_n 0, 1) := by decide +kernel
theorem dX3_init_1 : decode cX3_init 1 = .ok (.invokespecial 1, 3) := by decide +kernel
theorem dX3_init_4 : decode cX3_init 4 = .ok (.aload_n 0, 1) := by decide +kernel
theorem dX3_init_5 : decode cX3_init 5 = .ok (.bipush 6, 2) := by decide +kernel
theorem dX3_init_7 : decode cX3_init 7 = .ok (.newarray .int, 2) := by decide +kernel
theorem dX3_init_9 : decode cX3_init 9 = .ok (.putfield 7, 3) := by decide +kernel
theorem dX3_init_12 : decode cX3_init 12 = .ok (.aload_n 0, 1) := by decide +kernel
theorem dX3_init_13 : decode cX3_init 13 = .ok (.bipush 6, 2) := by decide +kernel
theorem dX3_init_15 : decode cX3_init 15 = .ok (.newarray .int, 2) := by decide +kernel
theorem dX3_init_17 : decode cX3_init 17 = .ok (.putfield 13, 3) := by decide +kernel
theorem dX3_init_20 : decode cX3_init 20 = .ok (.aload_n 0, 1) := by decide +kernel
theorem dX3_init_21 : decode cX3_init 21 = .ok (.bipush 6, 2) := by decide +kernel
theorem dX3_init_23 : decode cX3_init 23 = .ok (.newarray .int, 2) := by decide +kernel
theorem dX3_init_25 : decode cX3_init 25 = .ok (.putfield 16, 3) := by decide +kernel
theorem dX3_init_28 : decode cX3_init 28 = .ok (.aload_n 0, 1) := by decide +kernel
theorem dX3_init_29 : decode cX3_init 29 = .ok (.sipush 186, 3) := by decide +kernel
theorem dX3_init_32 : decode cX3_init 32 = .ok (.newarray .int, 2) := by decide +kernel
theorem dX3_init_34 : decode cX3_init 34 = .ok (.putfield 19, 3) := by decide +kernel
theorem dX3_init_37 : decode cX3_init 37 = .ok (.aload_n 0, 1) := by decide +kernel
theorem dX3_init_38 : decode cX3_init 38 = .ok (.bipush 6, 2) := by decide +kernel
theorem dX3_init_40 : decode cX3_init 40 = .ok (.newarray .int, 2) := by decide +kernel
theorem dX3_init_42 : decode cX3_init 42 = .ok (.putfield 22, 3) := by decide +kernel
theorem dX3_init_45 : decode cX3_init 45 = .ok (.aload_n 0, 1) := by decide +kernel
theorem dX3_init_46 : decode cX3_init 46 = .ok (.bipush 6, 2) := by decide +kernel
theorem dX3_init_48 : decode cX3_init 48 = .ok (.newarray .int, 2) := by decide +kernel
theorem dX3_init_50 : decode cX3_init 50 = .ok (.putfield 25, 3) := by decide +kernel
theorem dX3_init_53 : decode cX3_init 53 = .ok (.aload_n 0, 1) := by decide +kernel
theorem dX3_init_54 : decode cX3_init 54 = .ok (.bipush 6, 2) := by decide +kernel
theorem dX3_init_56 : decode cX3_init 56 = .ok (.newarray .int, 2) := by decide +kernel
theorem dX3_init_58 : decode cX3_init 58 = .ok (.putfield 28, 3) := by decide +kernel
theorem dX3_init_61 : decode cX3_init 61 = .ok (.aload_n 0, 1) := by decide +kernel
theorem dX3_init_62 : decode cX3_init 62 = .ok (.bipush 6, 2) := by decide +kernel
theorem dX3_init_64 : decode cX3_init 64 = .ok (.newarray .int, 2) := by decide +kernel
theorem dX3_init_66 : decode cX3_init 66 = .ok (.putfield 31, 3) := by decide +kernel
theorem dX3_init_69 : decode cX3_init 69 = .ok (.aload_n 0, 1) := by decide +kernel
theorem dX3_init_70 : decode cX3_init 70 = .ok (.bipush 19, 2) := by decide +kernel
theorem dX3_init_72 : decode cX3_init 72 = .ok (.newarray .byte, 2) := by decide +kernel
theorem dX3_init_74 : decode cX3_init 74 = .ok (.putfield 34, 3) := by decide +kernel
theorem dX3_init_77 : decode cX3_init 77 = .ok (.aload_n 0, 1) := by decide +kernel
theorem dX3_init_78 : decode cX3_init 78 = .ok (.bipush 6, 2) := by decide +kernel
theorem dX3_init_80 : decode cX3_init 80 = .ok (.newarray .int, 2) := by decide +kernel
theorem dX3_init_82 : decode cX3_init 82 = .ok (.putfield 38, 3) := by decide +kernel
theorem dX3_init_85 : decode cX3_init 85 = .ok (.aload_n 0, 1) := by decide +kernel
theorem dX3_init_86 : decode cX3_init 86 = .ok (.bipush 6, 2) := by decide +kernel
theorem dX3_init_88 : decode cX3_init 88 = .ok (.newarray .int, 2) := by decide +kernel
theorem dX3_init_90 : decode cX3_init 90 = .ok (.putfield 41, 3) := by decide +kernel
theorem dX3_init_93 : decode cX3_init 93 = .ok (.aload_n 0, 1) := by decide +kernel
theorem dX3_init_94 : decode cX3_init 94 = .ok (.bipush 6, 2) := by decide +kernel
theorem dX3_init_96 : decode cX3_init 96 = .ok (.newarray .int, 2) := by decide +kernel
theorem dX3_init_98 : decode cX3_init 98 = .ok (.putfield 44, 3) := by decide +kernel
theorem dX3_init_101 : decode cX3_init 101 = .ok (.aload_n 0, 1) := by decide +kernel
theorem dX3_init_102 : decode cX3_init 102 = .ok (.sipush 186, 3) := by decide +kernel
theorem dX3_init_105 : decode cX3_init 105 = .ok (.newarray .int, 2) := by decide +kernel
theorem dX3_init_107 : decode cX3_init 107 = .ok (.putfield 47, 3) := by decide +kernel
theorem dX3_init_110 : decode cX3_init 110 = .ok (.aload_n 0, 1) := by decide +kernel
theorem dX3_init_111 : decode cX3_init 111 = .ok (.bipush 6, 2) := by decide +kernel
theorem dX3_init_113 : decode cX3_init 113 = .ok (.newarray .int, 2) := by decide +kernel
theorem dX3_init_115 : decode cX3_init 115 = .ok (.putfield 50, 3) := by decide +kernel
theorem dX3_init_118 : decode cX3_init 118 = .ok (.aload_n 0, 1) := by decide +kernel
theorem dX3_init_119 : decode cX3_init 119 = .ok (.bipush 6, 2) := by decide +kernel
theorem dX3_init_121 : decode cX3_init 121 = .ok (.newarray .int, 2) := by decide +kernel
theorem dX3_init_123 : decode cX3_init 123 = .ok (.putfield 53, 3) := by decide +kernel
theorem dX3_init_126 : decode cX3_init 126 = .ok (.aload_n 0, 1) := by decide +kernel
theorem dX3_init_127 : decode cX3_init 127 = .ok (.bipush 6, 2) := by decide +kernel
theorem dX3_init_129 : decode cX3_init 129 = .ok (.newarray .int, 2) := by decide +kernel
theorem dX3_init_131 : decode cX3_init 131 = .ok (.putfield 56, 3) := by decide +kernel
theorem dX3_init_134 : decode cX3_init 134 = .ok (.aload_n 0, 1) := by decide +kernel
theorem dX3_init_135 : decode cX3_init 135 = .ok (.bipush 6, 2) := by decide +kernel
theorem dX3_init_137 : decode cX3_init 137 = .ok (.newarray .int, 2) := by decide +kernel
theorem dX3_init_139 : decode cX3_init 139 = .ok (.putfield 59, 3) := by decide +kernel
theorem dX3_init_142 : decode cX3_init 142 = .ok (.return_, 1) := by decide +kernel
theorem dX3_within_0 : decode cX3_within 0 = .ok (.iload_n 0, 1) := by decide +kernel
theorem dX3_within_1 : decode cX3_within 1 = .ok (.iload_n 1, 1) := by decide +kernel
theorem dX3_within_2 : decode cX3_within 2 = .ok (.if_icmp .lt 12, 3) := by decide +kernel
theorem dX3_within_5 : decode cX3_within 5 = .ok (.iload_n 0, 1) := by decide +kernel
theorem dX3_within_6 : decode cX3_within 6 = .ok (.iload_n 2, 1) := by decide +kernel
theorem dX3_within_7 : decode cX3_within 7 = .ok (.if_icmp .gt 7, 3) := by decide +kernel
theorem dX3_within_10 : decode cX3_within 10 = .ok (.iconst 1, 1) := by decide +kernel
theorem dX3_within_11 : decode cX3_within 11 = .ok (.goto 4, 3) := by decide +kernel
theorem dX3_within_14 : decode cX3_within 14 = .ok (.iconst 0, 1) := by decide +kernel
theorem dX3_within_15 : decode cX3_within 15 = .ok (.ireturn, 1) := by decide +kernel
theorem dX3_isIn_0 : decode cX3_isIn 0 = .ok (.iload_n 0, 1) := by decide +kernel
theorem dX3_isIn_1 : decode cX3_isIn 1 = .ok (.iload_n 1, 1) := by decide +kernel
theorem dX3_isIn_2 : decode cX3_isIn 2 = .ok (.ishr, 1) := by decide +kernel
theorem dX3_isIn_3 : decode cX3_isIn 3 = .ok (.iconst 1, 1) := by decide +kernel
theorem dX3_isIn_4 : decode cX3_isIn 4 = .ok (.iand, 1) := by decide +kernel
theorem dX3_isIn_5 : decode cX3_isIn 5 = .ok (.iconst 1, 1) := by decide +kernel
theorem dX3_isIn_6 : decode cX3_isIn 6 = .ok (.if_icmp .ne 7, 3) := by decide +kernel
theorem dX3_isIn_9 : decode cX3_isIn 9 = .ok (.iconst 1, 1) := by decide +kernel
theorem dX3_isIn_10 : decode cX3_isIn 10 = .ok (.goto 4, 3) := by decide +kernel
theorem dX3_isIn_13 : decode cX3_isIn 13 = .ok (.iconst 0, 1) := by decide +kernel
theorem dX3_isIn_14 : decode cX3_isIn 14 = .ok (.ireturn, 1) := by decide +kernel
theorem dX3_size_0 : decode cX3_size 0 = .ok (.iconst 0, 1) := by decide +kernel
theorem dX3_size_1 : decode cX3_size 1 = .ok (.istore_n 1, 1) := by decide +kernel
theorem dX3_size_2 : decode cX3_size 2 = .ok (.iconst 0, 1) := by decide +kernel
theorem dX3_size_3 : decode cX3_size 3 = .ok (.istore_n 2, 1) := by decide +kernel
theorem dX3_size_4 : decode cX3_size 4 = .ok (.iload_n 2, 1) := by decide +kernel
theorem dX3_size_5 : decode cX3_size 5 = .ok (.bipush 6, 2) := by decide +kernel
theorem dX3_size_7 : decode cX3_size 7 = .ok (.if_icmp .ge 17, 3) := by decide +kernel
theorem dX3_size_10 : decode cX3_size 10 = .ok (.iload_n 1, 1) := by decide +kernel
theorem dX3_size_11 : decode cX3_size 11 = .ok (.iload_n 0, 1) := by decide +kernel
theorem dX3_size_12 : decode cX3_size 12 = .ok (.iload_n 2, 1) := by decide +kernel
theorem dX3_size_13 : decode cX3_size 13 = .ok (.ishr, 1) := by decide +kernel
theorem dX3_size_14 : decode cX3_size 14 = .ok (.iconst 1, 1) := by decide +kernel
theorem dX3_size_15 : decode cX3_size 15 = .ok (.iand, 1) := by decide +kernel
theorem dX3_size_16 : decode cX3_size 16 = .ok (.iadd, 1) := by decide +kernel
theorem dX3_size_17 : decode cX3_size 17 = .ok (.istore_n 1, 1) := by decide +kernel
theorem dX3_size_18 : decode cX3_size 18 = .ok (.iinc 2 1, 3) := by decide +kernel
theorem dX3_size_21 : decode cX3_size 21 = .ok (.goto (-17), 3) := by decide +kernel
theorem dX3_size_24 : decode cX3_size 24 = .ok (.iload_n 1, 1) := by decide +kernel
theorem dX3_size_25 : decode cX3_size 25 = .ok (.ireturn, 1) := by decide +kernel
theorem dX3_letter_0 : decode cX3_letter 0 = .ok (.iload_n 1, 1) := by decide +kernel
theorem dX3_letter_1 : decode cX3_letter 1 = .ok (.bipush 32, 2) := by decide +kernel
theorem dX3_letter_3 : decode cX3_letter 3 = .ok (.bipush 126, 2) := by decide +kernel
theorem dX3_letter_5 : decode cX3_letter 5 = .ok (.invokestatic 62, 3) := by decide +kernel
theorem dX3_letter_8 : decode cX3_letter 8 = .ok (.ifCond .ne 6, 3) := by decide +kernel
theorem dX3_letter_11 : decode cX3_letter 11 = .ok (.bipush (-102), 2) := by decide +kernel
theorem dX3_letter_13 : decode cX3_letter 13 = .ok (.ireturn, 1) := by decide +kernel
theorem dX3_letter_14 : decode cX3_letter 14 = .ok (.aload_n 0, 1) := by decide +kernel
theorem dX3_letter_15 : decode cX3_letter 15 = .ok (.getfield 66, 3) := by decide +kernel
theorem dX3_letter_18 : decode cX3_letter 18 = .ok (.bipush 19, 2) := by decide +kernel
theorem dX3_letter_20 : decode cX3_letter 20 = .ok (.if_icmp .ne 6, 3) := by decide +kernel
theorem dX3_letter_23 : decode cX3_letter 23 = .ok (.bipush (-104), 2) := by decide +kernel
theorem dX3_letter_25 : decode cX3_letter 25 = .ok (.ireturn, 1) := by decide +kernel
theorem dX3_letter_26 : decode cX3_letter 26 = .ok (.aload_n 0, 1) := by decide +kernel
theorem dX3_letter_27 : decode cX3_letter 27 = .ok (.getfield 34, 3) := by decide +kernel
theorem dX3_letter_30 : decode cX3_letter 30 = .ok (.aload_n 0, 1) := by decide +kernel
theorem dX3_letter_31 : decode cX3_letter 31 = .ok (.getfield 66, 3) := by decide +kernel
theorem dX3_letter_34 : decode cX3_letter 34 = .ok (.iload_n 1, 1) := by decide +kernel
theorem dX3_letter_35 : decode cX3_letter 35 = .ok (.i2b, 1) := by decide +kernel
theorem dX3_letter_36 : decode cX3_letter 36 = .ok (.bastore, 1) := by decide +kernel
theorem dX3_letter_37 : decode cX3_letter 37 = .ok (.aload_n 0, 1) := by decide +kernel
theorem dX3_letter_38 : decode cX3_letter 38 = .ok (.dup, 1) := by decide +kernel
theorem dX3_letter_39 : decode cX3_letter 39 = .ok (.getfield 66, 3) := by decide +kernel
theorem dX3_letter_42 : decode cX3_letter 42 = .ok (.iconst 1, 1) := by decide +kernel
theorem dX3_letter_43 : decode cX3_letter 43 = .ok (.iadd, 1) := by decide +kernel
theorem dX3_letter_44 : decode cX3_letter 44 = .ok (.putfield 66, 3) := by decide +kernel
theorem dX3_letter_47 : decode cX3_letter 47 = .ok (.aload_n 0, 1) := by decide +kernel
theorem dX3_letter_48 : decode cX3_letter 48 = .ok (.getfield 66, 3) := by decide +kernel
theorem dX3_letter_51 : decode cX3_letter 51 = .ok (.ireturn, 1) := by decide +kernel
theorem dX3_blank_0 : decode cX3_blank 0 = .ok (.aload_n 0, 1) := by decide +kernel
theorem dX3_blank_1 : decode cX3_blank 1 = .ok (.getfield 66, 3) := by decide +kernel
theorem dX3_blank_4 : decode cX3_blank 4 = .ok (.istore_n 1, 1) := by decide +kernel
theorem dX3_blank_5 : decode cX3_blank 5 = .ok (.aload_n 0, 1) := by decide +kernel
theorem dX3_blank_6 : decode cX3_blank 6 = .ok (.iconst 0, 1) := by decide +kernel
theorem dX3_blank_7 : decode cX3_blank 7 = .ok (.putfield 66, 3) := by decide +kernel
theorem dX3_blank_10 : decode cX3_blank 10 = .ok (.iload_n 1, 1) := by decide +kernel
theorem dX3_blank_11 : decode cX3_blank 11 = .ok (.ireturn, 1) := by decide +kernel
theorem dX3_kindBy_0 : decode cX3_kindBy 0 = .ok (.iload_n 0, 1) := by decide +kernel
theorem dX3_kindBy_1 : decode cX3_kindBy 1 = .ok (.lookupswitch 61 #[(98, 59), (99, 57), (104, 51), (109, 55), (116, 53)], 51) := by decide +kernel
theorem dX3_kindBy_52 : decode cX3_kindBy 52 = .ok (.iconst 0, 1) := by decide +kernel
theorem dX3_kindBy_53 : decode cX3_kindBy 53 = .ok (.ireturn, 1) := by decide +kernel
theorem dX3_kindBy_54 : decode cX3_kindBy 54 = .ok (.iconst 1, 1) := by decide +kernel
theorem dX3_kindBy_55 : decode cX3_kindBy 55 = .ok (.ireturn, 1) := by decide +kernel
theorem dX3_kindBy_56 : decode cX3_kindBy 56 = .ok (.iconst 2, 1) := by decide +kernel
theorem dX3_kindBy_57 : decode cX3_kindBy 57 = .ok (.ireturn, 1) := by decide +kernel
theorem dX3_kindBy_58 : decode cX3_kindBy 58 = .ok (.iconst 3, 1) := by decide +kernel
theorem dX3_kindBy_59 : decode cX3_kindBy 59 = .ok (.ireturn, 1) := by decide +kernel
theorem dX3_kindBy_60 : decode cX3_kindBy 60 = .ok (.iconst 4, 1) := by decide +kernel
theorem dX3_kindBy_61 : decode cX3_kindBy 61 = .ok (.ireturn, 1) := by decide +kernel
theorem dX3_kindBy_62 : decode cX3_kindBy 62 = .ok (.iconst (-1), 1) := by decide +kernel
theorem dX3_kindBy_63 : decode cX3_kindBy 63 = .ok (.ireturn, 1) := by decide +kernel
theorem dX3_isGood_0 : decode cX3_isGood 0 = .ok (.aload_n 0, 1) := by decide +kernel
theorem dX3_isGood_1 : decode cX3_isGood 1 = .ok (.getfield 34, 3) := by decide +kernel
theorem dX3_isGood_4 : decode cX3_isGood 4 = .ok (.iload_n 1, 1) := by decide +kernel
theorem dX3_isGood_5 : decode cX3_isGood 5 = .ok (.baload, 1) := by decide +kernel
theorem dX3_isGood_6 : decode cX3_isGood 6 = .ok (.istore_n 2, 1) := by decide +kernel
theorem dX3_isGood_7 : decode cX3_isGood 7 = .ok (.iload_n 1, 1) := by decide +kernel
theorem dX3_isGood_8 : decode cX3_isGood 8 = .ok (.iconst 3, 1) := by decide +kernel
theorem dX3_isGood_9 : decode cX3_isGood 9 = .ok (.irem, 1) := by decide +kernel
theorem dX3_isGood_10 : decode cX3_isGood 10 = .ok (.lookupswitch 51 #[(0, 26), (1, 40)], 26) := by decide +kernel
theorem dX3_isGood_36 : decode cX3_isGood 36 = .ok (.iload_n 2, 1) := by decide +kernel
theorem dX3_isGood_37 : decode cX3_isGood 37 = .ok (.invokestatic 70, 3) := by decide +kernel
theorem dX3_isGood_40 : decode cX3_isGood 40 = .ok (.iconst (-1), 1) := by decide +kernel
theorem dX3_isGood_41 : decode cX3_isGood 41 = .ok (.if_icmp .eq 7, 3) := by decide +kernel
theorem dX3_isGood_44 : decode cX3_isGood 44 = .ok (.iconst 1, 1) := by decide +kernel
theorem dX3_isGood_45 : decode cX3_isGood 45 = .ok (.goto 4, 3) := by decide +kernel
theorem dX3_isGood_48 : decode cX3_isGood 48 = .ok (.iconst 0, 1) := by decide +kernel
theorem dX3_isGood_49 : decode cX3_isGood 49 = .ok (.ireturn, 1) := by decide +kernel
theorem dX3_isGood_50 : decode cX3_isGood 50 = .ok (.iload_n 2, 1) := by decide +kernel
theorem dX3_isGood_51 : decode cX3_isGood 51 = .ok (.bipush 48, 2) := by decide +kernel
theorem dX3_isGood_53 : decode cX3_isGood 53 = .ok (.isub, 1) := by decide +kernel
theorem dX3_isGood_54 : decode cX3_isGood 54 = .ok (.iconst 0, 1) := by decide +kernel
theorem dX3_isGood_55 : decode cX3_isGood 55 = .ok (.bipush 9, 2) := by decide +kernel
theorem dX3_isGood_57 : decode cX3_isGood 57 = .ok (.invokestatic 62, 3) := by decide +kernel
theorem dX3_isGood_60 : decode cX3_isGood 60 = .ok (.ireturn, 1) := by decide +kernel
theorem dX3_isGood_61 : decode cX3_isGood 61 = .ok (.iload_n 2, 1) := by decide +kernel
theorem dX3_isGood_62 : decode cX3_isGood 62 = .ok (.bipush 44, 2) := by decide +kernel
theorem dX3_isGood_64 : decode cX3_isGood 64 = .ok (.if_icmp .ne 13, 3) := by decide +kernel
theorem dX3_isGood_67 : decode cX3_isGood 67 = .ok (.iload_n 1, 1) := by decide +kernel
theorem dX3_isGood_68 : decode cX3_isGood 68 = .ok (.bipush 17, 2) := by decide +kernel
theorem dX3_isGood_70 : decode cX3_isGood 70 = .ok (.if_icmp .ge 7, 3) := by decide +kernel
theorem dX3_isGood_73 : decode cX3_isGood 73 = .ok (.iconst 1, 1) := by decide +kernel
theorem dX3_isGood_74 : decode cX3_isGood 74 = .ok (.goto 4, 3) := by decide +kernel
theorem dX3_isGood_77 : decode cX3_isGood 77 = .ok (.iconst 0, 1) := by decide +kernel
theorem dX3_isGood_78 : decode cX3_isGood 78 = .ok (.ireturn, 1) := by decide +kernel
theorem dX3_faultNow_0 : decode cX3_faultNow 0 = .ok (.iconst 0, 1) := by decide +kernel
theorem dX3_faultNow_1 : decode cX3_faultNow 1 = .ok (.istore_n 1, 1) := by decide +kernel
theorem dX3_faultNow_2 : decode cX3_faultNow 2 = .ok (.iload_n 1, 1) := by decide +kernel
theorem dX3_faultNow_3 : decode cX3_faultNow 3 = .ok (.aload_n 0, 1) := by decide +kernel
theorem dX3_faultNow_4 : decode cX3_faultNow 4 = .ok (.getfield 66, 3) := by decide +kernel
theorem dX3_faultNow_7 : decode cX3_faultNow 7 = .ok (.if_icmp .ge 17, 3) := by decide +kernel
theorem dX3_faultNow_10 : decode cX3_faultNow 10 = .ok (.aload_n 0, 1) := by decide +kernel
theorem dX3_faultNow_11 : decode cX3_faultNow 11 = .ok (.iload_n 1, 1) := by decide +kernel
theorem dX3_faultNow_12 : decode cX3_faultNow 12 = .ok (.invokevirtual 74, 3) := by decide +kernel
theorem dX3_faultNow_15 : decode cX3_faultNow 15 = .ok (.ifCond .eq 9, 3) := by decide +kernel
theorem dX3_faultNow_18 : decode cX3_faultNow 18 = .ok (.iinc 1 1, 3) := by decide +kernel
theorem dX3_faultNow_21 : decode cX3_faultNow 21 = .ok (.goto (-19), 3) := by decide +kernel
theorem dX3_faultNow_24 : decode cX3_faultNow 24 = .ok (.iload_n 1, 1) := by decide +kernel
theorem dX3_faultNow_25 : decode cX3_faultNow 25 = .ok (.ireturn, 1) := by decide +kernel
theorem dX3_fault_0 : decode cX3_fault 0 = .ok (.aload_n 0, 1) := by decide +kernel
theorem dX3_fault_1 : decode cX3_fault 1 = .ok (.invokevirtual 78, 3) := by decide +kernel
theorem dX3_fault_4 : decode cX3_fault 4 = .ok (.ireturn, 1) := by decide +kernel
theorem dX3_street_0 : decode cX3_street 0 = .ok (.aload_n 0, 1) := by decide +kernel
theorem dX3_street_1 : decode cX3_street 1 = .ok (.getfield 66, 3) := by decide +kernel
theorem dX3_street_4 : decode cX3_street 4 = .ok (.iconst 5, 1) := by decide +kernel
theorem dX3_street_5 : decode cX3_street 5 = .ok (.if_icmp .lt 24, 3) := by decide +kernel
theorem dX3_street_8 : decode cX3_street 8 = .ok (.aload_n 0, 1) := by decide +kernel
theorem dX3_street_9 : decode cX3_street 9 = .ok (.getfield 66, 3) := by decide +kernel
theorem dX3_street_12 : decode cX3_street 12 = .ok (.iconst 3, 1) := by decide +kernel
theorem dX3_street_13 : decode cX3_street 13 = .ok (.irem, 1) := by decide +kernel
theorem dX3_street_14 : decode cX3_street 14 = .ok (.iconst 2, 1) := by decide +kernel
theorem dX3_street_15 : decode cX3_street 15 = .ok (.if_icmp .ne 14, 3) := by decide +kernel
theorem dX3_street_18 : decode cX3_street 18 = .ok (.aload_n 0, 1) := by decide +kernel
theorem dX3_street_19 : decode cX3_street 19 = .ok (.invokevirtual 78, 3) := by decide +kernel
theorem dX3_street_22 : decode cX3_street 22 = .ok (.aload_n 0, 1) := by decide +kernel
theorem dX3_street_23 : decode cX3_street 23 = .ok (.getfield 66, 3) := by decide +kernel
theorem dX3_street_26 : decode cX3_street 26 = .ok (.if_icmp .eq 6, 3) := by decide +kernel
theorem dX3_street_29 : decode cX3_street 29 = .ok (.bipush (-103), 2) := by decide +kernel
theorem dX3_street_31 : decode cX3_street 31 = .ok (.ireturn, 1) := by decide +kernel
theorem dX3_street_32 : decode cX3_street 32 = .ok (.aload_n 0, 1) := by decide +kernel
theorem dX3_street_33 : decode cX3_street 33 = .ok (.aload_n 0, 1) := by decide +kernel
theorem dX3_street_34 : decode cX3_street 34 = .ok (.getfield 66, 3) := by decide +kernel
theorem dX3_street_37 : decode cX3_street 37 = .ok (.iconst 1, 1) := by decide +kernel
theorem dX3_street_38 : decode cX3_street 38 = .ok (.iadd, 1) := by decide +kernel
theorem dX3_street_39 : decode cX3_street 39 = .ok (.iconst 3, 1) := by decide +kernel
theorem dX3_street_40 : decode cX3_street 40 = .ok (.idiv, 1) := by decide +kernel
theorem dX3_street_41 : decode cX3_street 41 = .ok (.putfield 82, 3) := by decide +kernel
theorem dX3_street_44 : decode cX3_street 44 = .ok (.iconst 0, 1) := by decide +kernel
theorem dX3_street_45 : decode cX3_street 45 = .ok (.istore_n 1, 1) := by decide +kernel
theorem dX3_street_46 : decode cX3_street 46 = .ok (.iload_n 1, 1) := by decide +kernel
theorem dX3_street_47 : decode cX3_street 47 = .ok (.aload_n 0, 1) := by decide +kernel
theorem dX3_street_48 : decode cX3_street 48 = .ok (.getfield 82, 3) := by decide +kernel
theorem dX3_street_51 : decode cX3_street 51 = .ok (.if_icmp .ge 52, 3) := by decide +kernel
theorem dX3_street_54 : decode cX3_street 54 = .ok (.aload_n 0, 1) := by decide +kernel
theorem dX3_street_55 : decode cX3_street 55 = .ok (.getfield 7, 3) := by decide +kernel
theorem dX3_street_58 : decode cX3_street 58 = .ok (.iload_n 1, 1) := by decide +kernel
theorem dX3_street_59 : decode cX3_street 59 = .ok (.aload_n 0, 1) := by decide +kernel
theorem dX3_street_60 : decode cX3_street 60 = .ok (.getfield 34, 3) := by decide +kernel
theorem dX3_street_63 : decode cX3_street 63 = .ok (.iconst 3, 1) := by decide +kernel
theorem dX3_street_64 : decode cX3_street 64 = .ok (.iload_n 1, 1) := by decide +kernel
theorem dX3_street_65 : decode cX3_street 65 = .ok (.imul, 1) := by decide +kernel
theorem dX3_street_66 : decode cX3_street 66 = .ok (.baload, 1) := by decide +kernel
theorem dX3_street_67 : decode cX3_street 67 = .ok (.invokestatic 70, 3) := by decide +kernel
theorem dX3_street_70 : decode cX3_street 70 = .ok (.iastore, 1) := by decide +kernel
theorem dX3_street_71 : decode cX3_street 71 = .ok (.aload_n 0, 1) := by decide +kernel
theorem dX3_street_72 : decode cX3_street 72 = .ok (.getfield 13, 3) := by decide +kernel
theorem dX3_street_75 : decode cX3_street 75 = .ok (.iload_n 1, 1) := by decide +kernel
theorem dX3_street_76 : decode cX3_street 76 = .ok (.aload_n 0, 1) := by decide +kernel
theorem dX3_street_77 : decode cX3_street 77 = .ok (.getfield 34, 3) := by decide +kernel
theorem dX3_street_80 : decode cX3_street 80 = .ok (.iconst 3, 1) := by decide +kernel
theorem dX3_street_81 : decode cX3_street 81 = .ok (.iload_n 1, 1) := by decide +kernel
theorem dX3_street_82 : decode cX3_street 82 = .ok (.imul, 1) := by decide +kernel
theorem dX3_street_83 : decode cX3_street 83 = .ok (.iconst 1, 1) := by decide +kernel
theorem dX3_street_84 : decode cX3_street 84 = .ok (.iadd, 1) := by decide +kernel
theorem dX3_street_85 : decode cX3_street 85 = .ok (.baload, 1) := by decide +kernel
theorem dX3_street_86 : decode cX3_street 86 = .ok (.bipush 48, 2) := by decide +kernel
theorem dX3_street_88 : decode cX3_street 88 = .ok (.isub, 1) := by decide +kernel
theorem dX3_street_89 : decode cX3_street 89 = .ok (.iastore, 1) := by decide +kernel
theorem dX3_street_90 : decode cX3_street 90 = .ok (.aload_n 0, 1) := by decide +kernel
theorem dX3_street_91 : decode cX3_street 91 = .ok (.getfield 16, 3) := by decide +kernel
theorem dX3_street_94 : decode cX3_street 94 = .ok (.iload_n 1, 1) := by decide +kernel
theorem dX3_street_95 : decode cX3_street 95 = .ok (.iconst 0, 1) := by decide +kernel
theorem dX3_street_96 : decode cX3_street 96 = .ok (.iastore, 1) := by decide +kernel
theorem dX3_street_97 : decode cX3_street 97 = .ok (.iinc 1 1, 3) := by decide +kernel
theorem dX3_street_100 : decode cX3_street 100 = .ok (.goto (-54), 3) := by decide +kernel
theorem dX3_street_103 : decode cX3_street 103 = .ok (.aload_n 0, 1) := by decide +kernel
theorem dX3_street_104 : decode cX3_street 104 = .ok (.dup, 1) := by decide +kernel
theorem dX3_street_105 : decode cX3_street 105 = .ok (.getfield 85, 3) := by decide +kernel
theorem dX3_street_108 : decode cX3_street 108 = .ok (.iconst 1, 1) := by decide +kernel
theorem dX3_street_109 : decode cX3_street 109 = .ok (.iadd, 1) := by decide +kernel
theorem dX3_street_110 : decode cX3_street 110 = .ok (.putfield 85, 3) := by decide +kernel
theorem dX3_street_113 : decode cX3_street 113 = .ok (.aload_n 0, 1) := by decide +kernel
theorem dX3_street_114 : decode cX3_street 114 = .ok (.iconst 0, 1) := by decide +kernel
theorem dX3_street_115 : decode cX3_street 115 = .ok (.putfield 88, 3) := by decide +kernel
theorem dX3_street_118 : decode cX3_street 118 = .ok (.aload_n 0, 1) := by decide +kernel
theorem dX3_street_119 : decode cX3_street 119 = .ok (.iconst 0, 1) := by decide +kernel
theorem dX3_street_120 : decode cX3_street 120 = .ok (.putfield 91, 3) := by decide +kernel
theorem dX3_street_123 : decode cX3_street 123 = .ok (.aload_n 0, 1) := by decide +kernel
theorem dX3_street_124 : decode cX3_street 124 = .ok (.iconst 0, 1) := by decide +kernel
theorem dX3_street_125 : decode cX3_street 125 = .ok (.putfield 94, 3) := by decide +kernel
theorem dX3_street_128 : decode cX3_street 128 = .ok (.aload_n 0, 1) := by decide +kernel
theorem dX3_street_129 : decode cX3_street 129 = .ok (.iconst 0, 1) := by decide +kernel
theorem dX3_street_130 : decode cX3_street 130 = .ok (.putfield 97, 3) := by decide +kernel
theorem dX3_street_133 : decode cX3_street 133 = .ok (.aload_n 0, 1) := by decide +kernel
theorem dX3_street_134 : decode cX3_street 134 = .ok (.iconst 0, 1) := by decide +kernel
theorem dX3_street_135 : decode cX3_street 135 = .ok (.putfield 66, 3) := by decide +kernel
theorem dX3_street_138 : decode cX3_street 138 = .ok (.aload_n 0, 1) := by decide +kernel
theorem dX3_street_139 : decode cX3_street 139 = .ok (.getfield 82, 3) := by decide +kernel
theorem dX3_street_142 : decode cX3_street 142 = .ok (.ireturn, 1) := by decide +kernel
theorem dX3_isHouse_0 : decode cX3_isHouse 0 = .ok (.iload_n 1, 1) := by decide +kernel
theorem dX3_isHouse_1 : decode cX3_isHouse 1 = .ok (.iconst 0, 1) := by decide +kernel
theorem dX3_isHouse_2 : decode cX3_isHouse 2 = .ok (.aload_n 0, 1) := by decide +kernel
theorem dX3_isHouse_3 : decode cX3_isHouse 3 = .ok (.getfield 82, 3) := by decide +kernel
theorem dX3_isHouse_6 : decode cX3_isHouse 6 = .ok (.iconst 1, 1) := by decide +kernel
theorem dX3_isHouse_7 : decode cX3_isHouse 7 = .ok (.isub, 1) := by decide +kernel
theorem dX3_isHouse_8 : decode cX3_isHouse 8 = .ok (.invokestatic 62, 3) := by decide +kernel
theorem dX3_isHouse_11 : decode cX3_isHouse 11 = .ok (.ireturn, 1) := by decide +kernel
theorem dX3_isDay_0 : decode cX3_isDay 0 = .ok (.aload_n 0, 1) := by decide +kernel
theorem dX3_isDay_1 : decode cX3_isDay 1 = .ok (.getfield 82, 3) := by decide +kernel
theorem dX3_isDay_4 : decode cX3_isDay 4 = .ok (.ifCond .le 19, 3) := by decide +kernel
theorem dX3_isDay_7 : decode cX3_isDay 7 = .ok (.iload_n 1, 1) := by decide +kernel
theorem dX3_isDay_8 : decode cX3_isDay 8 = .ok (.iconst 0, 1) := by decide +kernel
theorem dX3_isDay_9 : decode cX3_isDay 9 = .ok (.aload_n 0, 1) := by decide +kernel
theorem dX3_isDay_10 : decode cX3_isDay 10 = .ok (.getfield 88, 3) := by decide +kernel
theorem dX3_isDay_13 : decode cX3_isDay 13 = .ok (.invokestatic 62, 3) := by decide +kernel
theorem dX3_isDay_16 : decode cX3_isDay 16 = .ok (.ifCond .eq 7, 3) := by decide +kernel
theorem dX3_isDay_19 : decode cX3_isDay 19 = .ok (.iconst 1, 1) := by decide +kernel
theorem dX3_isDay_20 : decode cX3_isDay 20 = .ok (.goto 4, 3) := by decide +kernel
theorem dX3_isDay_23 : decode cX3_isDay 23 = .ok (.iconst 0, 1) := by decide +kernel
theorem dX3_isDay_24 : decode cX3_isDay 24 = .ok (.ireturn, 1) := by decide +kernel
theorem dX3_numberBy_0 : decode cX3_numberBy 0 = .ok (.aload_n 0, 1) := by decide +kernel
theorem dX3_numberBy_1 : decode cX3_numberBy 1 = .ok (.getfield 7, 3) := by decide +kernel
theorem dX3_numberBy_4 : decode cX3_numberBy 4 = .ok (.iload_n 1, 1) := by decide +kernel
theorem dX3_numberBy_5 : decode cX3_numberBy 5 = .ok (.iaload, 1) := by decide +kernel
theorem dX3_numberBy_6 : decode cX3_numberBy 6 = .ok (.iconst 1, 1) := by decide +kernel
theorem dX3_numberBy_7 : decode cX3_numberBy 7 = .ok (.if_icmp .ne 9, 3) := by decide +kernel
theorem dX3_numberBy_10 : decode cX3_numberBy 10 = .ok (.iload_n 2, 1) := by decide +kernel
theorem dX3_numberBy_11 : decode cX3_numberBy 11 = .ok (.iconst 2, 1) := by decide +kernel
theorem dX3_numberBy_12 : decode cX3_numberBy 12 = .ok (.idiv, 1) := by decide +kernel
theorem dX3_numberBy_13 : decode cX3_numberBy 13 = .ok (.goto 4, 3) := by decide +kernel
theorem dX3_numberBy_16 : decode cX3_numberBy 16 = .ok (.iload_n 2, 1) := by decide +kernel
theorem dX3_numberBy_17 : decode cX3_numberBy 17 = .ok (.ireturn, 1) := by decide +kernel
theorem dX3_number_0 : decode cX3_number 0 = .ok (.aload_n 0, 1) := by decide +kernel
theorem dX3_number_1 : decode cX3_number 1 = .ok (.iload_n 1, 1) := by decide +kernel
theorem dX3_number_2 : decode cX3_number 2 = .ok (.aload_n 0, 1) := by decide +kernel
theorem dX3_number_3 : decode cX3_number 3 = .ok (.getfield 13, 3) := by decide +kernel
theorem dX3_number_6 : decode cX3_number 6 = .ok (.iload_n 1, 1) := by decide +kernel
theorem dX3_number_7 : decode cX3_number 7 = .ok (.iaload, 1) := by decide +kernel
theorem dX3_number_8 : decode cX3_number 8 = .ok (.invokevirtual 100, 3) := by decide +kernel
theorem dX3_number_11 : decode cX3_number 11 = .ok (.ireturn, 1) := by decide +kernel
theorem dX3_numberOn_0 : decode cX3_numberOn 0 = .ok (.aload_n 0, 1) := by decide +kernel
theorem dX3_numberOn_1 : decode cX3_numberOn 1 = .ok (.iload_n 1, 1) := by decide +kernel
theorem dX3_numberOn_2 : decode cX3_numberOn 2 = .ok (.iload_n 2, 1) := by decide +kernel
theorem dX3_numberOn_3 : decode cX3_numberOn 3 = .ok (.aload_n 0, 1) := by decide +kernel
theorem dX3_numberOn_4 : decode cX3_numberOn 4 = .ok (.getfield 88, 3) := by decide +kernel
theorem dX3_numberOn_7 : decode cX3_numberOn 7 = .ok (.if_icmp .ne 12, 3) := by decide +kernel
theorem dX3_numberOn_10 : decode cX3_numberOn 10 = .ok (.aload_n 0, 1) := by decide +kernel
theorem dX3_numberOn_11 : decode cX3_numberOn 11 = .ok (.getfield 13, 3) := by decide +kernel
theorem dX3_numberOn_14 : decode cX3_numberOn 14 = .ok (.iload_n 1, 1) := by decide +kernel
theorem dX3_numberOn_15 : decode cX3_numberOn 15 = .ok (.iaload, 1) := by decide +kernel
theorem dX3_numberOn_16 : decode cX3_numberOn 16 = .ok (.goto 14, 3) := by decide +kernel
theorem dX3_numberOn_19 : decode cX3_numberOn 19 = .ok (.aload_n 0, 1) := by decide +kernel
theorem dX3_numberOn_20 : decode cX3_numberOn 20 = .ok (.getfield 19, 3) := by decide +kernel
theorem dX3_numberOn_23 : decode cX3_numberOn 23 = .ok (.bipush 6, 2) := by decide +kernel
theorem dX3_numberOn_25 : decode cX3_numberOn 25 = .ok (.iload_n 2, 1) := by decide +kernel
theorem dX3_numberOn_26 : decode cX3_numberOn 26 = .ok (.imul, 1) := by decide +kernel
theorem dX3_numberOn_27 : decode cX3_numberOn 27 = .ok (.iload_n 1, 1) := by decide +kernel
theorem dX3_numberOn_28 : decode cX3_numberOn 28 = .ok (.iadd, 1) := by decide +kernel
theorem dX3_numberOn_29 : decode cX3_numberOn 29 = .ok (.iaload, 1) := by decide +kernel
theorem dX3_numberOn_30 : decode cX3_numberOn 30 = .ok (.invokevirtual 100, 3) := by decide +kernel
theorem dX3_numberOn_33 : decode cX3_numberOn 33 = .ok (.ireturn, 1) := by decide +kernel
theorem dX3_mayBirth_0 : decode cX3_mayBirth 0 = .ok (.aload_n 0, 1) := by decide +kernel
theorem dX3_mayBirth_1 : decode cX3_mayBirth 1 = .ok (.getfield 7, 3) := by decide +kernel
theorem dX3_mayBirth_4 : decode cX3_mayBirth 4 = .ok (.iload_n 1, 1) := by decide +kernel
theorem dX3_mayBirth_5 : decode cX3_mayBirth 5 = .ok (.iaload, 1) := by decide +kernel
theorem dX3_mayBirth_6 : decode cX3_mayBirth 6 = .ok (.iconst 2, 1) := by decide +kernel
theorem dX3_mayBirth_7 : decode cX3_mayBirth 7 = .ok (.if_icmp .eq 17, 3) := by decide +kernel
theorem dX3_mayBirth_10 : decode cX3_mayBirth 10 = .ok (.aload_n 0, 1) := by decide +kernel
theorem dX3_mayBirth_11 : decode cX3_mayBirth 11 = .ok (.getfield 7, 3) := by decide +kernel
theorem dX3_mayBirth_14 : decode cX3_mayBirth 14 = .ok (.iload_n 1, 1) := by decide +kernel
theorem dX3_mayBirth_15 : decode cX3_mayBirth 15 = .ok (.iaload, 1) := by decide +kernel
theorem dX3_mayBirth_16 : decode cX3_mayBirth 16 = .ok (.iconst 4, 1) := by decide +kernel
theorem dX3_mayBirth_17 : decode cX3_mayBirth 17 = .ok (.if_icmp .eq 7, 3) := by decide +kernel
theorem dX3_mayBirth_20 : decode cX3_mayBirth 20 = .ok (.iconst 1, 1) := by decide +kernel
theorem dX3_mayBirth_21 : decode cX3_mayBirth 21 = .ok (.goto 4, 3) := by decide +kernel
theorem dX3_mayBirth_24 : decode cX3_mayBirth 24 = .ok (.iconst 0, 1) := by decide +kernel
theorem dX3_mayBirth_25 : decode cX3_mayBirth 25 = .ok (.ireturn, 1) := by decide +kernel
theorem dX3_lends_0 : decode cX3_lends 0 = .ok (.iload_n 1, 1) := by decide +kernel
theorem dX3_lends_1 : decode cX3_lends 1 = .ok (.iconst 1, 1) := by decide +kernel
theorem dX3_lends_2 : decode cX3_lends 2 = .ok (.iadd, 1) := by decide +kernel
theorem dX3_lends_3 : decode cX3_lends 3 = .ok (.aload_n 0, 1) := by decide +kernel
theorem dX3_lends_4 : decode cX3_lends 4 = .ok (.getfield 82, 3) := by decide +kernel
theorem dX3_lends_7 : decode cX3_lends 7 = .ok (.if_icmp .ge 19, 3) := by decide +kernel
theorem dX3_lends_10 : decode cX3_lends 10 = .ok (.aload_n 0, 1) := by decide +kernel
theorem dX3_lends_11 : decode cX3_lends 11 = .ok (.getfield 7, 3) := by decide +kernel
theorem dX3_lends_14 : decode cX3_lends 14 = .ok (.iload_n 1, 1) := by decide +kernel
theorem dX3_lends_15 : decode cX3_lends 15 = .ok (.iconst 1, 1) := by decide +kernel
theorem dX3_lends_16 : decode cX3_lends 16 = .ok (.iadd, 1) := by decide +kernel
theorem dX3_lends_17 : decode cX3_lends 17 = .ok (.iaload, 1) := by decide +kernel
theorem dX3_lends_18 : decode cX3_lends 18 = .ok (.iconst 3, 1) := by decide +kernel
theorem dX3_lends_19 : decode cX3_lends 19 = .ok (.if_icmp .ne 7, 3) := by decide +kernel
theorem dX3_lends_22 : decode cX3_lends 22 = .ok (.iconst 1, 1) := by decide +kernel
theorem dX3_lends_23 : decode cX3_lends 23 = .ok (.goto 4, 3) := by decide +kernel
theorem dX3_lends_26 : decode cX3_lends 26 = .ok (.iconst 0, 1) := by decide +kernel
theorem dX3_lends_27 : decode cX3_lends 27 = .ok (.ireturn, 1) := by decide +kernel
theorem dX3_ageNone_0 : decode cX3_ageNone 0 = .ok (.aload_n 0, 1) := by decide +kernel
theorem dX3_ageNone_1 : decode cX3_ageNone 1 = .ok (.getfield 13, 3) := by decide +kernel
theorem dX3_ageNone_4 : decode cX3_ageNone 4 = .ok (.iload_n 1, 1) := by decide +kernel
theorem dX3_ageNone_5 : decode cX3_ageNone 5 = .ok (.iconst 0, 1) := by decide +kernel
theorem dX3_ageNone_6 : decode cX3_ageNone 6 = .ok (.iastore, 1) := by decide +kernel
theorem dX3_ageNone_7 : decode cX3_ageNone 7 = .ok (.aload_n 0, 1) := by decide +kernel
theorem dX3_ageNone_8 : decode cX3_ageNone 8 = .ok (.iload_n 1, 1) := by decide +kernel
theorem dX3_ageNone_9 : decode cX3_ageNone 9 = .ok (.invokevirtual 104, 3) := by decide +kernel
theorem dX3_ageNone_12 : decode cX3_ageNone 12 = .ok (.ifCond .eq 12, 3) := by decide +kernel
theorem dX3_ageNone_15 : decode cX3_ageNone 15 = .ok (.aload_n 0, 1) := by decide +kernel
theorem dX3_ageNone_16 : decode cX3_ageNone 16 = .ok (.getfield 13, 3) := by decide +kernel
theorem dX3_ageNone_19 : decode cX3_ageNone 19 = .ok (.iload_n 1, 1) := by decide +kernel
theorem dX3_ageNone_20 : decode cX3_ageNone 20 = .ok (.iconst 1, 1) := by decide +kernel
theorem dX3_ageNone_21 : decode cX3_ageNone 21 = .ok (.iadd, 1) := by decide +kernel
theorem dX3_ageNone_22 : decode cX3_ageNone 22 = .ok (.iconst 0, 1) := by decide +kernel
theorem dX3_ageNone_23 : decode cX3_ageNone 23 = .ok (.iastore, 1) := by decide +kernel
theorem dX3_ageNone_24 : decode cX3_ageNone 24 = .ok (.return_, 1) := by decide +kernel
theorem dX3_ageMore_0 : decode cX3_ageMore 0 = .ok (.iconst 0, 1) := by decide +kernel
theorem dX3_ageMore_1 : decode cX3_ageMore 1 = .ok (.istore_n 1, 1) := by decide +kernel
theorem dX3_ageMore_2 : decode cX3_ageMore 2 = .ok (.iload_n 1, 1) := by decide +kernel
theorem dX3_ageMore_3 : decode cX3_ageMore 3 = .ok (.aload_n 0, 1) := by decide +kernel
theorem dX3_ageMore_4 : decode cX3_ageMore 4 = .ok (.getfield 82, 3) := by decide +kernel
theorem dX3_ageMore_7 : decode cX3_ageMore 7 = .ok (.if_icmp .ge 33, 3) := by decide +kernel
theorem dX3_ageMore_10 : decode cX3_ageMore 10 = .ok (.aload_n 0, 1) := by decide +kernel
theorem dX3_ageMore_11 : decode cX3_ageMore 11 = .ok (.getfield 13, 3) := by decide +kernel
theorem dX3_ageMore_14 : decode cX3_ageMore 14 = .ok (.iload_n 1, 1) := by decide +kernel
theorem dX3_ageMore_15 : decode cX3_ageMore 15 = .ok (.dup2, 1) := by decide +kernel
theorem dX3_ageMore_16 : decode cX3_ageMore 16 = .ok (.iaload, 1) := by decide +kernel
theorem dX3_ageMore_17 : decode cX3_ageMore 17 = .ok (.aload_n 0, 1) := by decide +kernel
theorem dX3_ageMore_18 : decode cX3_ageMore 18 = .ok (.getfield 7, 3) := by decide +kernel
theorem dX3_ageMore_21 : decode cX3_ageMore 21 = .ok (.iload_n 1, 1) := by decide +kernel
theorem dX3_ageMore_22 : decode cX3_ageMore 22 = .ok (.iaload, 1) := by decide +kernel
theorem dX3_ageMore_23 : decode cX3_ageMore 23 = .ok (.iconst 4, 1) := by decide +kernel
theorem dX3_ageMore_24 : decode cX3_ageMore 24 = .ok (.if_icmp .ne 7, 3) := by decide +kernel
theorem dX3_ageMore_27 : decode cX3_ageMore 27 = .ok (.iconst 0, 1) := by decide +kernel
theorem dX3_ageMore_28 : decode cX3_ageMore 28 = .ok (.goto 4, 3) := by decide +kernel
theorem dX3_ageMore_31 : decode cX3_ageMore 31 = .ok (.iconst 1, 1) := by decide +kernel
theorem dX3_ageMore_32 : decode cX3_ageMore 32 = .ok (.iadd, 1) := by decide +kernel
theorem dX3_ageMore_33 : decode cX3_ageMore 33 = .ok (.iastore, 1) := by decide +kernel
theorem dX3_ageMore_34 : decode cX3_ageMore 34 = .ok (.iinc 1 1, 3) := by decide +kernel
theorem dX3_ageMore_37 : decode cX3_ageMore 37 = .ok (.goto (-35), 3) := by decide +kernel
theorem dX3_ageMore_40 : decode cX3_ageMore 40 = .ok (.return_, 1) := by decide +kernel
theorem dX3_orderOf_0 : decode cX3_orderOf 0 = .ok (.iconst 0, 1) := by decide +kernel
theorem dX3_orderOf_1 : decode cX3_orderOf 1 = .ok (.istore_n 2, 1) := by decide +kernel
theorem dX3_orderOf_2 : decode cX3_orderOf 2 = .ok (.iconst 0, 1) := by decide +kernel
theorem dX3_orderOf_3 : decode cX3_orderOf 3 = .ok (.istore_n 3, 1) := by decide +kernel
theorem dX3_orderOf_4 : decode cX3_orderOf 4 = .ok (.iload_n 3, 1) := by decide +kernel
theorem dX3_orderOf_5 : decode cX3_orderOf 5 = .ok (.aload_n 0, 1) := by decide +kernel
theorem dX3_orderOf_6 : decode cX3_orderOf 6 = .ok (.getfield 82, 3) := by decide +kernel
theorem dX3_orderOf_9 : decode cX3_orderOf 9 = .ok (.if_icmp .ge 48, 3) := by decide +kernel
theorem dX3_orderOf_12 : decode cX3_orderOf 12 = .ok (.iload_n 2, 1) := by decide +kernel
theorem dX3_orderOf_13 : decode cX3_orderOf 13 = .ok (.aload_n 0, 1) := by decide +kernel
theorem dX3_orderOf_14 : decode cX3_orderOf 14 = .ok (.iload_n 3, 1) := by decide +kernel
theorem dX3_orderOf_15 : decode cX3_orderOf 15 = .ok (.invokevirtual 107, 3) := by decide +kernel
theorem dX3_orderOf_18 : decode cX3_orderOf 18 = .ok (.aload_n 0, 1) := by decide +kernel
theorem dX3_orderOf_19 : decode cX3_orderOf 19 = .ok (.iload_n 1, 1) := by decide +kernel
theorem dX3_orderOf_20 : decode cX3_orderOf 20 = .ok (.invokevirtual 107, 3) := by decide +kernel
theorem dX3_orderOf_23 : decode cX3_orderOf 23 = .ok (.if_icmp .lt 21, 3) := by decide +kernel
theorem dX3_orderOf_26 : decode cX3_orderOf 26 = .ok (.aload_n 0, 1) := by decide +kernel
theorem dX3_orderOf_27 : decode cX3_orderOf 27 = .ok (.iload_n 3, 1) := by decide +kernel
theorem dX3_orderOf_28 : decode cX3_orderOf 28 = .ok (.invokevirtual 107, 3) := by decide +kernel
theorem dX3_orderOf_31 : decode cX3_orderOf 31 = .ok (.aload_n 0, 1) := by decide +kernel
theorem dX3_orderOf_32 : decode cX3_orderOf 32 = .ok (.iload_n 1, 1) := by decide +kernel
theorem dX3_orderOf_33 : decode cX3_orderOf 33 = .ok (.invokevirtual 107, 3) := by decide +kernel
theorem dX3_orderOf_36 : decode cX3_orderOf 36 = .ok (.if_icmp .ne 12, 3) := by decide +kernel
theorem dX3_orderOf_39 : decode cX3_orderOf 39 = .ok (.iload_n 3, 1) := by decide +kernel
theorem dX3_orderOf_40 : decode cX3_orderOf 40 = .ok (.iload_n 1, 1) := by decide +kernel
theorem dX3_orderOf_41 : decode cX3_orderOf 41 = .ok (.if_icmp .ge 7, 3) := by decide +kernel
theorem dX3_orderOf_44 : decode cX3_orderOf 44 = .ok (.iconst 1, 1) := by decide +kernel
theorem dX3_orderOf_45 : decode cX3_orderOf 45 = .ok (.goto 4, 3) := by decide +kernel
theorem dX3_orderOf_48 : decode cX3_orderOf 48 = .ok (.iconst 0, 1) := by decide +kernel
theorem dX3_orderOf_49 : decode cX3_orderOf 49 = .ok (.iadd, 1) := by decide +kernel
theorem dX3_orderOf_50 : decode cX3_orderOf 50 = .ok (.istore_n 2, 1) := by decide +kernel
theorem dX3_orderOf_51 : decode cX3_orderOf 51 = .ok (.iinc 3 1, 3) := by decide +kernel
theorem dX3_orderOf_54 : decode cX3_orderOf 54 = .ok (.goto (-50), 3) := by decide +kernel
theorem dX3_orderOf_57 : decode cX3_orderOf 57 = .ok (.iload_n 2, 1) := by decide +kernel
theorem dX3_orderOf_58 : decode cX3_orderOf 58 = .ok (.ireturn, 1) := by decide +kernel
theorem dX3_walkNow_0 : decode cX3_walkNow 0 = .ok (.iconst 0, 1) := by decide +kernel
theorem dX3_walkNow_1 : decode cX3_walkNow 1 = .ok (.istore_n 1, 1) := by decide +kernel
theorem dX3_walkNow_2 : decode cX3_walkNow 2 = .ok (.iconst 0, 1) := by decide +kernel
theorem dX3_walkNow_3 : decode cX3_walkNow 3 = .ok (.istore_n 2, 1) := by decide +kernel
theorem dX3_walkNow_4 : decode cX3_walkNow 4 = .ok (.iconst 0, 1) := by decide +kernel
theorem dX3_walkNow_5 : decode cX3_walkNow 5 = .ok (.istore_n 3, 1) := by decide +kernel
theorem dX3_walkNow_6 : decode cX3_walkNow 6 = .ok (.iload_n 3, 1) := by decide +kernel
theorem dX3_walkNow_7 : decode cX3_walkNow 7 = .ok (.aload_n 0, 1) := by decide +kernel
theorem dX3_walkNow_8 : decode cX3_walkNow 8 = .ok (.getfield 82, 3) := by decide +kernel
theorem dX3_walkNow_11 : decode cX3_walkNow 11 = .ok (.if_icmp .ge 51, 3) := by decide +kernel
theorem dX3_walkNow_14 : decode cX3_walkNow 14 = .ok (.iconst 0, 1) := by decide +kernel
theorem dX3_walkNow_15 : decode cX3_walkNow 15 = .ok (.istore 4, 2) := by decide +kernel
theorem dX3_walkNow_17 : decode cX3_walkNow 17 = .ok (.aload_n 0, 1) := by decide +kernel
theorem dX3_walkNow_18 : decode cX3_walkNow 18 = .ok (.iload 4, 2) := by decide +kernel
theorem dX3_walkNow_20 : decode cX3_walkNow 20 = .ok (.invokevirtual 110, 3) := by decide +kernel
theorem dX3_walkNow_23 : decode cX3_walkNow 23 = .ok (.iload_n 3, 1) := by decide +kernel
theorem dX3_walkNow_24 : decode cX3_walkNow 24 = .ok (.if_icmp .eq 9, 3) := by decide +kernel
theorem dX3_walkNow_27 : decode cX3_walkNow 27 = .ok (.iinc 4 1, 3) := by decide +kernel
theorem dX3_walkNow_30 : decode cX3_walkNow 30 = .ok (.goto (-13), 3) := by decide +kernel
theorem dX3_walkNow_33 : decode cX3_walkNow 33 = .ok (.iload_n 1, 1) := by decide +kernel
theorem dX3_walkNow_34 : decode cX3_walkNow 34 = .ok (.iload 4, 2) := by decide +kernel
theorem dX3_walkNow_36 : decode cX3_walkNow 36 = .ok (.iload_n 2, 1) := by decide +kernel
theorem dX3_walkNow_37 : decode cX3_walkNow 37 = .ok (.if_icmp .le 10, 3) := by decide +kernel
theorem dX3_walkNow_40 : decode cX3_walkNow 40 = .ok (.iload 4, 2) := by decide +kernel
theorem dX3_walkNow_42 : decode cX3_walkNow 42 = .ok (.iload_n 2, 1) := by decide +kernel
theorem dX3_walkNow_43 : decode cX3_walkNow 43 = .ok (.isub, 1) := by decide +kernel
theorem dX3_walkNow_44 : decode cX3_walkNow 44 = .ok (.goto 7, 3) := by decide +kernel
theorem dX3_walkNow_47 : decode cX3_walkNow 47 = .ok (.iload_n 2, 1) := by decide +kernel
theorem dX3_walkNow_48 : decode cX3_walkNow 48 = .ok (.iload 4, 2) := by decide +kernel
theorem dX3_walkNow_50 : decode cX3_walkNow 50 = .ok (.isub, 1) := by decide +kernel
theorem dX3_walkNow_51 : decode cX3_walkNow 51 = .ok (.iadd, 1) := by decide +kernel
theorem dX3_walkNow_52 : decode cX3_walkNow 52 = .ok (.istore_n 1, 1) := by decide +kernel
theorem dX3_walkNow_53 : decode cX3_walkNow 53 = .ok (.iload 4, 2) := by decide +kernel
theorem dX3_walkNow_55 : decode cX3_walkNow 55 = .ok (.istore_n 2, 1) := by decide +kernel
theorem dX3_walkNow_56 : decode cX3_walkNow 56 = .ok (.iinc 3 1, 3) := by decide +kernel
theorem dX3_walkNow_59 : decode cX3_walkNow 59 = .ok (.goto (-53), 3) := by decide +kernel
theorem dX3_walkNow_62 : decode cX3_walkNow 62 = .ok (.iload_n 1, 1) := by decide +kernel
theorem dX3_walkNow_63 : decode cX3_walkNow 63 = .ok (.ireturn, 1) := by decide +kernel
theorem dX3_houseOf_0 : decode cX3_houseOf 0 = .ok (.iconst (-1), 1) := by decide +kernel
theorem dX3_houseOf_1 : decode cX3_houseOf 1 = .ok (.istore_n 3, 1) := by decide +kernel
theorem dX3_houseOf_2 : decode cX3_houseOf 2 = .ok (.aload_n 0, 1) := by decide +kernel
theorem dX3_houseOf_3 : decode cX3_houseOf 3 = .ok (.getfield 82, 3) := by decide +kernel
theorem dX3_houseOf_6 : decode cX3_houseOf 6 = .ok (.iconst 1, 1) := by decide +kernel
theorem dX3_houseOf_7 : decode cX3_houseOf 7 = .ok (.isub, 1) := by decide +kernel
theorem dX3_houseOf_8 : decode cX3_houseOf 8 = .ok (.istore 4, 2) := by decide +kernel
theorem dX3_houseOf_10 : decode cX3_houseOf 10 = .ok (.iload 4, 2) := by decide +kernel
theorem dX3_houseOf_12 : decode cX3_houseOf 12 = .ok (.ifCond .lt 27, 3) := by decide +kernel
theorem dX3_houseOf_15 : decode cX3_houseOf 15 = .ok (.aload_n 0, 1) := by decide +kernel
theorem dX3_houseOf_16 : decode cX3_houseOf 16 = .ok (.iload 4, 2) := by decide +kernel
theorem dX3_houseOf_18 : decode cX3_houseOf 18 = .ok (.iload_n 2, 1) := by decide +kernel
theorem dX3_houseOf_19 : decode cX3_houseOf 19 = .ok (.invokevirtual 113, 3) := by decide +kernel
theorem dX3_houseOf_22 : decode cX3_houseOf 22 = .ok (.iload_n 1, 1) := by decide +kernel
theorem dX3_houseOf_23 : decode cX3_houseOf 23 = .ok (.if_icmp .ne 8, 3) := by decide +kernel
theorem dX3_houseOf_26 : decode cX3_houseOf 26 = .ok (.iload 4, 2) := by decide +kernel
theorem dX3_houseOf_28 : decode cX3_houseOf 28 = .ok (.goto 4, 3) := by decide +kernel
theorem dX3_houseOf_31 : decode cX3_houseOf 31 = .ok (.iload_n 3, 1) := by decide +kernel
theorem dX3_houseOf_32 : decode cX3_houseOf 32 = .ok (.istore_n 3, 1) := by decide +kernel
theorem dX3_houseOf_33 : decode cX3_houseOf 33 = .ok (.iinc 4 (-1), 3) := by decide +kernel
theorem dX3_houseOf_36 : decode cX3_houseOf 36 = .ok (.goto (-26), 3) := by decide +kernel
theorem dX3_houseOf_39 : decode cX3_houseOf 39 = .ok (.iload_n 3, 1) := by decide +kernel
theorem dX3_houseOf_40 : decode cX3_houseOf 40 = .ok (.ireturn, 1) := by decide +kernel
theorem dX3_owes_0 : decode cX3_owes 0 = .ok (.iconst 0, 1) := by decide +kernel
theorem dX3_owes_1 : decode cX3_owes 1 = .ok (.istore_n 2, 1) := by decide +kernel
theorem dX3_owes_2 : decode cX3_owes 2 = .ok (.iconst 0, 1) := by decide +kernel
theorem dX3_owes_3 : decode cX3_owes 3 = .ok (.istore_n 3, 1) := by decide +kernel
theorem dX3_owes_4 : decode cX3_owes 4 = .ok (.iload_n 3, 1) := by decide +kernel
theorem dX3_owes_5 : decode cX3_owes 5 = .ok (.aload_n 0, 1) := by decide +kernel
theorem dX3_owes_6 : decode cX3_owes 6 = .ok (.getfield 94, 3) := by decide +kernel
theorem dX3_owes_9 : decode cX3_owes 9 = .ok (.if_icmp .ge 40, 3) := by decide +kernel
theorem dX3_owes_12 : decode cX3_owes 12 = .ok (.iload_n 2, 1) := by decide +kernel
theorem dX3_owes_13 : decode cX3_owes 13 = .ok (.aload_n 0, 1) := by decide +kernel
theorem dX3_owes_14 : decode cX3_owes 14 = .ok (.aload_n 0, 1) := by decide +kernel
theorem dX3_owes_15 : decode cX3_owes 15 = .ok (.getfield 25, 3) := by decide +kernel
theorem dX3_owes_18 : decode cX3_owes 18 = .ok (.iload_n 3, 1) := by decide +kernel
theorem dX3_owes_19 : decode cX3_owes 19 = .ok (.iaload, 1) := by decide +kernel
theorem dX3_owes_20 : decode cX3_owes 20 = .ok (.aload_n 0, 1) := by decide +kernel
theorem dX3_owes_21 : decode cX3_owes 21 = .ok (.getfield 88, 3) := by decide +kernel
theorem dX3_owes_24 : decode cX3_owes 24 = .ok (.invokevirtual 116, 3) := by decide +kernel
theorem dX3_owes_27 : decode cX3_owes 27 = .ok (.iload_n 1, 1) := by decide +kernel
theorem dX3_owes_28 : decode cX3_owes 28 = .ok (.if_icmp .ne 12, 3) := by decide +kernel
theorem dX3_owes_31 : decode cX3_owes 31 = .ok (.aload_n 0, 1) := by decide +kernel
theorem dX3_owes_32 : decode cX3_owes 32 = .ok (.getfield 22, 3) := by decide +kernel
theorem dX3_owes_35 : decode cX3_owes 35 = .ok (.iload_n 3, 1) := by decide +kernel
theorem dX3_owes_36 : decode cX3_owes 36 = .ok (.iaload, 1) := by decide +kernel
theorem dX3_owes_37 : decode cX3_owes 37 = .ok (.goto 4, 3) := by decide +kernel
theorem dX3_owes_40 : decode cX3_owes 40 = .ok (.iconst 0, 1) := by decide +kernel
theorem dX3_owes_41 : decode cX3_owes 41 = .ok (.iadd, 1) := by decide +kernel
theorem dX3_owes_42 : decode cX3_owes 42 = .ok (.istore_n 2, 1) := by decide +kernel
theorem dX3_owes_43 : decode cX3_owes 43 = .ok (.iinc 3 1, 3) := by decide +kernel
theorem dX3_owes_46 : decode cX3_owes 46 = .ok (.goto (-42), 3) := by decide +kernel
theorem dX3_owes_49 : decode cX3_owes 49 = .ok (.iload_n 2, 1) := by decide +kernel
theorem dX3_owes_50 : decode cX3_owes 50 = .ok (.ireturn, 1) := by decide +kernel
theorem dX3_houseNow_0 : decode cX3_houseNow 0 = .ok (.iload_n 2, 1) := by decide +kernel
theorem dX3_houseNow_1 : decode cX3_houseNow 1 = .ok (.tableswitch 68 0 4 #[35, 42, 49, 55, 62], 35) := by decide +kernel
theorem dX3_houseNow_36 : decode cX3_houseNow 36 = .ok (.aload_n 0, 1) := by decide +kernel
theorem dX3_houseNow_37 : decode cX3_houseNow 37 = .ok (.getfield 7, 3) := by decide +kernel
theorem dX3_houseNow_40 : decode cX3_houseNow 40 = .ok (.iload_n 1, 1) := by decide +kernel
theorem dX3_houseNow_41 : decode cX3_houseNow 41 = .ok (.iaload, 1) := by decide +kernel
theorem dX3_houseNow_42 : decode cX3_houseNow 42 = .ok (.ireturn, 1) := by decide +kernel
theorem dX3_houseNow_43 : decode cX3_houseNow 43 = .ok (.aload_n 0, 1) := by decide +kernel
theorem dX3_houseNow_44 : decode cX3_houseNow 44 = .ok (.getfield 13, 3) := by decide +kernel
theorem dX3_houseNow_47 : decode cX3_houseNow 47 = .ok (.iload_n 1, 1) := by decide +kernel
theorem dX3_houseNow_48 : decode cX3_houseNow 48 = .ok (.iaload, 1) := by decide +kernel
theorem dX3_houseNow_49 : decode cX3_houseNow 49 = .ok (.ireturn, 1) := by decide +kernel
theorem dX3_houseNow_50 : decode cX3_houseNow 50 = .ok (.aload_n 0, 1) := by decide +kernel
theorem dX3_houseNow_51 : decode cX3_houseNow 51 = .ok (.iload_n 1, 1) := by decide +kernel
theorem dX3_houseNow_52 : decode cX3_houseNow 52 = .ok (.invokevirtual 107, 3) := by decide +kernel
theorem dX3_houseNow_55 : decode cX3_houseNow 55 = .ok (.ireturn, 1) := by decide +kernel
theorem dX3_houseNow_56 : decode cX3_houseNow 56 = .ok (.aload_n 0, 1) := by decide +kernel
theorem dX3_houseNow_57 : decode cX3_houseNow 57 = .ok (.getfield 16, 3) := by decide +kernel
theorem dX3_houseNow_60 : decode cX3_houseNow 60 = .ok (.iload_n 1, 1) := by decide +kernel
theorem dX3_houseNow_61 : decode cX3_houseNow 61 = .ok (.iaload, 1) := by decide +kernel
theorem dX3_houseNow_62 : decode cX3_houseNow 62 = .ok (.ireturn, 1) := by decide +kernel
theorem dX3_houseNow_63 : decode cX3_houseNow 63 = .ok (.aload_n 0, 1) := by decide +kernel
theorem dX3_houseNow_64 : decode cX3_houseNow 64 = .ok (.iload_n 1, 1) := by decide +kernel
theorem dX3_houseNow_65 : decode cX3_houseNow 65 = .ok (.invokevirtual 119, 3) := by decide +kernel
theorem dX3_houseNow_68 : decode cX3_houseNow 68 = .ok (.ireturn, 1) := by decide +kernel
theorem dX3_houseNow_69 : decode cX3_houseNow 69 = .ok (.aload_n 0, 1) := by decide +kernel
theorem dX3_houseNow_70 : decode cX3_houseNow 70 = .ok (.iload_n 1, 1) := by decide +kernel
theorem dX3_houseNow_71 : decode cX3_houseNow 71 = .ok (.invokevirtual 110, 3) := by decide +kernel
theorem dX3_houseNow_74 : decode cX3_houseNow 74 = .ok (.ireturn, 1) := by decide +kernel
theorem dX3_about_0 : decode cX3_about 0 = .ok (.aload_n 0, 1) := by decide +kernel
theorem dX3_about_1 : decode cX3_about 1 = .ok (.iload_n 1, 1) := by decide +kernel
theorem dX3_about_2 : decode cX3_about 2 = .ok (.invokevirtual 122, 3) := by decide +kernel
theorem dX3_about_5 : decode cX3_about 5 = .ok (.ifCond .ne 8, 3) := by decide +kernel
theorem dX3_about_8 : decode cX3_about 8 = .ok (.bipush (-101), 2) := by decide +kernel
theorem dX3_about_10 : decode cX3_about 10 = .ok (.goto 23, 3) := by decide +kernel
theorem dX3_about_13 : decode cX3_about 13 = .ok (.iload_n 2, 1) := by decide +kernel
theorem dX3_about_14 : decode cX3_about 14 = .ok (.iconst 0, 1) := by decide +kernel
theorem dX3_about_15 : decode cX3_about 15 = .ok (.iconst 5, 1) := by decide +kernel
theorem dX3_about_16 : decode cX3_about 16 = .ok (.invokestatic 62, 3) := by decide +kernel
theorem dX3_about_19 : decode cX3_about 19 = .ok (.ifCond .eq 12, 3) := by decide +kernel
theorem dX3_about_22 : decode cX3_about 22 = .ok (.aload_n 0, 1) := by decide +kernel
theorem dX3_about_23 : decode cX3_about 23 = .ok (.iload_n 1, 1) := by decide +kernel
theorem dX3_about_24 : decode cX3_about 24 = .ok (.iload_n 2, 1) := by decide +kernel
theorem dX3_about_25 : decode cX3_about 25 = .ok (.invokevirtual 125, 3) := by decide +kernel
theorem dX3_about_28 : decode cX3_about 28 = .ok (.goto 5, 3) := by decide +kernel
theorem dX3_about_31 : decode cX3_about 31 = .ok (.bipush (-102), 2) := by decide +kernel
theorem dX3_about_33 : decode cX3_about 33 = .ok (.ireturn, 1) := by decide +kernel
theorem dX3_as_0 : decode cX3_as 0 = .ok (.aload_n 0, 1) := by decide +kernel
theorem dX3_as_1 : decode cX3_as 1 = .ok (.iload_n 1, 1) := by decide +kernel
theorem dX3_as_2 : decode cX3_as 2 = .ok (.invokevirtual 122, 3) := by decide +kernel
theorem dX3_as_5 : decode cX3_as 5 = .ok (.ifCond .ne 6, 3) := by decide +kernel
theorem dX3_as_8 : decode cX3_as 8 = .ok (.bipush (-101), 2) := by decide +kernel
theorem dX3_as_10 : decode cX3_as 10 = .ok (.ireturn, 1) := by decide +kernel
theorem dX3_as_11 : decode cX3_as 11 = .ok (.iload_n 2, 1) := by decide +kernel
theorem dX3_as_12 : decode cX3_as 12 = .ok (.iconst 0, 1) := by decide +kernel
theorem dX3_as_13 : decode cX3_as 13 = .ok (.iconst 4, 1) := by decide +kernel
theorem dX3_as_14 : decode cX3_as 14 = .ok (.invokestatic 62, 3) := by decide +kernel
theorem dX3_as_17 : decode cX3_as 17 = .ok (.ifCond .ne 6, 3) := by decide +kernel
theorem dX3_as_20 : decode cX3_as 20 = .ok (.bipush (-102), 2) := by decide +kernel
theorem dX3_as_22 : decode cX3_as 22 = .ok (.ireturn, 1) := by decide +kernel
theorem dX3_as_23 : decode cX3_as 23 = .ok (.aload_n 0, 1) := by decide +kernel
theorem dX3_as_24 : decode cX3_as 24 = .ok (.getfield 7, 3) := by decide +kernel
theorem dX3_as_27 : decode cX3_as 27 = .ok (.iload_n 1, 1) := by decide +kernel
theorem dX3_as_28 : decode cX3_as 28 = .ok (.iaload, 1) := by decide +kernel
theorem dX3_as_29 : decode cX3_as 29 = .ok (.istore_n 3, 1) := by decide +kernel
theorem dX3_as_30 : decode cX3_as 30 = .ok (.iload_n 2, 1) := by decide +kernel
theorem dX3_as_31 : decode cX3_as 31 = .ok (.ifCond .eq 18, 3) := by decide +kernel
theorem dX3_as_34 : decode cX3_as 34 = .ok (.iload_n 3, 1) := by decide +kernel
theorem dX3_as_35 : decode cX3_as 35 = .ok (.iload_n 2, 1) := by decide +kernel
theorem dX3_as_36 : decode cX3_as 36 = .ok (.if_icmp .eq 13, 3) := by decide +kernel
theorem dX3_as_39 : decode cX3_as 39 = .ok (.iload_n 2, 1) := by decide +kernel
theorem dX3_as_40 : decode cX3_as 40 = .ok (.iconst 2, 1) := by decide +kernel
theorem dX3_as_41 : decode cX3_as 41 = .ok (.if_icmp .ne 12, 3) := by decide +kernel
theorem dX3_as_44 : decode cX3_as 44 = .ok (.iload_n 3, 1) := by decide +kernel
theorem dX3_as_45 : decode cX3_as 45 = .ok (.iconst 4, 1) := by decide +kernel
theorem dX3_as_46 : decode cX3_as 46 = .ok (.if_icmp .ne 7, 3) := by decide +kernel
theorem dX3_as_49 : decode cX3_as 49 = .ok (.iload_n 1, 1) := by decide +kernel
theorem dX3_as_50 : decode cX3_as 50 = .ok (.goto 4, 3) := by decide +kernel
theorem dX3_as_53 : decode cX3_as 53 = .ok (.iconst (-1), 1) := by decide +kernel
theorem dX3_as_54 : decode cX3_as 54 = .ok (.ireturn, 1) := by decide +kernel
theorem dX3_birth_0 : decode cX3_birth 0 = .ok (.aload_n 0, 1) := by decide +kernel
theorem dX3_birth_1 : decode cX3_birth 1 = .ok (.iload_n 1, 1) := by decide +kernel
theorem dX3_birth_2 : decode cX3_birth 2 = .ok (.invokevirtual 122, 3) := by decide +kernel
theorem dX3_birth_5 : decode cX3_birth 5 = .ok (.ifCond .ne 6, 3) := by decide +kernel
theorem dX3_birth_8 : decode cX3_birth 8 = .ok (.bipush (-101), 2) := by decide +kernel
theorem dX3_birth_10 : decode cX3_birth 10 = .ok (.ireturn, 1) := by decide +kernel
theorem dX3_birth_11 : decode cX3_birth 11 = .ok (.aload_n 0, 1) := by decide +kernel
theorem dX3_birth_12 : decode cX3_birth 12 = .ok (.iload_n 1, 1) := by decide +kernel
theorem dX3_birth_13 : decode cX3_birth 13 = .ok (.invokevirtual 128, 3) := by decide +kernel
theorem dX3_birth_16 : decode cX3_birth 16 = .ok (.ifCond .ne 6, 3) := by decide +kernel
theorem dX3_birth_19 : decode cX3_birth 19 = .ok (.bipush (-103), 2) := by decide +kernel
theorem dX3_birth_21 : decode cX3_birth 21 = .ok (.ireturn, 1) := by decide +kernel
theorem dX3_birth_22 : decode cX3_birth 22 = .ok (.aload_n 0, 1) := by decide +kernel
theorem dX3_birth_23 : decode cX3_birth 23 = .ok (.iload_n 1, 1) := by decide +kernel
theorem dX3_birth_24 : decode cX3_birth 24 = .ok (.invokevirtual 131, 3) := by decide +kernel
theorem dX3_birth_27 : decode cX3_birth 27 = .ok (.aload_n 0, 1) := by decide +kernel
theorem dX3_birth_28 : decode cX3_birth 28 = .ok (.getfield 16, 3) := by decide +kernel
theorem dX3_birth_31 : decode cX3_birth 31 = .ok (.iload_n 1, 1) := by decide +kernel
theorem dX3_birth_32 : decode cX3_birth 32 = .ok (.dup2, 1) := by decide +kernel
theorem dX3_birth_33 : decode cX3_birth 33 = .ok (.iaload, 1) := by decide +kernel
theorem dX3_birth_34 : decode cX3_birth 34 = .ok (.iconst 1, 1) := by decide +kernel
theorem dX3_birth_35 : decode cX3_birth 35 = .ok (.iadd, 1) := by decide +kernel
theorem dX3_birth_36 : decode cX3_birth 36 = .ok (.iastore, 1) := by decide +kernel
theorem dX3_birth_37 : decode cX3_birth 37 = .ok (.aload_n 0, 1) := by decide +kernel
theorem dX3_birth_38 : decode cX3_birth 38 = .ok (.dup, 1) := by decide +kernel
theorem dX3_birth_39 : decode cX3_birth 39 = .ok (.getfield 91, 3) := by decide +kernel
theorem dX3_birth_42 : decode cX3_birth 42 = .ok (.iconst 1, 1) := by decide +kernel
theorem dX3_birth_43 : decode cX3_birth 43 = .ok (.iadd, 1) := by decide +kernel
theorem dX3_birth_44 : decode cX3_birth 44 = .ok (.putfield 91, 3) := by decide +kernel
theorem dX3_birth_47 : decode cX3_birth 47 = .ok (.aload_n 0, 1) := by decide +kernel
theorem dX3_birth_48 : decode cX3_birth 48 = .ok (.iload_n 1, 1) := by decide +kernel
theorem dX3_birth_49 : decode cX3_birth 49 = .ok (.invokevirtual 104, 3) := by decide +kernel
theorem dX3_birth_52 : decode cX3_birth 52 = .ok (.ifCond .eq 17, 3) := by decide +kernel
theorem dX3_birth_55 : decode cX3_birth 55 = .ok (.aload_n 0, 1) := by decide +kernel
theorem dX3_birth_56 : decode cX3_birth 56 = .ok (.getfield 16, 3) := by decide +kernel
theorem dX3_birth_59 : decode cX3_birth 59 = .ok (.iload_n 1, 1) := by decide +kernel
theorem dX3_birth_60 : decode cX3_birth 60 = .ok (.iconst 1, 1) := by decide +kernel
theorem dX3_birth_61 : decode cX3_birth 61 = .ok (.iadd, 1) := by decide +kernel
theorem dX3_birth_62 : decode cX3_birth 62 = .ok (.dup2, 1) := by decide +kernel
theorem dX3_birth_63 : decode cX3_birth 63 = .ok (.iaload, 1) := by decide +kernel
theorem dX3_birth_64 : decode cX3_birth 64 = .ok (.iconst 1, 1) := by decide +kernel
theorem dX3_birth_65 : decode cX3_birth 65 = .ok (.iadd, 1) := by decide +kernel
theorem dX3_birth_66 : decode cX3_birth 66 = .ok (.iastore, 1) := by decide +kernel
theorem dX3_birth_67 : decode cX3_birth 67 = .ok (.iconst 2, 1) := by decide +kernel
theorem dX3_birth_68 : decode cX3_birth 68 = .ok (.ireturn, 1) := by decide +kernel
theorem dX3_birth_69 : decode cX3_birth 69 = .ok (.iconst 1, 1) := by decide +kernel
theorem dX3_birth_70 : decode cX3_birth 70 = .ok (.ireturn, 1) := by decide +kernel
theorem dX3_day_0 : decode cX3_day 0 = .ok (.aload_n 0, 1) := by decide +kernel
theorem dX3_day_1 : decode cX3_day 1 = .ok (.getfield 82, 3) := by decide +kernel
theorem dX3_day_4 : decode cX3_day 4 = .ok (.ifCond .ne 6, 3) := by decide +kernel
theorem dX3_day_7 : decode cX3_day 7 = .ok (.bipush (-103), 2) := by decide +kernel
theorem dX3_day_9 : decode cX3_day 9 = .ok (.ireturn, 1) := by decide +kernel
theorem dX3_day_10 : decode cX3_day 10 = .ok (.aload_n 0, 1) := by decide +kernel
theorem dX3_day_11 : decode cX3_day 11 = .ok (.getfield 88, 3) := by decide +kernel
theorem dX3_day_14 : decode cX3_day 14 = .ok (.bipush 30, 2) := by decide +kernel
theorem dX3_day_16 : decode cX3_day 16 = .ok (.if_icmp .ne 6, 3) := by decide +kernel
theorem dX3_day_19 : decode cX3_day 19 = .ok (.bipush (-104), 2) := by decide +kernel
theorem dX3_day_21 : decode cX3_day 21 = .ok (.ireturn, 1) := by decide +kernel
theorem dX3_day_22 : decode cX3_day 22 = .ok (.iconst 0, 1) := by decide +kernel
theorem dX3_day_23 : decode cX3_day 23 = .ok (.istore_n 1, 1) := by decide +kernel
theorem dX3_day_24 : decode cX3_day 24 = .ok (.iload_n 1, 1) := by decide +kernel
theorem dX3_day_25 : decode cX3_day 25 = .ok (.aload_n 0, 1) := by decide +kernel
theorem dX3_day_26 : decode cX3_day 26 = .ok (.getfield 82, 3) := by decide +kernel
theorem dX3_day_29 : decode cX3_day 29 = .ok (.if_icmp .ge 29, 3) := by decide +kernel
theorem dX3_day_32 : decode cX3_day 32 = .ok (.aload_n 0, 1) := by decide +kernel
theorem dX3_day_33 : decode cX3_day 33 = .ok (.getfield 19, 3) := by decide +kernel
theorem dX3_day_36 : decode cX3_day 36 = .ok (.bipush 6, 2) := by decide +kernel
theorem dX3_day_38 : decode cX3_day 38 = .ok (.aload_n 0, 1) := by decide +kernel
theorem dX3_day_39 : decode cX3_day 39 = .ok (.getfield 88, 3) := by decide +kernel
theorem dX3_day_42 : decode cX3_day 42 = .ok (.imul, 1) := by decide +kernel
theorem dX3_day_43 : decode cX3_day 43 = .ok (.iload_n 1, 1) := by decide +kernel
theorem dX3_day_44 : decode cX3_day 44 = .ok (.iadd, 1) := by decide +kernel
theorem dX3_day_45 : decode cX3_day 45 = .ok (.aload_n 0, 1) := by decide +kernel
theorem dX3_day_46 : decode cX3_day 46 = .ok (.getfield 13, 3) := by decide +kernel
theorem dX3_day_49 : decode cX3_day 49 = .ok (.iload_n 1, 1) := by decide +kernel
theorem dX3_day_50 : decode cX3_day 50 = .ok (.iaload, 1) := by decide +kernel
theorem dX3_day_51 : decode cX3_day 51 = .ok (.iastore, 1) := by decide +kernel
theorem dX3_day_52 : decode cX3_day 52 = .ok (.iinc 1 1, 3) := by decide +kernel
theorem dX3_day_55 : decode cX3_day 55 = .ok (.goto (-31), 3) := by decide +kernel
theorem dX3_day_58 : decode cX3_day 58 = .ok (.aload_n 0, 1) := by decide +kernel
theorem dX3_day_59 : decode cX3_day 59 = .ok (.invokevirtual 135, 3) := by decide +kernel
theorem dX3_day_62 : decode cX3_day 62 = .ok (.aload_n 0, 1) := by decide +kernel
theorem dX3_day_63 : decode cX3_day 63 = .ok (.dup, 1) := by decide +kernel
theorem dX3_day_64 : decode cX3_day 64 = .ok (.getfield 88, 3) := by decide +kernel
theorem dX3_day_67 : decode cX3_day 67 = .ok (.iconst 1, 1) := by decide +kernel
theorem dX3_day_68 : decode cX3_day 68 = .ok (.iadd, 1) := by decide +kernel
theorem dX3_day_69 : decode cX3_day 69 = .ok (.putfield 88, 3) := by decide +kernel
theorem dX3_day_72 : decode cX3_day 72 = .ok (.aload_n 0, 1) := by decide +kernel
theorem dX3_day_73 : decode cX3_day 73 = .ok (.getfield 88, 3) := by decide +kernel
theorem dX3_day_76 : decode cX3_day 76 = .ok (.ireturn, 1) := by decide +kernel
theorem dX3_then_0 : decode cX3_then 0 = .ok (.aload_n 0, 1) := by decide +kernel
theorem dX3_then_1 : decode cX3_then 1 = .ok (.iload_n 1, 1) := by decide +kernel
theorem dX3_then_2 : decode cX3_then 2 = .ok (.invokevirtual 122, 3) := by decide +kernel
theorem dX3_then_5 : decode cX3_then 5 = .ok (.ifCond .eq 20, 3) := by decide +kernel
theorem dX3_then_8 : decode cX3_then 8 = .ok (.aload_n 0, 1) := by decide +kernel
theorem dX3_then_9 : decode cX3_then 9 = .ok (.iload_n 2, 1) := by decide +kernel
theorem dX3_then_10 : decode cX3_then 10 = .ok (.invokevirtual 138, 3) := by decide +kernel
theorem dX3_then_13 : decode cX3_then 13 = .ok (.ifCond .eq 12, 3) := by decide +kernel
theorem dX3_then_16 : decode cX3_then 16 = .ok (.aload_n 0, 1) := by decide +kernel
theorem dX3_then_17 : decode cX3_then 17 = .ok (.iload_n 1, 1) := by decide +kernel
theorem dX3_then_18 : decode cX3_then 18 = .ok (.iload_n 2, 1) := by decide +kernel
theorem dX3_then_19 : decode cX3_then 19 = .ok (.invokevirtual 113, 3) := by decide +kernel
theorem dX3_then_22 : decode cX3_then 22 = .ok (.goto 5, 3) := by decide +kernel
theorem dX3_then_25 : decode cX3_then 25 = .ok (.bipush (-101), 2) := by decide +kernel
theorem dX3_then_27 : decode cX3_then 27 = .ok (.ireturn, 1) := by decide +kernel
theorem dX3_goesTo_0 : decode cX3_goesTo 0 = .ok (.aload_n 0, 1) := by decide +kernel
theorem dX3_goesTo_1 : decode cX3_goesTo 1 = .ok (.iload_n 2, 1) := by decide +kernel
theorem dX3_goesTo_2 : decode cX3_goesTo 2 = .ok (.invokevirtual 138, 3) := by decide +kernel
theorem dX3_goesTo_5 : decode cX3_goesTo 5 = .ok (.ifCond .eq 12, 3) := by decide +kernel
theorem dX3_goesTo_8 : decode cX3_goesTo 8 = .ok (.aload_n 0, 1) := by decide +kernel
theorem dX3_goesTo_9 : decode cX3_goesTo 9 = .ok (.iload_n 1, 1) := by decide +kernel
theorem dX3_goesTo_10 : decode cX3_goesTo 10 = .ok (.iload_n 2, 1) := by decide +kernel
theorem dX3_goesTo_11 : decode cX3_goesTo 11 = .ok (.invokevirtual 116, 3) := by decide +kernel
theorem dX3_goesTo_14 : decode cX3_goesTo 14 = .ok (.goto 5, 3) := by decide +kernel
theorem dX3_goesTo_17 : decode cX3_goesTo 17 = .ok (.bipush (-101), 2) := by decide +kernel
theorem dX3_goesTo_19 : decode cX3_goesTo 19 = .ok (.ireturn, 1) := by decide +kernel
theorem dX3_walk_0 : decode cX3_walk 0 = .ok (.aload_n 0, 1) := by decide +kernel
theorem dX3_walk_1 : decode cX3_walk 1 = .ok (.getfield 82, 3) := by decide +kernel
theorem dX3_walk_4 : decode cX3_walk 4 = .ok (.ifCond .ne 8, 3) := by decide +kernel
theorem dX3_walk_7 : decode cX3_walk 7 = .ok (.bipush (-103), 2) := by decide +kernel
theorem dX3_walk_9 : decode cX3_walk 9 = .ok (.goto 7, 3) := by decide +kernel
theorem dX3_walk_12 : decode cX3_walk 12 = .ok (.aload_n 0, 1) := by decide +kernel
theorem dX3_walk_13 : decode cX3_walk 13 = .ok (.invokevirtual 141, 3) := by decide +kernel
theorem dX3_walk_16 : decode cX3_walk 16 = .ok (.ireturn, 1) := by decide +kernel
theorem dX3_debt_0 : decode cX3_debt 0 = .ok (.iload_n 1, 1) := by decide +kernel
theorem dX3_debt_1 : decode cX3_debt 1 = .ok (.iconst 1, 1) := by decide +kernel
theorem dX3_debt_2 : decode cX3_debt 2 = .ok (.bipush 9, 2) := by decide +kernel
theorem dX3_debt_4 : decode cX3_debt 4 = .ok (.invokestatic 62, 3) := by decide +kernel
theorem dX3_debt_7 : decode cX3_debt 7 = .ok (.ifCond .eq 13, 3) := by decide +kernel
theorem dX3_debt_10 : decode cX3_debt 10 = .ok (.iload_n 2, 1) := by decide +kernel
theorem dX3_debt_11 : decode cX3_debt 11 = .ok (.iconst 0, 1) := by decide +kernel
theorem dX3_debt_12 : decode cX3_debt 12 = .ok (.bipush 99, 2) := by decide +kernel
theorem dX3_debt_14 : decode cX3_debt 14 = .ok (.invokestatic 62, 3) := by decide +kernel
theorem dX3_debt_17 : decode cX3_debt 17 = .ok (.ifCond .ne 6, 3) := by decide +kernel
theorem dX3_debt_20 : decode cX3_debt 20 = .ok (.bipush (-102), 2) := by decide +kernel
theorem dX3_debt_22 : decode cX3_debt 22 = .ok (.ireturn, 1) := by decide +kernel
theorem dX3_debt_23 : decode cX3_debt 23 = .ok (.aload_n 0, 1) := by decide +kernel
theorem dX3_debt_24 : decode cX3_debt 24 = .ok (.getfield 82, 3) := by decide +kernel
theorem dX3_debt_27 : decode cX3_debt 27 = .ok (.ifCond .ne 6, 3) := by decide +kernel
theorem dX3_debt_30 : decode cX3_debt 30 = .ok (.bipush (-103), 2) := by decide +kernel
theorem dX3_debt_32 : decode cX3_debt 32 = .ok (.ireturn, 1) := by decide +kernel
theorem dX3_debt_33 : decode cX3_debt 33 = .ok (.aload_n 0, 1) := by decide +kernel
theorem dX3_debt_34 : decode cX3_debt 34 = .ok (.getfield 94, 3) := by decide +kernel
theorem dX3_debt_37 : decode cX3_debt 37 = .ok (.bipush 6, 2) := by decide +kernel
theorem dX3_debt_39 : decode cX3_debt 39 = .ok (.if_icmp .ne 6, 3) := by decide +kernel
theorem dX3_debt_42 : decode cX3_debt 42 = .ok (.bipush (-104), 2) := by decide +kernel
theorem dX3_debt_44 : decode cX3_debt 44 = .ok (.ireturn, 1) := by decide +kernel
theorem dX3_debt_45 : decode cX3_debt 45 = .ok (.aload_n 0, 1) := by decide +kernel
theorem dX3_debt_46 : decode cX3_debt 46 = .ok (.getfield 22, 3) := by decide +kernel
theorem dX3_debt_49 : decode cX3_debt 49 = .ok (.aload_n 0, 1) := by decide +kernel
theorem dX3_debt_50 : decode cX3_debt 50 = .ok (.getfield 94, 3) := by decide +kernel
theorem dX3_debt_53 : decode cX3_debt 53 = .ok (.iload_n 1, 1) := by decide +kernel
theorem dX3_debt_54 : decode cX3_debt 54 = .ok (.iastore, 1) := by decide +kernel
theorem dX3_debt_55 : decode cX3_debt 55 = .ok (.aload_n 0, 1) := by decide +kernel
theorem dX3_debt_56 : decode cX3_debt 56 = .ok (.getfield 25, 3) := by decide +kernel
theorem dX3_debt_59 : decode cX3_debt 59 = .ok (.aload_n 0, 1) := by decide +kernel
theorem dX3_debt_60 : decode cX3_debt 60 = .ok (.getfield 94, 3) := by decide +kernel
theorem dX3_debt_63 : decode cX3_debt 63 = .ok (.iload_n 2, 1) := by decide +kernel
theorem dX3_debt_64 : decode cX3_debt 64 = .ok (.iastore, 1) := by decide +kernel
theorem dX3_debt_65 : decode cX3_debt 65 = .ok (.aload_n 0, 1) := by decide +kernel
theorem dX3_debt_66 : decode cX3_debt 66 = .ok (.dup, 1) := by decide +kernel
theorem dX3_debt_67 : decode cX3_debt 67 = .ok (.getfield 94, 3) := by decide +kernel
theorem dX3_debt_70 : decode cX3_debt 70 = .ok (.iconst 1, 1) := by decide +kernel
theorem dX3_debt_71 : decode cX3_debt 71 = .ok (.iadd, 1) := by decide +kernel
theorem dX3_debt_72 : decode cX3_debt 72 = .ok (.putfield 94, 3) := by decide +kernel
theorem dX3_debt_75 : decode cX3_debt 75 = .ok (.aload_n 0, 1) := by decide +kernel
theorem dX3_debt_76 : decode cX3_debt 76 = .ok (.getfield 94, 3) := by decide +kernel
theorem dX3_debt_79 : decode cX3_debt 79 = .ok (.ireturn, 1) := by decide +kernel
theorem dX3_pay_0 : decode cX3_pay 0 = .ok (.iconst 0, 1) := by decide +kernel
theorem dX3_pay_1 : decode cX3_pay 1 = .ok (.istore_n 1, 1) := by decide +kernel
theorem dX3_pay_2 : decode cX3_pay 2 = .ok (.iconst 0, 1) := by decide +kernel
theorem dX3_pay_3 : decode cX3_pay 3 = .ok (.istore_n 2, 1) := by decide +kernel
theorem dX3_pay_4 : decode cX3_pay 4 = .ok (.iload_n 2, 1) := by decide +kernel
theorem dX3_pay_5 : decode cX3_pay 5 = .ok (.aload_n 0, 1) := by decide +kernel
theorem dX3_pay_6 : decode cX3_pay 6 = .ok (.getfield 94, 3) := by decide +kernel
theorem dX3_pay_9 : decode cX3_pay 9 = .ok (.if_icmp .ge 18, 3) := by decide +kernel
theorem dX3_pay_12 : decode cX3_pay 12 = .ok (.iload_n 1, 1) := by decide +kernel
theorem dX3_pay_13 : decode cX3_pay 13 = .ok (.aload_n 0, 1) := by decide +kernel
theorem dX3_pay_14 : decode cX3_pay 14 = .ok (.getfield 22, 3) := by decide +kernel
theorem dX3_pay_17 : decode cX3_pay 17 = .ok (.iload_n 2, 1) := by decide +kernel
theorem dX3_pay_18 : decode cX3_pay 18 = .ok (.iaload, 1) := by decide +kernel
theorem dX3_pay_19 : decode cX3_pay 19 = .ok (.iadd, 1) := by decide +kernel
theorem dX3_pay_20 : decode cX3_pay 20 = .ok (.istore_n 1, 1) := by decide +kernel
theorem dX3_pay_21 : decode cX3_pay 21 = .ok (.iinc 2 1, 3) := by decide +kernel
theorem dX3_pay_24 : decode cX3_pay 24 = .ok (.goto (-20), 3) := by decide +kernel
theorem dX3_pay_27 : decode cX3_pay 27 = .ok (.aload_n 0, 1) := by decide +kernel
theorem dX3_pay_28 : decode cX3_pay 28 = .ok (.iconst 0, 1) := by decide +kernel
theorem dX3_pay_29 : decode cX3_pay 29 = .ok (.putfield 94, 3) := by decide +kernel
theorem dX3_pay_32 : decode cX3_pay 32 = .ok (.iload_n 1, 1) := by decide +kernel
theorem dX3_pay_33 : decode cX3_pay 33 = .ok (.ireturn, 1) := by decide +kernel
theorem dX3_save_0 : decode cX3_save 0 = .ok (.iconst 0, 1) := by decide +kernel
theorem dX3_save_1 : decode cX3_save 1 = .ok (.istore_n 1, 1) := by decide +kernel
theorem dX3_save_2 : decode cX3_save 2 = .ok (.iload_n 1, 1) := by decide +kernel
theorem dX3_save_3 : decode cX3_save 3 = .ok (.bipush 6, 2) := by decide +kernel
theorem dX3_save_5 : decode cX3_save 5 = .ok (.if_icmp .ge 21, 3) := by decide +kernel
theorem dX3_save_8 : decode cX3_save 8 = .ok (.aload_n 0, 1) := by decide +kernel
theorem dX3_save_9 : decode cX3_save 9 = .ok (.getfield 38, 3) := by decide +kernel
theorem dX3_save_12 : decode cX3_save 12 = .ok (.iload_n 1, 1) := by decide +kernel
theorem dX3_save_13 : decode cX3_save 13 = .ok (.aload_n 0, 1) := by decide +kernel
theorem dX3_save_14 : decode cX3_save 14 = .ok (.getfield 13, 3) := by decide +kernel
theorem dX3_save_17 : decode cX3_save 17 = .ok (.iload_n 1, 1) := by decide +kernel
theorem dX3_save_18 : decode cX3_save 18 = .ok (.iaload, 1) := by decide +kernel
theorem dX3_save_19 : decode cX3_save 19 = .ok (.iastore, 1) := by decide +kernel
theorem dX3_save_20 : decode cX3_save 20 = .ok (.iinc 1 1, 3) := by decide +kernel
theorem dX3_save_23 : decode cX3_save 23 = .ok (.goto (-21), 3) := by decide +kernel
theorem dX3_save_26 : decode cX3_save 26 = .ok (.return_, 1) := by decide +kernel
theorem dX3_load_0 : decode cX3_load 0 = .ok (.iconst 0, 1) := by decide +kernel
theorem dX3_load_1 : decode cX3_load 1 = .ok (.istore_n 1, 1) := by decide +kernel
theorem dX3_load_2 : decode cX3_load 2 = .ok (.iload_n 1, 1) := by decide +kernel
theorem dX3_load_3 : decode cX3_load 3 = .ok (.bipush 6, 2) := by decide +kernel
theorem dX3_load_5 : decode cX3_load 5 = .ok (.if_icmp .ge 21, 3) := by decide +kernel
theorem dX3_load_8 : decode cX3_load 8 = .ok (.aload_n 0, 1) := by decide +kernel
theorem dX3_load_9 : decode cX3_load 9 = .ok (.getfield 13, 3) := by decide +kernel
theorem dX3_load_12 : decode cX3_load 12 = .ok (.iload_n 1, 1) := by decide +kernel
theorem dX3_load_13 : decode cX3_load 13 = .ok (.aload_n 0, 1) := by decide +kernel
theorem dX3_load_14 : decode cX3_load 14 = .ok (.getfield 38, 3) := by decide +kernel
theorem dX3_load_17 : decode cX3_load 17 = .ok (.iload_n 1, 1) := by decide +kernel
theorem dX3_load_18 : decode cX3_load 18 = .ok (.iaload, 1) := by decide +kernel
theorem dX3_load_19 : decode cX3_load 19 = .ok (.iastore, 1) := by decide +kernel
theorem dX3_load_20 : decode cX3_load 20 = .ok (.iinc 1 1, 3) := by decide +kernel
theorem dX3_load_23 : decode cX3_load 23 = .ok (.goto (-21), 3) := by decide +kernel
theorem dX3_load_26 : decode cX3_load 26 = .ok (.return_, 1) := by decide +kernel
theorem dX3_numbersAll_0 : decode cX3_numbersAll 0 = .ok (.iconst 0, 1) := by decide +kernel
theorem dX3_numbersAll_1 : decode cX3_numbersAll 1 = .ok (.istore_n 1, 1) := by decide +kernel
theorem dX3_numbersAll_2 : decode cX3_numbersAll 2 = .ok (.iconst 0, 1) := by decide +kernel
theorem dX3_numbersAll_3 : decode cX3_numbersAll 3 = .ok (.istore_n 2, 1) := by decide +kernel
theorem dX3_numbersAll_4 : decode cX3_numbersAll 4 = .ok (.iload_n 2, 1) := by decide +kernel
theorem dX3_numbersAll_5 : decode cX3_numbersAll 5 = .ok (.aload_n 0, 1) := by decide +kernel
theorem dX3_numbersAll_6 : decode cX3_numbersAll 6 = .ok (.getfield 82, 3) := by decide +kernel
theorem dX3_numbersAll_9 : decode cX3_numbersAll 9 = .ok (.if_icmp .ge 17, 3) := by decide +kernel
theorem dX3_numbersAll_12 : decode cX3_numbersAll 12 = .ok (.iload_n 1, 1) := by decide +kernel
theorem dX3_numbersAll_13 : decode cX3_numbersAll 13 = .ok (.aload_n 0, 1) := by decide +kernel
theorem dX3_numbersAll_14 : decode cX3_numbersAll 14 = .ok (.iload_n 2, 1) := by decide +kernel
theorem dX3_numbersAll_15 : decode cX3_numbersAll 15 = .ok (.invokevirtual 107, 3) := by decide +kernel
theorem dX3_numbersAll_18 : decode cX3_numbersAll 18 = .ok (.iadd, 1) := by decide +kernel
theorem dX3_numbersAll_19 : decode cX3_numbersAll 19 = .ok (.istore_n 1, 1) := by decide +kernel
theorem dX3_numbersAll_20 : decode cX3_numbersAll 20 = .ok (.iinc 2 1, 3) := by decide +kernel
theorem dX3_numbersAll_23 : decode cX3_numbersAll 23 = .ok (.goto (-19), 3) := by decide +kernel
theorem dX3_numbersAll_26 : decode cX3_numbersAll 26 = .ok (.iload_n 1, 1) := by decide +kernel
theorem dX3_numbersAll_27 : decode cX3_numbersAll 27 = .ok (.ireturn, 1) := by decide +kernel
theorem dX3_numbersBy_0 : decode cX3_numbersBy 0 = .ok (.iconst 1, 1) := by decide +kernel
theorem dX3_numbersBy_1 : decode cX3_numbersBy 1 = .ok (.istore_n 2, 1) := by decide +kernel
theorem dX3_numbersBy_2 : decode cX3_numbersBy 2 = .ok (.iconst 0, 1) := by decide +kernel
theorem dX3_numbersBy_3 : decode cX3_numbersBy 3 = .ok (.istore_n 3, 1) := by decide +kernel
theorem dX3_numbersBy_4 : decode cX3_numbersBy 4 = .ok (.iload_n 3, 1) := by decide +kernel
theorem dX3_numbersBy_5 : decode cX3_numbersBy 5 = .ok (.aload_n 0, 1) := by decide +kernel
theorem dX3_numbersBy_6 : decode cX3_numbersBy 6 = .ok (.getfield 82, 3) := by decide +kernel
theorem dX3_numbersBy_9 : decode cX3_numbersBy 9 = .ok (.if_icmp .ge 40, 3) := by decide +kernel
theorem dX3_numbersBy_12 : decode cX3_numbersBy 12 = .ok (.iload_n 1, 1) := by decide +kernel
theorem dX3_numbersBy_13 : decode cX3_numbersBy 13 = .ok (.iload_n 3, 1) := by decide +kernel
theorem dX3_numbersBy_14 : decode cX3_numbersBy 14 = .ok (.invokestatic 144, 3) := by decide +kernel
theorem dX3_numbersBy_17 : decode cX3_numbersBy 17 = .ok (.ifCond .eq 26, 3) := by decide +kernel
theorem dX3_numbersBy_20 : decode cX3_numbersBy 20 = .ok (.iload_n 2, 1) := by decide +kernel
theorem dX3_numbersBy_21 : decode cX3_numbersBy 21 = .ok (.ifCond .eq 15, 3) := by decide +kernel
theorem dX3_numbersBy_24 : decode cX3_numbersBy 24 = .ok (.aload_n 0, 1) := by decide +kernel
theorem dX3_numbersBy_25 : decode cX3_numbersBy 25 = .ok (.iload_n 3, 1) := by decide +kernel
theorem dX3_numbersBy_26 : decode cX3_numbersBy 26 = .ok (.invokevirtual 128, 3) := by decide +kernel
theorem dX3_numbersBy_29 : decode cX3_numbersBy 29 = .ok (.ifCond .eq 7, 3) := by decide +kernel
theorem dX3_numbersBy_32 : decode cX3_numbersBy 32 = .ok (.iconst 1, 1) := by decide +kernel
theorem dX3_numbersBy_33 : decode cX3_numbersBy 33 = .ok (.goto 4, 3) := by decide +kernel
theorem dX3_numbersBy_36 : decode cX3_numbersBy 36 = .ok (.iconst 0, 1) := by decide +kernel
theorem dX3_numbersBy_37 : decode cX3_numbersBy 37 = .ok (.istore_n 2, 1) := by decide +kernel
theorem dX3_numbersBy_38 : decode cX3_numbersBy 38 = .ok (.aload_n 0, 1) := by decide +kernel
theorem dX3_numbersBy_39 : decode cX3_numbersBy 39 = .ok (.iload_n 3, 1) := by decide +kernel
theorem dX3_numbersBy_40 : decode cX3_numbersBy 40 = .ok (.invokevirtual 131, 3) := by decide +kernel
theorem dX3_numbersBy_43 : decode cX3_numbersBy 43 = .ok (.iinc 3 1, 3) := by decide +kernel
theorem dX3_numbersBy_46 : decode cX3_numbersBy 46 = .ok (.goto (-42), 3) := by decide +kernel
theorem dX3_numbersBy_49 : decode cX3_numbersBy 49 = .ok (.aload_n 0, 1) := by decide +kernel
theorem dX3_numbersBy_50 : decode cX3_numbersBy 50 = .ok (.invokevirtual 148, 3) := by decide +kernel
theorem dX3_numbersBy_53 : decode cX3_numbersBy 53 = .ok (.istore_n 3, 1) := by decide +kernel
theorem dX3_numbersBy_54 : decode cX3_numbersBy 54 = .ok (.aload_n 0, 1) := by decide +kernel
theorem dX3_numbersBy_55 : decode cX3_numbersBy 55 = .ok (.invokevirtual 151, 3) := by decide +kernel
theorem dX3_numbersBy_58 : decode cX3_numbersBy 58 = .ok (.iload_n 2, 1) := by decide +kernel
theorem dX3_numbersBy_59 : decode cX3_numbersBy 59 = .ok (.ifCond .eq 7, 3) := by decide +kernel
theorem dX3_numbersBy_62 : decode cX3_numbersBy 62 = .ok (.iload_n 3, 1) := by decide +kernel
theorem dX3_numbersBy_63 : decode cX3_numbersBy 63 = .ok (.goto 5, 3) := by decide +kernel
theorem dX3_numbersBy_66 : decode cX3_numbersBy 66 = .ok (.ldc 154, 2) := by decide +kernel
theorem dX3_numbersBy_68 : decode cX3_numbersBy 68 = .ok (.ireturn, 1) := by decide +kernel
theorem dX3_cheapNow_0 : decode cX3_cheapNow 0 = .ok (.aload_n 0, 1) := by decide +kernel
theorem dX3_cheapNow_1 : decode cX3_cheapNow 1 = .ok (.invokevirtual 155, 3) := by decide +kernel
theorem dX3_cheapNow_4 : decode cX3_cheapNow 4 = .ok (.iconst (-1), 1) := by decide +kernel
theorem dX3_cheapNow_5 : decode cX3_cheapNow 5 = .ok (.istore_n 3, 1) := by decide +kernel
theorem dX3_cheapNow_6 : decode cX3_cheapNow 6 = .ok (.iconst 0, 1) := by decide +kernel
theorem dX3_cheapNow_7 : decode cX3_cheapNow 7 = .ok (.istore 4, 2) := by decide +kernel
theorem dX3_cheapNow_9 : decode cX3_cheapNow 9 = .ok (.iload 4, 2) := by decide +kernel
theorem dX3_cheapNow_11 : decode cX3_cheapNow 11 = .ok (.iconst 1, 1) := by decide +kernel
theorem dX3_cheapNow_12 : decode cX3_cheapNow 12 = .ok (.aload_n 0, 1) := by decide +kernel
theorem dX3_cheapNow_13 : decode cX3_cheapNow 13 = .ok (.getfield 82, 3) := by decide +kernel
theorem dX3_cheapNow_16 : decode cX3_cheapNow 16 = .ok (.ishl, 1) := by decide +kernel
theorem dX3_cheapNow_17 : decode cX3_cheapNow 17 = .ok (.if_icmp .ge 55, 3) := by decide +kernel
theorem dX3_cheapNow_20 : decode cX3_cheapNow 20 = .ok (.iload_n 3, 1) := by decide +kernel
theorem dX3_cheapNow_21 : decode cX3_cheapNow 21 = .ok (.iconst (-1), 1) := by decide +kernel
theorem dX3_cheapNow_22 : decode cX3_cheapNow 22 = .ok (.if_icmp .eq 15, 3) := by decide +kernel
theorem dX3_cheapNow_25 : decode cX3_cheapNow 25 = .ok (.iload 4, 2) := by decide +kernel
theorem dX3_cheapNow_27 : decode cX3_cheapNow 27 = .ok (.invokestatic 158, 3) := by decide +kernel
theorem dX3_cheapNow_30 : decode cX3_cheapNow 30 = .ok (.iload_n 3, 1) := by decide +kernel
theorem dX3_cheapNow_31 : decode cX3_cheapNow 31 = .ok (.invokestatic 158, 3) := by decide +kernel
theorem dX3_cheapNow_34 : decode cX3_cheapNow 34 = .ok (.if_icmp .ge 7, 3) := by decide +kernel
theorem dX3_cheapNow_37 : decode cX3_cheapNow 37 = .ok (.iconst 1, 1) := by decide +kernel
theorem dX3_cheapNow_38 : decode cX3_cheapNow 38 = .ok (.goto 4, 3) := by decide +kernel
theorem dX3_cheapNow_41 : decode cX3_cheapNow 41 = .ok (.iconst 0, 1) := by decide +kernel
theorem dX3_cheapNow_42 : decode cX3_cheapNow 42 = .ok (.istore 5, 2) := by decide +kernel
theorem dX3_cheapNow_44 : decode cX3_cheapNow 44 = .ok (.iload 5, 2) := by decide +kernel
theorem dX3_cheapNow_46 : decode cX3_cheapNow 46 = .ok (.ifCond .eq 18, 3) := by decide +kernel
theorem dX3_cheapNow_49 : decode cX3_cheapNow 49 = .ok (.aload_n 0, 1) := by decide +kernel
theorem dX3_cheapNow_50 : decode cX3_cheapNow 50 = .ok (.iload 4, 2) := by decide +kernel
theorem dX3_cheapNow_52 : decode cX3_cheapNow 52 = .ok (.invokevirtual 161, 3) := by decide +kernel
theorem dX3_cheapNow_55 : decode cX3_cheapNow 55 = .ok (.iload_n 1, 1) := by decide +kernel
theorem dX3_cheapNow_56 : decode cX3_cheapNow 56 = .ok (.if_icmp .gt 8, 3) := by decide +kernel
theorem dX3_cheapNow_59 : decode cX3_cheapNow 59 = .ok (.iload 4, 2) := by decide +kernel
theorem dX3_cheapNow_61 : decode cX3_cheapNow 61 = .ok (.goto 4, 3) := by decide +kernel
theorem dX3_cheapNow_64 : decode cX3_cheapNow 64 = .ok (.iload_n 3, 1) := by decide +kernel
theorem dX3_cheapNow_65 : decode cX3_cheapNow 65 = .ok (.istore_n 3, 1) := by decide +kernel
theorem dX3_cheapNow_66 : decode cX3_cheapNow 66 = .ok (.iinc 4 1, 3) := by decide +kernel
theorem dX3_cheapNow_69 : decode cX3_cheapNow 69 = .ok (.goto (-60), 3) := by decide +kernel
theorem dX3_cheapNow_72 : decode cX3_cheapNow 72 = .ok (.iload_n 3, 1) := by decide +kernel
theorem dX3_cheapNow_73 : decode cX3_cheapNow 73 = .ok (.iconst (-1), 1) := by decide +kernel
theorem dX3_cheapNow_74 : decode cX3_cheapNow 74 = .ok (.if_icmp .eq 8, 3) := by decide +kernel
theorem dX3_cheapNow_77 : decode cX3_cheapNow 77 = .ok (.iload_n 2, 1) := by decide +kernel
theorem dX3_cheapNow_78 : decode cX3_cheapNow 78 = .ok (.iconst 1, 1) := by decide +kernel
theorem dX3_cheapNow_79 : decode cX3_cheapNow 79 = .ok (.if_icmp .ne 7, 3) := by decide +kernel
theorem dX3_cheapNow_82 : decode cX3_cheapNow 82 = .ok (.iload_n 3, 1) := by decide +kernel
theorem dX3_cheapNow_83 : decode cX3_cheapNow 83 = .ok (.goto 7, 3) := by decide +kernel
theorem dX3_cheapNow_86 : decode cX3_cheapNow 86 = .ok (.iload_n 3, 1) := by decide +kernel
theorem dX3_cheapNow_87 : decode cX3_cheapNow 87 = .ok (.invokestatic 158, 3) := by decide +kernel
theorem dX3_cheapNow_90 : decode cX3_cheapNow 90 = .ok (.ireturn, 1) := by decide +kernel
theorem dX3_cheap_0 : decode cX3_cheap 0 = .ok (.iload_n 1, 1) := by decide +kernel
theorem dX3_cheap_1 : decode cX3_cheap 1 = .ok (.iconst 0, 1) := by decide +kernel
theorem dX3_cheap_2 : decode cX3_cheap 2 = .ok (.sipush 400, 3) := by decide +kernel
theorem dX3_cheap_5 : decode cX3_cheap 5 = .ok (.invokestatic 62, 3) := by decide +kernel
theorem dX3_cheap_8 : decode cX3_cheap 8 = .ok (.ifCond .eq 12, 3) := by decide +kernel
theorem dX3_cheap_11 : decode cX3_cheap 11 = .ok (.iload_n 2, 1) := by decide +kernel
theorem dX3_cheap_12 : decode cX3_cheap 12 = .ok (.iconst 0, 1) := by decide +kernel
theorem dX3_cheap_13 : decode cX3_cheap 13 = .ok (.iconst 1, 1) := by decide +kernel
theorem dX3_cheap_14 : decode cX3_cheap 14 = .ok (.invokestatic 62, 3) := by decide +kernel
theorem dX3_cheap_17 : decode cX3_cheap 17 = .ok (.ifCond .ne 6, 3) := by decide +kernel
theorem dX3_cheap_20 : decode cX3_cheap 20 = .ok (.bipush (-102), 2) := by decide +kernel
theorem dX3_cheap_22 : decode cX3_cheap 22 = .ok (.ireturn, 1) := by decide +kernel
theorem dX3_cheap_23 : decode cX3_cheap 23 = .ok (.aload_n 0, 1) := by decide +kernel
theorem dX3_cheap_24 : decode cX3_cheap 24 = .ok (.getfield 82, 3) := by decide +kernel
theorem dX3_cheap_27 : decode cX3_cheap 27 = .ok (.ifCond .ne 8, 3) := by decide +kernel
theorem dX3_cheap_30 : decode cX3_cheap 30 = .ok (.bipush (-103), 2) := by decide +kernel
theorem dX3_cheap_32 : decode cX3_cheap 32 = .ok (.goto 9, 3) := by decide +kernel
theorem dX3_cheap_35 : decode cX3_cheap 35 = .ok (.aload_n 0, 1) := by decide +kernel
theorem dX3_cheap_36 : decode cX3_cheap 36 = .ok (.iload_n 1, 1) := by decide +kernel
theorem dX3_cheap_37 : decode cX3_cheap 37 = .ok (.iload_n 2, 1) := by decide +kernel
theorem dX3_cheap_38 : decode cX3_cheap 38 = .ok (.invokevirtual 164, 3) := by decide +kernel
theorem dX3_cheap_41 : decode cX3_cheap 41 = .ok (.ireturn, 1) := by decide +kernel
theorem dX3_whenNow_0 : decode cX3_whenNow 0 = .ok (.iconst 0, 1) := by decide +kernel
theorem dX3_whenNow_1 : decode cX3_whenNow 1 = .ok (.istore_n 3, 1) := by decide +kernel
theorem dX3_whenNow_2 : decode cX3_whenNow 2 = .ok (.iload_n 3, 1) := by decide +kernel
theorem dX3_whenNow_3 : decode cX3_whenNow 3 = .ok (.bipush 99, 2) := by decide +kernel
theorem dX3_whenNow_5 : decode cX3_whenNow 5 = .ok (.if_icmp .gt 47, 3) := by decide +kernel
theorem dX3_whenNow_8 : decode cX3_whenNow 8 = .ok (.aload_n 0, 1) := by decide +kernel
theorem dX3_whenNow_9 : decode cX3_whenNow 9 = .ok (.iload_n 1, 1) := by decide +kernel
theorem dX3_whenNow_10 : decode cX3_whenNow 10 = .ok (.aload_n 0, 1) := by decide +kernel
theorem dX3_whenNow_11 : decode cX3_whenNow 11 = .ok (.getfield 7, 3) := by decide +kernel
theorem dX3_whenNow_14 : decode cX3_whenNow 14 = .ok (.iload_n 1, 1) := by decide +kernel
theorem dX3_whenNow_15 : decode cX3_whenNow 15 = .ok (.iaload, 1) := by decide +kernel
theorem dX3_whenNow_16 : decode cX3_whenNow 16 = .ok (.iconst 4, 1) := by decide +kernel
theorem dX3_whenNow_17 : decode cX3_whenNow 17 = .ok (.if_icmp .ne 12, 3) := by decide +kernel
theorem dX3_whenNow_20 : decode cX3_whenNow 20 = .ok (.aload_n 0, 1) := by decide +kernel
theorem dX3_whenNow_21 : decode cX3_whenNow 21 = .ok (.getfield 13, 3) := by decide +kernel
theorem dX3_whenNow_24 : decode cX3_whenNow 24 = .ok (.iload_n 1, 1) := by decide +kernel
theorem dX3_whenNow_25 : decode cX3_whenNow 25 = .ok (.iaload, 1) := by decide +kernel
theorem dX3_whenNow_26 : decode cX3_whenNow 26 = .ok (.goto 11, 3) := by decide +kernel
theorem dX3_whenNow_29 : decode cX3_whenNow 29 = .ok (.aload_n 0, 1) := by decide +kernel
theorem dX3_whenNow_30 : decode cX3_whenNow 30 = .ok (.getfield 13, 3) := by decide +kernel
theorem dX3_whenNow_33 : decode cX3_whenNow 33 = .ok (.iload_n 1, 1) := by decide +kernel
theorem dX3_whenNow_34 : decode cX3_whenNow 34 = .ok (.iaload, 1) := by decide +kernel
theorem dX3_whenNow_35 : decode cX3_whenNow 35 = .ok (.iload_n 3, 1) := by decide +kernel
theorem dX3_whenNow_36 : decode cX3_whenNow 36 = .ok (.iadd, 1) := by decide +kernel
theorem dX3_whenNow_37 : decode cX3_whenNow 37 = .ok (.invokevirtual 100, 3) := by decide +kernel
theorem dX3_whenNow_40 : decode cX3_whenNow 40 = .ok (.iload_n 2, 1) := by decide +kernel
theorem dX3_whenNow_41 : decode cX3_whenNow 41 = .ok (.if_icmp .ne 5, 3) := by decide +kernel
theorem dX3_whenNow_44 : decode cX3_whenNow 44 = .ok (.iload_n 3, 1) := by decide +kernel
theorem dX3_whenNow_45 : decode cX3_whenNow 45 = .ok (.ireturn, 1) := by decide +kernel
theorem dX3_whenNow_46 : decode cX3_whenNow 46 = .ok (.iinc 3 1, 3) := by decide +kernel
theorem dX3_whenNow_49 : decode cX3_whenNow 49 = .ok (.goto (-47), 3) := by decide +kernel
theorem dX3_whenNow_52 : decode cX3_whenNow 52 = .ok (.iconst (-1), 1) := by decide +kernel
theorem dX3_whenNow_53 : decode cX3_whenNow 53 = .ok (.ireturn, 1) := by decide +kernel
theorem dX3_when_0 : decode cX3_when 0 = .ok (.aload_n 0, 1) := by decide +kernel
theorem dX3_when_1 : decode cX3_when 1 = .ok (.iload_n 1, 1) := by decide +kernel
theorem dX3_when_2 : decode cX3_when 2 = .ok (.invokevirtual 122, 3) := by decide +kernel
theorem dX3_when_5 : decode cX3_when 5 = .ok (.ifCond .eq 12, 3) := by decide +kernel
theorem dX3_when_8 : decode cX3_when 8 = .ok (.aload_n 0, 1) := by decide +kernel
theorem dX3_when_9 : decode cX3_when 9 = .ok (.iload_n 1, 1) := by decide +kernel
theorem dX3_when_10 : decode cX3_when 10 = .ok (.iload_n 2, 1) := by decide +kernel
theorem dX3_when_11 : decode cX3_when 11 = .ok (.invokevirtual 167, 3) := by decide +kernel
theorem dX3_when_14 : decode cX3_when 14 = .ok (.goto 5, 3) := by decide +kernel
theorem dX3_when_17 : decode cX3_when 17 = .ok (.bipush (-101), 2) := by decide +kernel
theorem dX3_when_19 : decode cX3_when 19 = .ok (.ireturn, 1) := by decide +kernel
theorem dX3_hear_0 : decode cX3_hear 0 = .ok (.aload_n 0, 1) := by decide +kernel
theorem dX3_hear_1 : decode cX3_hear 1 = .ok (.iload_n 1, 1) := by decide +kernel
theorem dX3_hear_2 : decode cX3_hear 2 = .ok (.invokevirtual 122, 3) := by decide +kernel
theorem dX3_hear_5 : decode cX3_hear 5 = .ok (.ifCond .ne 6, 3) := by decide +kernel
theorem dX3_hear_8 : decode cX3_hear 8 = .ok (.bipush (-101), 2) := by decide +kernel
theorem dX3_hear_10 : decode cX3_hear 10 = .ok (.ireturn, 1) := by decide +kernel
theorem dX3_hear_11 : decode cX3_hear 11 = .ok (.iload_n 2, 1) := by decide +kernel
theorem dX3_hear_12 : decode cX3_hear 12 = .ok (.iconst 0, 1) := by decide +kernel
theorem dX3_hear_13 : decode cX3_hear 13 = .ok (.bipush 99, 2) := by decide +kernel
theorem dX3_hear_15 : decode cX3_hear 15 = .ok (.invokestatic 62, 3) := by decide +kernel
theorem dX3_hear_18 : decode cX3_hear 18 = .ok (.ifCond .ne 6, 3) := by decide +kernel
theorem dX3_hear_21 : decode cX3_hear 21 = .ok (.bipush (-102), 2) := by decide +kernel
theorem dX3_hear_23 : decode cX3_hear 23 = .ok (.ireturn, 1) := by decide +kernel
theorem dX3_hear_24 : decode cX3_hear 24 = .ok (.aload_n 0, 1) := by decide +kernel
theorem dX3_hear_25 : decode cX3_hear 25 = .ok (.getfield 97, 3) := by decide +kernel
theorem dX3_hear_28 : decode cX3_hear 28 = .ok (.bipush 6, 2) := by decide +kernel
theorem dX3_hear_30 : decode cX3_hear 30 = .ok (.if_icmp .ne 6, 3) := by decide +kernel
theorem dX3_hear_33 : decode cX3_hear 33 = .ok (.bipush (-104), 2) := by decide +kernel
theorem dX3_hear_35 : decode cX3_hear 35 = .ok (.ireturn, 1) := by decide +kernel
theorem dX3_hear_36 : decode cX3_hear 36 = .ok (.aload_n 0, 1) := by decide +kernel
theorem dX3_hear_37 : decode cX3_hear 37 = .ok (.getfield 28, 3) := by decide +kernel
theorem dX3_hear_40 : decode cX3_hear 40 = .ok (.aload_n 0, 1) := by decide +kernel
theorem dX3_hear_41 : decode cX3_hear 41 = .ok (.getfield 97, 3) := by decide +kernel
theorem dX3_hear_44 : decode cX3_hear 44 = .ok (.iload_n 1, 1) := by decide +kernel
theorem dX3_hear_45 : decode cX3_hear 45 = .ok (.iastore, 1) := by decide +kernel
theorem dX3_hear_46 : decode cX3_hear 46 = .ok (.aload_n 0, 1) := by decide +kernel
theorem dX3_hear_47 : decode cX3_hear 47 = .ok (.getfield 31, 3) := by decide +kernel
theorem dX3_hear_50 : decode cX3_hear 50 = .ok (.aload_n 0, 1) := by decide +kernel
theorem dX3_hear_51 : decode cX3_hear 51 = .ok (.getfield 97, 3) := by decide +kernel
theorem dX3_hear_54 : decode cX3_hear 54 = .ok (.iload_n 2, 1) := by decide +kernel
theorem dX3_hear_55 : decode cX3_hear 55 = .ok (.iastore, 1) := by decide +kernel
theorem dX3_hear_56 : decode cX3_hear 56 = .ok (.aload_n 0, 1) := by decide +kernel
theorem dX3_hear_57 : decode cX3_hear 57 = .ok (.dup, 1) := by decide +kernel
theorem dX3_hear_58 : decode cX3_hear 58 = .ok (.getfield 97, 3) := by decide +kernel
theorem dX3_hear_61 : decode cX3_hear 61 = .ok (.iconst 1, 1) := by decide +kernel
theorem dX3_hear_62 : decode cX3_hear 62 = .ok (.iadd, 1) := by decide +kernel
theorem dX3_hear_63 : decode cX3_hear 63 = .ok (.putfield 97, 3) := by decide +kernel
theorem dX3_hear_66 : decode cX3_hear 66 = .ok (.aload_n 0, 1) := by decide +kernel
theorem dX3_hear_67 : decode cX3_hear 67 = .ok (.getfield 97, 3) := by decide +kernel
theorem dX3_hear_70 : decode cX3_hear 70 = .ok (.ireturn, 1) := by decide +kernel
theorem dX3_forget_0 : decode cX3_forget 0 = .ok (.aload_n 0, 1) := by decide +kernel
theorem dX3_forget_1 : decode cX3_forget 1 = .ok (.getfield 97, 3) := by decide +kernel
theorem dX3_forget_4 : decode cX3_forget 4 = .ok (.istore_n 1, 1) := by decide +kernel
theorem dX3_forget_5 : decode cX3_forget 5 = .ok (.aload_n 0, 1) := by decide +kernel
theorem dX3_forget_6 : decode cX3_forget 6 = .ok (.iconst 0, 1) := by decide +kernel
theorem dX3_forget_7 : decode cX3_forget 7 = .ok (.putfield 97, 3) := by decide +kernel
theorem dX3_forget_10 : decode cX3_forget 10 = .ok (.iload_n 1, 1) := by decide +kernel
theorem dX3_forget_11 : decode cX3_forget 11 = .ok (.ireturn, 1) := by decide +kernel
theorem dX3_isHeard_0 : decode cX3_isHeard 0 = .ok (.iconst 1, 1) := by decide +kernel
theorem dX3_isHeard_1 : decode cX3_isHeard 1 = .ok (.istore_n 2, 1) := by decide +kernel
theorem dX3_isHeard_2 : decode cX3_isHeard 2 = .ok (.iconst 0, 1) := by decide +kernel
theorem dX3_isHeard_3 : decode cX3_isHeard 3 = .ok (.istore_n 3, 1) := by decide +kernel
theorem dX3_isHeard_4 : decode cX3_isHeard 4 = .ok (.iload_n 3, 1) := by decide +kernel
theorem dX3_isHeard_5 : decode cX3_isHeard 5 = .ok (.aload_n 0, 1) := by decide +kernel
theorem dX3_isHeard_6 : decode cX3_isHeard 6 = .ok (.getfield 97, 3) := by decide +kernel
theorem dX3_isHeard_9 : decode cX3_isHeard 9 = .ok (.if_icmp .ge 39, 3) := by decide +kernel
theorem dX3_isHeard_12 : decode cX3_isHeard 12 = .ok (.iload_n 2, 1) := by decide +kernel
theorem dX3_isHeard_13 : decode cX3_isHeard 13 = .ok (.ifCond .eq 27, 3) := by decide +kernel
theorem dX3_isHeard_16 : decode cX3_isHeard 16 = .ok (.aload_n 0, 1) := by decide +kernel
theorem dX3_isHeard_17 : decode cX3_isHeard 17 = .ok (.aload_n 0, 1) := by decide +kernel
theorem dX3_isHeard_18 : decode cX3_isHeard 18 = .ok (.getfield 28, 3) := by decide +kernel
theorem dX3_isHeard_21 : decode cX3_isHeard 21 = .ok (.iload_n 3, 1) := by decide +kernel
theorem dX3_isHeard_22 : decode cX3_isHeard 22 = .ok (.iaload, 1) := by decide +kernel
theorem dX3_isHeard_23 : decode cX3_isHeard 23 = .ok (.iload_n 1, 1) := by decide +kernel
theorem dX3_isHeard_24 : decode cX3_isHeard 24 = .ok (.invokevirtual 113, 3) := by decide +kernel
theorem dX3_isHeard_27 : decode cX3_isHeard 27 = .ok (.aload_n 0, 1) := by decide +kernel
theorem dX3_isHeard_28 : decode cX3_isHeard 28 = .ok (.getfield 31, 3) := by decide +kernel
theorem dX3_isHeard_31 : decode cX3_isHeard 31 = .ok (.iload_n 3, 1) := by decide +kernel
theorem dX3_isHeard_32 : decode cX3_isHeard 32 = .ok (.iaload, 1) := by decide +kernel
theorem dX3_isHeard_33 : decode cX3_isHeard 33 = .ok (.if_icmp .ne 7, 3) := by decide +kernel
theorem dX3_isHeard_36 : decode cX3_isHeard 36 = .ok (.iconst 1, 1) := by decide +kernel
theorem dX3_isHeard_37 : decode cX3_isHeard 37 = .ok (.goto 4, 3) := by decide +kernel
theorem dX3_isHeard_40 : decode cX3_isHeard 40 = .ok (.iconst 0, 1) := by decide +kernel
theorem dX3_isHeard_41 : decode cX3_isHeard 41 = .ok (.istore_n 2, 1) := by decide +kernel
theorem dX3_isHeard_42 : decode cX3_isHeard 42 = .ok (.iinc 3 1, 3) := by decide +kernel
theorem dX3_isHeard_45 : decode cX3_isHeard 45 = .ok (.goto (-41), 3) := by decide +kernel
theorem dX3_isHeard_48 : decode cX3_isHeard 48 = .ok (.iload_n 2, 1) := by decide +kernel
theorem dX3_isHeard_49 : decode cX3_isHeard 49 = .ok (.ireturn, 1) := by decide +kernel
theorem dX3_daysNow_0 : decode cX3_daysNow 0 = .ok (.iconst 0, 1) := by decide +kernel
theorem dX3_daysNow_1 : decode cX3_daysNow 1 = .ok (.istore_n 2, 1) := by decide +kernel
theorem dX3_daysNow_2 : decode cX3_daysNow 2 = .ok (.iconst (-1), 1) := by decide +kernel
theorem dX3_daysNow_3 : decode cX3_daysNow 3 = .ok (.istore_n 3, 1) := by decide +kernel
theorem dX3_daysNow_4 : decode cX3_daysNow 4 = .ok (.aload_n 0, 1) := by decide +kernel
theorem dX3_daysNow_5 : decode cX3_daysNow 5 = .ok (.getfield 88, 3) := by decide +kernel
theorem dX3_daysNow_8 : decode cX3_daysNow 8 = .ok (.istore 4, 2) := by decide +kernel
theorem dX3_daysNow_10 : decode cX3_daysNow 10 = .ok (.iload 4, 2) := by decide +kernel
theorem dX3_daysNow_12 : decode cX3_daysNow 12 = .ok (.ifCond .lt 42, 3) := by decide +kernel
theorem dX3_daysNow_15 : decode cX3_daysNow 15 = .ok (.aload_n 0, 1) := by decide +kernel
theorem dX3_daysNow_16 : decode cX3_daysNow 16 = .ok (.iload 4, 2) := by decide +kernel
theorem dX3_daysNow_18 : decode cX3_daysNow 18 = .ok (.invokevirtual 170, 3) := by decide +kernel
theorem dX3_daysNow_21 : decode cX3_daysNow 21 = .ok (.istore 5, 2) := by decide +kernel
theorem dX3_daysNow_23 : decode cX3_daysNow 23 = .ok (.iload_n 2, 1) := by decide +kernel
theorem dX3_daysNow_24 : decode cX3_daysNow 24 = .ok (.iload 5, 2) := by decide +kernel
theorem dX3_daysNow_26 : decode cX3_daysNow 26 = .ok (.ifCond .eq 7, 3) := by decide +kernel
theorem dX3_daysNow_29 : decode cX3_daysNow 29 = .ok (.iconst 1, 1) := by decide +kernel
theorem dX3_daysNow_30 : decode cX3_daysNow 30 = .ok (.goto 4, 3) := by decide +kernel
theorem dX3_daysNow_33 : decode cX3_daysNow 33 = .ok (.iconst 0, 1) := by decide +kernel
theorem dX3_daysNow_34 : decode cX3_daysNow 34 = .ok (.iadd, 1) := by decide +kernel
theorem dX3_daysNow_35 : decode cX3_daysNow 35 = .ok (.istore_n 2, 1) := by decide +kernel
theorem dX3_daysNow_36 : decode cX3_daysNow 36 = .ok (.iload 5, 2) := by decide +kernel
theorem dX3_daysNow_38 : decode cX3_daysNow 38 = .ok (.ifCond .eq 8, 3) := by decide +kernel
theorem dX3_daysNow_41 : decode cX3_daysNow 41 = .ok (.iload 4, 2) := by decide +kernel
theorem dX3_daysNow_43 : decode cX3_daysNow 43 = .ok (.goto 4, 3) := by decide +kernel
theorem dX3_daysNow_46 : decode cX3_daysNow 46 = .ok (.iload_n 3, 1) := by decide +kernel
theorem dX3_daysNow_47 : decode cX3_daysNow 47 = .ok (.istore_n 3, 1) := by decide +kernel
theorem dX3_daysNow_48 : decode cX3_daysNow 48 = .ok (.iinc 4 (-1), 3) := by decide +kernel
theorem dX3_daysNow_51 : decode cX3_daysNow 51 = .ok (.goto (-41), 3) := by decide +kernel
theorem dX3_daysNow_54 : decode cX3_daysNow 54 = .ok (.iload_n 1, 1) := by decide +kernel
theorem dX3_daysNow_55 : decode cX3_daysNow 55 = .ok (.ifCond .ne 7, 3) := by decide +kernel
theorem dX3_daysNow_58 : decode cX3_daysNow 58 = .ok (.iload_n 2, 1) := by decide +kernel
theorem dX3_daysNow_59 : decode cX3_daysNow 59 = .ok (.goto 4, 3) := by decide +kernel
theorem dX3_daysNow_62 : decode cX3_daysNow 62 = .ok (.iload_n 3, 1) := by decide +kernel
theorem dX3_daysNow_63 : decode cX3_daysNow 63 = .ok (.ireturn, 1) := by decide +kernel
theorem dX3_days_0 : decode cX3_days 0 = .ok (.iload_n 1, 1) := by decide +kernel
theorem dX3_days_1 : decode cX3_days 1 = .ok (.iconst 0, 1) := by decide +kernel
theorem dX3_days_2 : decode cX3_days 2 = .ok (.iconst 1, 1) := by decide +kernel
theorem dX3_days_3 : decode cX3_days 3 = .ok (.invokestatic 62, 3) := by decide +kernel
theorem dX3_days_6 : decode cX3_days 6 = .ok (.ifCond .ne 6, 3) := by decide +kernel
theorem dX3_days_9 : decode cX3_days 9 = .ok (.bipush (-102), 2) := by decide +kernel
theorem dX3_days_11 : decode cX3_days 11 = .ok (.ireturn, 1) := by decide +kernel
theorem dX3_days_12 : decode cX3_days 12 = .ok (.aload_n 0, 1) := by decide +kernel
theorem dX3_days_13 : decode cX3_days 13 = .ok (.getfield 82, 3) := by decide +kernel
theorem dX3_days_16 : decode cX3_days 16 = .ok (.ifCond .ne 8, 3) := by decide +kernel
theorem dX3_days_19 : decode cX3_days 19 = .ok (.bipush (-103), 2) := by decide +kernel
theorem dX3_days_21 : decode cX3_days 21 = .ok (.goto 8, 3) := by decide +kernel
theorem dX3_days_24 : decode cX3_days 24 = .ok (.aload_n 0, 1) := by decide +kernel
theorem dX3_days_25 : decode cX3_days 25 = .ok (.iload_n 1, 1) := by decide +kernel
theorem dX3_days_26 : decode cX3_days 26 = .ok (.invokevirtual 173, 3) := by decide +kernel
theorem dX3_days_29 : decode cX3_days 29 = .ok (.ireturn, 1) := by decide +kernel
theorem dX3_worstOf_0 : decode cX3_worstOf 0 = .ok (.iconst 0, 1) := by decide +kernel
theorem dX3_worstOf_1 : decode cX3_worstOf 1 = .ok (.istore_n 2, 1) := by decide +kernel
theorem dX3_worstOf_2 : decode cX3_worstOf 2 = .ok (.iconst 0, 1) := by decide +kernel
theorem dX3_worstOf_3 : decode cX3_worstOf 3 = .ok (.istore_n 3, 1) := by decide +kernel
theorem dX3_worstOf_4 : decode cX3_worstOf 4 = .ok (.iload_n 3, 1) := by decide +kernel
theorem dX3_worstOf_5 : decode cX3_worstOf 5 = .ok (.aload_n 0, 1) := by decide +kernel
theorem dX3_worstOf_6 : decode cX3_worstOf 6 = .ok (.getfield 88, 3) := by decide +kernel
theorem dX3_worstOf_9 : decode cX3_worstOf 9 = .ok (.if_icmp .gt 86, 3) := by decide +kernel
theorem dX3_worstOf_12 : decode cX3_worstOf 12 = .ok (.iconst 0, 1) := by decide +kernel
theorem dX3_worstOf_13 : decode cX3_worstOf 13 = .ok (.istore 4, 2) := by decide +kernel
theorem dX3_worstOf_15 : decode cX3_worstOf 15 = .ok (.iconst 0, 1) := by decide +kernel
theorem dX3_worstOf_16 : decode cX3_worstOf 16 = .ok (.istore 5, 2) := by decide +kernel
theorem dX3_worstOf_18 : decode cX3_worstOf 18 = .ok (.iload 5, 2) := by decide +kernel
theorem dX3_worstOf_20 : decode cX3_worstOf 20 = .ok (.aload_n 0, 1) := by decide +kernel
theorem dX3_worstOf_21 : decode cX3_worstOf 21 = .ok (.getfield 88, 3) := by decide +kernel
theorem dX3_worstOf_24 : decode cX3_worstOf 24 = .ok (.if_icmp .gt 52, 3) := by decide +kernel
theorem dX3_worstOf_27 : decode cX3_worstOf 27 = .ok (.aload_n 0, 1) := by decide +kernel
theorem dX3_worstOf_28 : decode cX3_worstOf 28 = .ok (.iload_n 3, 1) := by decide +kernel
theorem dX3_worstOf_29 : decode cX3_worstOf 29 = .ok (.invokevirtual 170, 3) := by decide +kernel
theorem dX3_worstOf_32 : decode cX3_worstOf 32 = .ok (.ifCond .eq 44, 3) := by decide +kernel
theorem dX3_worstOf_35 : decode cX3_worstOf 35 = .ok (.iload 4, 2) := by decide +kernel
theorem dX3_worstOf_37 : decode cX3_worstOf 37 = .ok (.aload_n 0, 1) := by decide +kernel
theorem dX3_worstOf_38 : decode cX3_worstOf 38 = .ok (.iload 5, 2) := by decide +kernel
theorem dX3_worstOf_40 : decode cX3_worstOf 40 = .ok (.invokevirtual 170, 3) := by decide +kernel
theorem dX3_worstOf_43 : decode cX3_worstOf 43 = .ok (.ifCond .eq 23, 3) := by decide +kernel
theorem dX3_worstOf_46 : decode cX3_worstOf 46 = .ok (.aload_n 0, 1) := by decide +kernel
theorem dX3_worstOf_47 : decode cX3_worstOf 47 = .ok (.iload_n 1, 1) := by decide +kernel
theorem dX3_worstOf_48 : decode cX3_worstOf 48 = .ok (.iload_n 3, 1) := by decide +kernel
theorem dX3_worstOf_49 : decode cX3_worstOf 49 = .ok (.invokevirtual 113, 3) := by decide +kernel
theorem dX3_worstOf_52 : decode cX3_worstOf 52 = .ok (.aload_n 0, 1) := by decide +kernel
theorem dX3_worstOf_53 : decode cX3_worstOf 53 = .ok (.iload_n 1, 1) := by decide +kernel
theorem dX3_worstOf_54 : decode cX3_worstOf 54 = .ok (.iload 5, 2) := by decide +kernel
theorem dX3_worstOf_56 : decode cX3_worstOf 56 = .ok (.invokevirtual 113, 3) := by decide +kernel
theorem dX3_worstOf_59 : decode cX3_worstOf 59 = .ok (.if_icmp .ne 7, 3) := by decide +kernel
theorem dX3_worstOf_62 : decode cX3_worstOf 62 = .ok (.iconst 1, 1) := by decide +kernel
theorem dX3_worstOf_63 : decode cX3_worstOf 63 = .ok (.goto 4, 3) := by decide +kernel
theorem dX3_worstOf_66 : decode cX3_worstOf 66 = .ok (.iconst 0, 1) := by decide +kernel
theorem dX3_worstOf_67 : decode cX3_worstOf 67 = .ok (.iadd, 1) := by decide +kernel
theorem dX3_worstOf_68 : decode cX3_worstOf 68 = .ok (.istore 4, 2) := by decide +kernel
theorem dX3_worstOf_70 : decode cX3_worstOf 70 = .ok (.iinc 5 1, 3) := by decide +kernel
theorem dX3_worstOf_73 : decode cX3_worstOf 73 = .ok (.goto (-55), 3) := by decide +kernel
theorem dX3_worstOf_76 : decode cX3_worstOf 76 = .ok (.iload 4, 2) := by decide +kernel
theorem dX3_worstOf_78 : decode cX3_worstOf 78 = .ok (.iload_n 2, 1) := by decide +kernel
theorem dX3_worstOf_79 : decode cX3_worstOf 79 = .ok (.if_icmp .le 8, 3) := by decide +kernel
theorem dX3_worstOf_82 : decode cX3_worstOf 82 = .ok (.iload 4, 2) := by decide +kernel
theorem dX3_worstOf_84 : decode cX3_worstOf 84 = .ok (.goto 4, 3) := by decide +kernel
theorem dX3_worstOf_87 : decode cX3_worstOf 87 = .ok (.iload_n 2, 1) := by decide +kernel
theorem dX3_worstOf_88 : decode cX3_worstOf 88 = .ok (.istore_n 2, 1) := by decide +kernel
theorem dX3_worstOf_89 : decode cX3_worstOf 89 = .ok (.iinc 3 1, 3) := by decide +kernel
theorem dX3_worstOf_92 : decode cX3_worstOf 92 = .ok (.goto (-88), 3) := by decide +kernel
theorem dX3_worstOf_95 : decode cX3_worstOf 95 = .ok (.iload_n 2, 1) := by decide +kernel
theorem dX3_worstOf_96 : decode cX3_worstOf 96 = .ok (.ireturn, 1) := by decide +kernel
theorem dX3_askNow_0 : decode cX3_askNow 0 = .ok (.iconst (-1), 1) := by decide +kernel
theorem dX3_askNow_1 : decode cX3_askNow 1 = .ok (.istore_n 1, 1) := by decide +kernel
theorem dX3_askNow_2 : decode cX3_askNow 2 = .ok (.aload_n 0, 1) := by decide +kernel
theorem dX3_askNow_3 : decode cX3_askNow 3 = .ok (.iconst 0, 1) := by decide +kernel
theorem dX3_askNow_4 : decode cX3_askNow 4 = .ok (.invokevirtual 173, 3) := by decide +kernel
theorem dX3_askNow_7 : decode cX3_askNow 7 = .ok (.ifCond .ne 7, 3) := by decide +kernel
theorem dX3_askNow_10 : decode cX3_askNow 10 = .ok (.iconst 0, 1) := by decide +kernel
theorem dX3_askNow_11 : decode cX3_askNow 11 = .ok (.goto 5, 3) := by decide +kernel
theorem dX3_askNow_14 : decode cX3_askNow 14 = .ok (.ldc 154, 2) := by decide +kernel
theorem dX3_askNow_16 : decode cX3_askNow 16 = .ok (.istore_n 2, 1) := by decide +kernel
theorem dX3_askNow_17 : decode cX3_askNow 17 = .ok (.iconst 0, 1) := by decide +kernel
theorem dX3_askNow_18 : decode cX3_askNow 18 = .ok (.istore_n 3, 1) := by decide +kernel
theorem dX3_askNow_19 : decode cX3_askNow 19 = .ok (.iload_n 3, 1) := by decide +kernel
theorem dX3_askNow_20 : decode cX3_askNow 20 = .ok (.aload_n 0, 1) := by decide +kernel
theorem dX3_askNow_21 : decode cX3_askNow 21 = .ok (.getfield 82, 3) := by decide +kernel
theorem dX3_askNow_24 : decode cX3_askNow 24 = .ok (.if_icmp .ge 41, 3) := by decide +kernel
theorem dX3_askNow_27 : decode cX3_askNow 27 = .ok (.aload_n 0, 1) := by decide +kernel
theorem dX3_askNow_28 : decode cX3_askNow 28 = .ok (.iload_n 3, 1) := by decide +kernel
theorem dX3_askNow_29 : decode cX3_askNow 29 = .ok (.invokevirtual 176, 3) := by decide +kernel
theorem dX3_askNow_32 : decode cX3_askNow 32 = .ok (.istore 4, 2) := by decide +kernel
theorem dX3_askNow_34 : decode cX3_askNow 34 = .ok (.iload 4, 2) := by decide +kernel
theorem dX3_askNow_36 : decode cX3_askNow 36 = .ok (.iload_n 2, 1) := by decide +kernel
theorem dX3_askNow_37 : decode cX3_askNow 37 = .ok (.if_icmp .ge 7, 3) := by decide +kernel
theorem dX3_askNow_40 : decode cX3_askNow 40 = .ok (.iload_n 3, 1) := by decide +kernel
theorem dX3_askNow_41 : decode cX3_askNow 41 = .ok (.goto 4, 3) := by decide +kernel
theorem dX3_askNow_44 : decode cX3_askNow 44 = .ok (.iload_n 1, 1) := by decide +kernel
theorem dX3_askNow_45 : decode cX3_askNow 45 = .ok (.istore_n 1, 1) := by decide +kernel
theorem dX3_askNow_46 : decode cX3_askNow 46 = .ok (.iload 4, 2) := by decide +kernel
theorem dX3_askNow_48 : decode cX3_askNow 48 = .ok (.iload_n 2, 1) := by decide +kernel
theorem dX3_askNow_49 : decode cX3_askNow 49 = .ok (.if_icmp .ge 8, 3) := by decide +kernel
theorem dX3_askNow_52 : decode cX3_askNow 52 = .ok (.iload 4, 2) := by decide +kernel
theorem dX3_askNow_54 : decode cX3_askNow 54 = .ok (.goto 4, 3) := by decide +kernel
theorem dX3_askNow_57 : decode cX3_askNow 57 = .ok (.iload_n 2, 1) := by decide +kernel
theorem dX3_askNow_58 : decode cX3_askNow 58 = .ok (.istore_n 2, 1) := by decide +kernel
theorem dX3_askNow_59 : decode cX3_askNow 59 = .ok (.iinc 3 1, 3) := by decide +kernel
theorem dX3_askNow_62 : decode cX3_askNow 62 = .ok (.goto (-43), 3) := by decide +kernel
theorem dX3_askNow_65 : decode cX3_askNow 65 = .ok (.iload_n 1, 1) := by decide +kernel
theorem dX3_askNow_66 : decode cX3_askNow 66 = .ok (.ireturn, 1) := by decide +kernel
theorem dX3_ask_0 : decode cX3_ask 0 = .ok (.aload_n 0, 1) := by decide +kernel
theorem dX3_ask_1 : decode cX3_ask 1 = .ok (.getfield 82, 3) := by decide +kernel
theorem dX3_ask_4 : decode cX3_ask 4 = .ok (.ifCond .ne 8, 3) := by decide +kernel
theorem dX3_ask_7 : decode cX3_ask 7 = .ok (.bipush (-103), 2) := by decide +kernel
theorem dX3_ask_9 : decode cX3_ask 9 = .ok (.goto 7, 3) := by decide +kernel
theorem dX3_ask_12 : decode cX3_ask 12 = .ok (.aload_n 0, 1) := by decide +kernel
theorem dX3_ask_13 : decode cX3_ask 13 = .ok (.invokevirtual 179, 3) := by decide +kernel
theorem dX3_ask_16 : decode cX3_ask 16 = .ok (.ireturn, 1) := by decide +kernel
theorem dX3_draw_0 : decode cX3_draw 0 = .ok (.aload_n 0, 1) := by decide +kernel
theorem dX3_draw_1 : decode cX3_draw 1 = .ok (.ldc2_w 182, 3) := by decide +kernel
theorem dX3_draw_4 : decode cX3_draw 4 = .ok (.aload_n 0, 1) := by decide +kernel
theorem dX3_draw_5 : decode cX3_draw 5 = .ok (.getfield 184, 3) := by decide +kernel
theorem dX3_draw_8 : decode cX3_draw 8 = .ok (.lmul, 1) := by decide +kernel
theorem dX3_draw_9 : decode cX3_draw 9 = .ok (.ldc2_w 188, 3) := by decide +kernel
theorem dX3_draw_12 : decode cX3_draw 12 = .ok (.ladd, 1) := by decide +kernel
theorem dX3_draw_13 : decode cX3_draw 13 = .ok (.ldc2_w 190, 3) := by decide +kernel
theorem dX3_draw_16 : decode cX3_draw 16 = .ok (.land, 1) := by decide +kernel
theorem dX3_draw_17 : decode cX3_draw 17 = .ok (.putfield 184, 3) := by decide +kernel
theorem dX3_draw_20 : decode cX3_draw 20 = .ok (.aload_n 0, 1) := by decide +kernel
theorem dX3_draw_21 : decode cX3_draw 21 = .ok (.getfield 184, 3) := by decide +kernel
theorem dX3_draw_24 : decode cX3_draw 24 = .ok (.ldc2_w 192, 3) := by decide +kernel
theorem dX3_draw_27 : decode cX3_draw 27 = .ok (.ldiv, 1) := by decide +kernel
theorem dX3_draw_28 : decode cX3_draw 28 = .ok (.iload_n 1, 1) := by decide +kernel
theorem dX3_draw_29 : decode cX3_draw 29 = .ok (.i2l, 1) := by decide +kernel
theorem dX3_draw_30 : decode cX3_draw 30 = .ok (.lrem, 1) := by decide +kernel
theorem dX3_draw_31 : decode cX3_draw 31 = .ok (.l2i, 1) := by decide +kernel
theorem dX3_draw_32 : decode cX3_draw 32 = .ok (.ireturn, 1) := by decide +kernel
theorem dX3_yearsNow_0 : decode cX3_yearsNow 0 = .ok (.aload_n 0, 1) := by decide +kernel
theorem dX3_yearsNow_1 : decode cX3_yearsNow 1 = .ok (.invokevirtual 155, 3) := by decide +kernel
theorem dX3_yearsNow_4 : decode cX3_yearsNow 4 = .ok (.aload_n 0, 1) := by decide +kernel
theorem dX3_yearsNow_5 : decode cX3_yearsNow 5 = .ok (.iload_n 2, 1) := by decide +kernel
theorem dX3_yearsNow_6 : decode cX3_yearsNow 6 = .ok (.i2l, 1) := by decide +kernel
theorem dX3_yearsNow_7 : decode cX3_yearsNow 7 = .ok (.putfield 184, 3) := by decide +kernel
theorem dX3_yearsNow_10 : decode cX3_yearsNow 10 = .ok (.iconst 0, 1) := by decide +kernel
theorem dX3_yearsNow_11 : decode cX3_yearsNow 11 = .ok (.istore 4, 2) := by decide +kernel
theorem dX3_yearsNow_13 : decode cX3_yearsNow 13 = .ok (.iconst 0, 1) := by decide +kernel
theorem dX3_yearsNow_14 : decode cX3_yearsNow 14 = .ok (.istore 5, 2) := by decide +kernel
theorem dX3_yearsNow_16 : decode cX3_yearsNow 16 = .ok (.iload 5, 2) := by decide +kernel
theorem dX3_yearsNow_18 : decode cX3_yearsNow 18 = .ok (.iload_n 1, 1) := by decide +kernel
theorem dX3_yearsNow_19 : decode cX3_yearsNow 19 = .ok (.if_icmp .ge 47, 3) := by decide +kernel
theorem dX3_yearsNow_22 : decode cX3_yearsNow 22 = .ok (.aload_n 0, 1) := by decide +kernel
theorem dX3_yearsNow_23 : decode cX3_yearsNow 23 = .ok (.aload_n 0, 1) := by decide +kernel
theorem dX3_yearsNow_24 : decode cX3_yearsNow 24 = .ok (.getfield 82, 3) := by decide +kernel
theorem dX3_yearsNow_27 : decode cX3_yearsNow 27 = .ok (.invokevirtual 194, 3) := by decide +kernel
theorem dX3_yearsNow_30 : decode cX3_yearsNow 30 = .ok (.istore 6, 2) := by decide +kernel
theorem dX3_yearsNow_32 : decode cX3_yearsNow 32 = .ok (.aload_n 0, 1) := by decide +kernel
theorem dX3_yearsNow_33 : decode cX3_yearsNow 33 = .ok (.iload 6, 2) := by decide +kernel
theorem dX3_yearsNow_35 : decode cX3_yearsNow 35 = .ok (.invokevirtual 128, 3) := by decide +kernel
theorem dX3_yearsNow_38 : decode cX3_yearsNow 38 = .ok (.ifCond .eq 9, 3) := by decide +kernel
theorem dX3_yearsNow_41 : decode cX3_yearsNow 41 = .ok (.aload_n 0, 1) := by decide +kernel
theorem dX3_yearsNow_42 : decode cX3_yearsNow 42 = .ok (.iload 6, 2) := by decide +kernel
theorem dX3_yearsNow_44 : decode cX3_yearsNow 44 = .ok (.invokevirtual 131, 3) := by decide +kernel
theorem dX3_yearsNow_47 : decode cX3_yearsNow 47 = .ok (.iload 4, 2) := by decide +kernel
theorem dX3_yearsNow_49 : decode cX3_yearsNow 49 = .ok (.aload_n 0, 1) := by decide +kernel
theorem dX3_yearsNow_50 : decode cX3_yearsNow 50 = .ok (.invokevirtual 141, 3) := by decide +kernel
theorem dX3_yearsNow_53 : decode cX3_yearsNow 53 = .ok (.iadd, 1) := by decide +kernel
theorem dX3_yearsNow_54 : decode cX3_yearsNow 54 = .ok (.istore 4, 2) := by decide +kernel
theorem dX3_yearsNow_56 : decode cX3_yearsNow 56 = .ok (.aload_n 0, 1) := by decide +kernel
theorem dX3_yearsNow_57 : decode cX3_yearsNow 57 = .ok (.invokevirtual 135, 3) := by decide +kernel
theorem dX3_yearsNow_60 : decode cX3_yearsNow 60 = .ok (.iinc 5 1, 3) := by decide +kernel
theorem dX3_yearsNow_63 : decode cX3_yearsNow 63 = .ok (.goto (-47), 3) := by decide +kernel
theorem dX3_yearsNow_66 : decode cX3_yearsNow 66 = .ok (.aload_n 0, 1) := by decide +kernel
theorem dX3_yearsNow_67 : decode cX3_yearsNow 67 = .ok (.invokevirtual 148, 3) := by decide +kernel
theorem dX3_yearsNow_70 : decode cX3_yearsNow 70 = .ok (.istore 5, 2) := by decide +kernel
theorem dX3_yearsNow_72 : decode cX3_yearsNow 72 = .ok (.aload_n 0, 1) := by decide +kernel
theorem dX3_yearsNow_73 : decode cX3_yearsNow 73 = .ok (.invokevirtual 151, 3) := by decide +kernel
theorem dX3_yearsNow_76 : decode cX3_yearsNow 76 = .ok (.iload_n 3, 1) := by decide +kernel
theorem dX3_yearsNow_77 : decode cX3_yearsNow 77 = .ok (.ifCond .ne 8, 3) := by decide +kernel
theorem dX3_yearsNow_80 : decode cX3_yearsNow 80 = .ok (.iload 4, 2) := by decide +kernel
theorem dX3_yearsNow_82 : decode cX3_yearsNow 82 = .ok (.goto 18, 3) := by decide +kernel
theorem dX3_yearsNow_85 : decode cX3_yearsNow 85 = .ok (.iload_n 3, 1) := by decide +kernel
theorem dX3_yearsNow_86 : decode cX3_yearsNow 86 = .ok (.iconst 1, 1) := by decide +kernel
theorem dX3_yearsNow_87 : decode cX3_yearsNow 87 = .ok (.if_icmp .ne 8, 3) := by decide +kernel
theorem dX3_yearsNow_90 : decode cX3_yearsNow 90 = .ok (.iload 5, 2) := by decide +kernel
theorem dX3_yearsNow_92 : decode cX3_yearsNow 92 = .ok (.goto 8, 3) := by decide +kernel
theorem dX3_yearsNow_95 : decode cX3_yearsNow 95 = .ok (.aload_n 0, 1) := by decide +kernel
theorem dX3_yearsNow_96 : decode cX3_yearsNow 96 = .ok (.getfield 184, 3) := by decide +kernel
theorem dX3_yearsNow_99 : decode cX3_yearsNow 99 = .ok (.l2i, 1) := by decide +kernel
theorem dX3_yearsNow_100 : decode cX3_yearsNow 100 = .ok (.ireturn, 1) := by decide +kernel
theorem dX3_years_0 : decode cX3_years 0 = .ok (.iload_n 1, 1) := by decide +kernel
theorem dX3_years_1 : decode cX3_years 1 = .ok (.iconst 1, 1) := by decide +kernel
theorem dX3_years_2 : decode cX3_years 2 = .ok (.bipush 60, 2) := by decide +kernel
theorem dX3_years_4 : decode cX3_years 4 = .ok (.invokestatic 62, 3) := by decide +kernel
theorem dX3_years_7 : decode cX3_years 7 = .ok (.ifCond .eq 16, 3) := by decide +kernel
theorem dX3_years_10 : decode cX3_years 10 = .ok (.iload_n 2, 1) := by decide +kernel
theorem dX3_years_11 : decode cX3_years 11 = .ok (.ifCond .lt 12, 3) := by decide +kernel
theorem dX3_years_14 : decode cX3_years 14 = .ok (.iload_n 3, 1) := by decide +kernel
theorem dX3_years_15 : decode cX3_years 15 = .ok (.iconst 0, 1) := by decide +kernel
theorem dX3_years_16 : decode cX3_years 16 = .ok (.iconst 2, 1) := by decide +kernel
theorem dX3_years_17 : decode cX3_years 17 = .ok (.invokestatic 62, 3) := by decide +kernel
theorem dX3_years_20 : decode cX3_years 20 = .ok (.ifCond .ne 6, 3) := by decide +kernel
theorem dX3_years_23 : decode cX3_years 23 = .ok (.bipush (-102), 2) := by decide +kernel
theorem dX3_years_25 : decode cX3_years 25 = .ok (.ireturn, 1) := by decide +kernel
theorem dX3_years_26 : decode cX3_years 26 = .ok (.aload_n 0, 1) := by decide +kernel
theorem dX3_years_27 : decode cX3_years 27 = .ok (.getfield 82, 3) := by decide +kernel
theorem dX3_years_30 : decode cX3_years 30 = .ok (.ifCond .ne 8, 3) := by decide +kernel
theorem dX3_years_33 : decode cX3_years 33 = .ok (.bipush (-103), 2) := by decide +kernel
theorem dX3_years_35 : decode cX3_years 35 = .ok (.goto 10, 3) := by decide +kernel
theorem dX3_years_38 : decode cX3_years 38 = .ok (.aload_n 0, 1) := by decide +kernel
theorem dX3_years_39 : decode cX3_years 39 = .ok (.iload_n 1, 1) := by decide +kernel
theorem dX3_years_40 : decode cX3_years 40 = .ok (.iload_n 2, 1) := by decide +kernel
theorem dX3_years_41 : decode cX3_years 41 = .ok (.iload_n 3, 1) := by decide +kernel
theorem dX3_years_42 : decode cX3_years 42 = .ok (.invokevirtual 197, 3) := by decide +kernel
theorem dX3_years_45 : decode cX3_years 45 = .ok (.ireturn, 1) := by decide +kernel
theorem dX3_image_0 : decode cX3_image 0 = .ok (.aload_n 0, 1) := by decide +kernel
theorem dX3_image_1 : decode cX3_image 1 = .ok (.getfield 82, 3) := by decide +kernel
theorem dX3_image_4 : decode cX3_image 4 = .ok (.ifCond .ne 6, 3) := by decide +kernel
theorem dX3_image_7 : decode cX3_image 7 = .ok (.bipush (-103), 2) := by decide +kernel
theorem dX3_image_9 : decode cX3_image 9 = .ok (.ireturn, 1) := by decide +kernel
theorem dX3_image_10 : decode cX3_image 10 = .ok (.aload_n 0, 1) := by decide +kernel
theorem dX3_image_11 : decode cX3_image 11 = .ok (.iconst 1, 1) := by decide +kernel
theorem dX3_image_12 : decode cX3_image 12 = .ok (.putfield 201, 3) := by decide +kernel
theorem dX3_image_15 : decode cX3_image 15 = .ok (.aload_n 0, 1) := by decide +kernel
theorem dX3_image_16 : decode cX3_image 16 = .ok (.aload_n 0, 1) := by decide +kernel
theorem dX3_image_17 : decode cX3_image 17 = .ok (.getfield 85, 3) := by decide +kernel
theorem dX3_image_20 : decode cX3_image 20 = .ok (.putfield 205, 3) := by decide +kernel
theorem dX3_image_23 : decode cX3_image 23 = .ok (.aload_n 0, 1) := by decide +kernel
theorem dX3_image_24 : decode cX3_image 24 = .ok (.aload_n 0, 1) := by decide +kernel
theorem dX3_image_25 : decode cX3_image 25 = .ok (.getfield 88, 3) := by decide +kernel
theorem dX3_image_28 : decode cX3_image 28 = .ok (.putfield 208, 3) := by decide +kernel
theorem dX3_image_31 : decode cX3_image 31 = .ok (.aload_n 0, 1) := by decide +kernel
theorem dX3_image_32 : decode cX3_image 32 = .ok (.aload_n 0, 1) := by decide +kernel
theorem dX3_image_33 : decode cX3_image 33 = .ok (.getfield 91, 3) := by decide +kernel
theorem dX3_image_36 : decode cX3_image 36 = .ok (.putfield 211, 3) := by decide +kernel
theorem dX3_image_39 : decode cX3_image 39 = .ok (.aload_n 0, 1) := by decide +kernel
theorem dX3_image_40 : decode cX3_image 40 = .ok (.aload_n 0, 1) := by decide +kernel
theorem dX3_image_41 : decode cX3_image 41 = .ok (.getfield 94, 3) := by decide +kernel
theorem dX3_image_44 : decode cX3_image 44 = .ok (.putfield 214, 3) := by decide +kernel
theorem dX3_image_47 : decode cX3_image 47 = .ok (.aload_n 0, 1) := by decide +kernel
theorem dX3_image_48 : decode cX3_image 48 = .ok (.aload_n 0, 1) := by decide +kernel
theorem dX3_image_49 : decode cX3_image 49 = .ok (.getfield 97, 3) := by decide +kernel
theorem dX3_image_52 : decode cX3_image 52 = .ok (.putfield 217, 3) := by decide +kernel
theorem dX3_image_55 : decode cX3_image 55 = .ok (.iconst 0, 1) := by decide +kernel
theorem dX3_image_56 : decode cX3_image 56 = .ok (.istore_n 1, 1) := by decide +kernel
theorem dX3_image_57 : decode cX3_image 57 = .ok (.iload_n 1, 1) := by decide +kernel
theorem dX3_image_58 : decode cX3_image 58 = .ok (.bipush 6, 2) := by decide +kernel
theorem dX3_image_60 : decode cX3_image 60 = .ok (.if_icmp .ge 81, 3) := by decide +kernel
theorem dX3_image_63 : decode cX3_image 63 = .ok (.aload_n 0, 1) := by decide +kernel
theorem dX3_image_64 : decode cX3_image 64 = .ok (.getfield 41, 3) := by decide +kernel
theorem dX3_image_67 : decode cX3_image 67 = .ok (.iload_n 1, 1) := by decide +kernel
theorem dX3_image_68 : decode cX3_image 68 = .ok (.aload_n 0, 1) := by decide +kernel
theorem dX3_image_69 : decode cX3_image 69 = .ok (.getfield 13, 3) := by decide +kernel
theorem dX3_image_72 : decode cX3_image 72 = .ok (.iload_n 1, 1) := by decide +kernel
theorem dX3_image_73 : decode cX3_image 73 = .ok (.iaload, 1) := by decide +kernel
theorem dX3_image_74 : decode cX3_image 74 = .ok (.iastore, 1) := by decide +kernel
theorem dX3_image_75 : decode cX3_image 75 = .ok (.aload_n 0, 1) := by decide +kernel
theorem dX3_image_76 : decode cX3_image 76 = .ok (.getfield 44, 3) := by decide +kernel
theorem dX3_image_79 : decode cX3_image 79 = .ok (.iload_n 1, 1) := by decide +kernel
theorem dX3_image_80 : decode cX3_image 80 = .ok (.aload_n 0, 1) := by decide +kernel
theorem dX3_image_81 : decode cX3_image 81 = .ok (.getfield 16, 3) := by decide +kernel
theorem dX3_image_84 : decode cX3_image 84 = .ok (.iload_n 1, 1) := by decide +kernel
theorem dX3_image_85 : decode cX3_image 85 = .ok (.iaload, 1) := by decide +kernel
theorem dX3_image_86 : decode cX3_image 86 = .ok (.iastore, 1) := by decide +kernel
theorem dX3_image_87 : decode cX3_image 87 = .ok (.aload_n 0, 1) := by decide +kernel
theorem dX3_image_88 : decode cX3_image 88 = .ok (.getfield 50, 3) := by decide +kernel
theorem dX3_image_91 : decode cX3_image 91 = .ok (.iload_n 1, 1) := by decide +kernel
theorem dX3_image_92 : decode cX3_image 92 = .ok (.aload_n 0, 1) := by decide +kernel
theorem dX3_image_93 : decode cX3_image 93 = .ok (.getfield 22, 3) := by decide +kernel
theorem dX3_image_96 : decode cX3_image 96 = .ok (.iload_n 1, 1) := by decide +kernel
theorem dX3_image_97 : decode cX3_image 97 = .ok (.iaload, 1) := by decide +kernel
theorem dX3_image_98 : decode cX3_image 98 = .ok (.iastore, 1) := by decide +kernel
theorem dX3_image_99 : decode cX3_image 99 = .ok (.aload_n 0, 1) := by decide +kernel
theorem dX3_image_100 : decode cX3_image 100 = .ok (.getfield 53, 3) := by decide +kernel
theorem dX3_image_103 : decode cX3_image 103 = .ok (.iload_n 1, 1) := by decide +kernel
theorem dX3_image_104 : decode cX3_image 104 = .ok (.aload_n 0, 1) := by decide +kernel
theorem dX3_image_105 : decode cX3_image 105 = .ok (.getfield 25, 3) := by decide +kernel
theorem dX3_image_108 : decode cX3_image 108 = .ok (.iload_n 1, 1) := by decide +kernel
theorem dX3_image_109 : decode cX3_image 109 = .ok (.iaload, 1) := by decide +kernel
theorem dX3_image_110 : decode cX3_image 110 = .ok (.iastore, 1) := by decide +kernel
theorem dX3_image_111 : decode cX3_image 111 = .ok (.aload_n 0, 1) := by decide +kernel
theorem dX3_image_112 : decode cX3_image 112 = .ok (.getfield 56, 3) := by decide +kernel
theorem dX3_image_115 : decode cX3_image 115 = .ok (.iload_n 1, 1) := by decide +kernel
theorem dX3_image_116 : decode cX3_image 116 = .ok (.aload_n 0, 1) := by decide +kernel
theorem dX3_image_117 : decode cX3_image 117 = .ok (.getfield 28, 3) := by decide +kernel
theorem dX3_image_120 : decode cX3_image 120 = .ok (.iload_n 1, 1) := by decide +kernel
theorem dX3_image_121 : decode cX3_image 121 = .ok (.iaload, 1) := by decide +kernel
theorem dX3_image_122 : decode cX3_image 122 = .ok (.iastore, 1) := by decide +kernel
theorem dX3_image_123 : decode cX3_image 123 = .ok (.aload_n 0, 1) := by decide +kernel
theorem dX3_image_124 : decode cX3_image 124 = .ok (.getfield 59, 3) := by decide +kernel
theorem dX3_image_127 : decode cX3_image 127 = .ok (.iload_n 1, 1) := by decide +kernel
theorem dX3_image_128 : decode cX3_image 128 = .ok (.aload_n 0, 1) := by decide +kernel
theorem dX3_image_129 : decode cX3_image 129 = .ok (.getfield 31, 3) := by decide +kernel
theorem dX3_image_132 : decode cX3_image 132 = .ok (.iload_n 1, 1) := by decide +kernel
theorem dX3_image_133 : decode cX3_image 133 = .ok (.iaload, 1) := by decide +kernel
theorem dX3_image_134 : decode cX3_image 134 = .ok (.iastore, 1) := by decide +kernel
theorem dX3_image_135 : decode cX3_image 135 = .ok (.iinc 1 1, 3) := by decide +kernel
theorem dX3_image_138 : decode cX3_image 138 = .ok (.goto (-81), 3) := by decide +kernel
theorem dX3_image_141 : decode cX3_image 141 = .ok (.iconst 0, 1) := by decide +kernel
theorem dX3_image_142 : decode cX3_image 142 = .ok (.istore_n 1, 1) := by decide +kernel
theorem dX3_image_143 : decode cX3_image 143 = .ok (.iload_n 1, 1) := by decide +kernel
theorem dX3_image_144 : decode cX3_image 144 = .ok (.sipush 186, 3) := by decide +kernel
theorem dX3_image_147 : decode cX3_image 147 = .ok (.if_icmp .ge 21, 3) := by decide +kernel
theorem dX3_image_150 : decode cX3_image 150 = .ok (.aload_n 0, 1) := by decide +kernel
theorem dX3_image_151 : decode cX3_image 151 = .ok (.getfield 47, 3) := by decide +kernel
theorem dX3_image_154 : decode cX3_image 154 = .ok (.iload_n 1, 1) := by decide +kernel
theorem dX3_image_155 : decode cX3_image 155 = .ok (.aload_n 0, 1) := by decide +kernel
theorem dX3_image_156 : decode cX3_image 156 = .ok (.getfield 19, 3) := by decide +kernel
theorem dX3_image_159 : decode cX3_image 159 = .ok (.iload_n 1, 1) := by decide +kernel
theorem dX3_image_160 : decode cX3_image 160 = .ok (.iaload, 1) := by decide +kernel
theorem dX3_image_161 : decode cX3_image 161 = .ok (.iastore, 1) := by decide +kernel
theorem dX3_image_162 : decode cX3_image 162 = .ok (.iinc 1 1, 3) := by decide +kernel
theorem dX3_image_165 : decode cX3_image 165 = .ok (.goto (-22), 3) := by decide +kernel
theorem dX3_image_168 : decode cX3_image 168 = .ok (.aload_n 0, 1) := by decide +kernel
theorem dX3_image_169 : decode cX3_image 169 = .ok (.getfield 88, 3) := by decide +kernel
theorem dX3_image_172 : decode cX3_image 172 = .ok (.ireturn, 1) := by decide +kernel
theorem dX3_restore_0 : decode cX3_restore 0 = .ok (.aload_n 0, 1) := by decide +kernel
theorem dX3_restore_1 : decode cX3_restore 1 = .ok (.getfield 201, 3) := by decide +kernel
theorem dX3_restore_4 : decode cX3_restore 4 = .ok (.ifCond .eq 14, 3) := by decide +kernel
theorem dX3_restore_7 : decode cX3_restore 7 = .ok (.aload_n 0, 1) := by decide +kernel
theorem dX3_restore_8 : decode cX3_restore 8 = .ok (.getfield 205, 3) := by decide +kernel
theorem dX3_restore_11 : decode cX3_restore 11 = .ok (.aload_n 0, 1) := by decide +kernel
theorem dX3_restore_12 : decode cX3_restore 12 = .ok (.getfield 85, 3) := by decide +kernel
theorem dX3_restore_15 : decode cX3_restore 15 = .ok (.if_icmp .eq 6, 3) := by decide +kernel
theorem dX3_restore_18 : decode cX3_restore 18 = .ok (.bipush (-103), 2) := by decide +kernel
theorem dX3_restore_20 : decode cX3_restore 20 = .ok (.ireturn, 1) := by decide +kernel
theorem dX3_restore_21 : decode cX3_restore 21 = .ok (.aload_n 0, 1) := by decide +kernel
theorem dX3_restore_22 : decode cX3_restore 22 = .ok (.aload_n 0, 1) := by decide +kernel
theorem dX3_restore_23 : decode cX3_restore 23 = .ok (.getfield 208, 3) := by decide +kernel
theorem dX3_restore_26 : decode cX3_restore 26 = .ok (.putfield 88, 3) := by decide +kernel
theorem dX3_restore_29 : decode cX3_restore 29 = .ok (.aload_n 0, 1) := by decide +kernel
theorem dX3_restore_30 : decode cX3_restore 30 = .ok (.aload_n 0, 1) := by decide +kernel
theorem dX3_restore_31 : decode cX3_restore 31 = .ok (.getfield 211, 3) := by decide +kernel
theorem dX3_restore_34 : decode cX3_restore 34 = .ok (.putfield 91, 3) := by decide +kernel
theorem dX3_restore_37 : decode cX3_restore 37 = .ok (.aload_n 0, 1) := by decide +kernel
theorem dX3_restore_38 : decode cX3_restore 38 = .ok (.aload_n 0, 1) := by decide +kernel
theorem dX3_restore_39 : decode cX3_restore 39 = .ok (.getfield 214, 3) := by decide +kernel
theorem dX3_restore_42 : decode cX3_restore 42 = .ok (.putfield 94, 3) := by decide +kernel
theorem dX3_restore_45 : decode cX3_restore 45 = .ok (.aload_n 0, 1) := by decide +kernel
theorem dX3_restore_46 : decode cX3_restore 46 = .ok (.aload_n 0, 1) := by decide +kernel
theorem dX3_restore_47 : decode cX3_restore 47 = .ok (.getfield 217, 3) := by decide +kernel
theorem dX3_restore_50 : decode cX3_restore 50 = .ok (.putfield 97, 3) := by decide +kernel
theorem dX3_restore_53 : decode cX3_restore 53 = .ok (.iconst 0, 1) := by decide +kernel
theorem dX3_restore_54 : decode cX3_restore 54 = .ok (.istore_n 1, 1) := by decide +kernel
theorem dX3_restore_55 : decode cX3_restore 55 = .ok (.iload_n 1, 1) := by decide +kernel
theorem dX3_restore_56 : decode cX3_restore 56 = .ok (.bipush 6, 2) := by decide +kernel
theorem dX3_restore_58 : decode cX3_restore 58 = .ok (.if_icmp .ge 81, 3) := by decide +kernel
theorem dX3_restore_61 : decode cX3_restore 61 = .ok (.aload_n 0, 1) := by decide +kernel
theorem dX3_restore_62 : decode cX3_restore 62 = .ok (.getfield 13, 3) := by decide +kernel
theorem dX3_restore_65 : decode cX3_restore 65 = .ok (.iload_n 1, 1) := by decide +kernel
theorem dX3_restore_66 : decode cX3_restore 66 = .ok (.aload_n 0, 1) := by decide +kernel
theorem dX3_restore_67 : decode cX3_restore 67 = .ok (.getfield 41, 3) := by decide +kernel
theorem dX3_restore_70 : decode cX3_restore 70 = .ok (.iload_n 1, 1) := by decide +kernel
theorem dX3_restore_71 : decode cX3_restore 71 = .ok (.iaload, 1) := by decide +kernel
theorem dX3_restore_72 : decode cX3_restore 72 = .ok (.iastore, 1) := by decide +kernel
theorem dX3_restore_73 : decode cX3_restore 73 = .ok (.aload_n 0, 1) := by decide +kernel
theorem dX3_restore_74 : decode cX3_restore 74 = .ok (.getfield 16, 3) := by decide +kernel
theorem dX3_restore_77 : decode cX3_restore 77 = .ok (.iload_n 1, 1) := by decide +kernel
theorem dX3_restore_78 : decode cX3_restore 78 = .ok (.aload_n 0, 1) := by decide +kernel
theorem dX3_restore_79 : decode cX3_restore 79 = .ok (.getfield 44, 3) := by decide +kernel
theorem dX3_restore_82 : decode cX3_restore 82 = .ok (.iload_n 1, 1) := by decide +kernel
theorem dX3_restore_83 : decode cX3_restore 83 = .ok (.iaload, 1) := by decide +kernel
theorem dX3_restore_84 : decode cX3_restore 84 = .ok (.iastore, 1) := by decide +kernel
theorem dX3_restore_85 : decode cX3_restore 85 = .ok (.aload_n 0, 1) := by decide +kernel
theorem dX3_restore_86 : decode cX3_restore 86 = .ok (.getfield 22, 3) := by decide +kernel
theorem dX3_restore_89 : decode cX3_restore 89 = .ok (.iload_n 1, 1) := by decide +kernel
theorem dX3_restore_90 : decode cX3_restore 90 = .ok (.aload_n 0, 1) := by decide +kernel
theorem dX3_restore_91 : decode cX3_restore 91 = .ok (.getfield 50, 3) := by decide +kernel
theorem dX3_restore_94 : decode cX3_restore 94 = .ok (.iload_n 1, 1) := by decide +kernel
theorem dX3_restore_95 : decode cX3_restore 95 = .ok (.iaload, 1) := by decide +kernel
theorem dX3_restore_96 : decode cX3_restore 96 = .ok (.iastore, 1) := by decide +kernel
theorem dX3_restore_97 : decode cX3_restore 97 = .ok (.aload_n 0, 1) := by decide +kernel
theorem dX3_restore_98 : decode cX3_restore 98 = .ok (.getfield 25, 3) := by decide +kernel
theorem dX3_restore_101 : decode cX3_restore 101 = .ok (.iload_n 1, 1) := by decide +kernel
theorem dX3_restore_102 : decode cX3_restore 102 = .ok (.aload_n 0, 1) := by decide +kernel
theorem dX3_restore_103 : decode cX3_restore 103 = .ok (.getfield 53, 3) := by decide +kernel
theorem dX3_restore_106 : decode cX3_restore 106 = .ok (.iload_n 1, 1) := by decide +kernel
theorem dX3_restore_107 : decode cX3_restore 107 = .ok (.iaload, 1) := by decide +kernel
theorem dX3_restore_108 : decode cX3_restore 108 = .ok (.iastore, 1) := by decide +kernel
theorem dX3_restore_109 : decode cX3_restore 109 = .ok (.aload_n 0, 1) := by decide +kernel
theorem dX3_restore_110 : decode cX3_restore 110 = .ok (.getfield 28, 3) := by decide +kernel
theorem dX3_restore_113 : decode cX3_restore 113 = .ok (.iload_n 1, 1) := by decide +kernel
theorem dX3_restore_114 : decode cX3_restore 114 = .ok (.aload_n 0, 1) := by decide +kernel
theorem dX3_restore_115 : decode cX3_restore 115 = .ok (.getfield 56, 3) := by decide +kernel
theorem dX3_restore_118 : decode cX3_restore 118 = .ok (.iload_n 1, 1) := by decide +kernel
theorem dX3_restore_119 : decode cX3_restore 119 = .ok (.iaload, 1) := by decide +kernel
theorem dX3_restore_120 : decode cX3_restore 120 = .ok (.iastore, 1) := by decide +kernel
theorem dX3_restore_121 : decode cX3_restore 121 = .ok (.aload_n 0, 1) := by decide +kernel
theorem dX3_restore_122 : decode cX3_restore 122 = .ok (.getfield 31, 3) := by decide +kernel
theorem dX3_restore_125 : decode cX3_restore 125 = .ok (.iload_n 1, 1) := by decide +kernel
theorem dX3_restore_126 : decode cX3_restore 126 = .ok (.aload_n 0, 1) := by decide +kernel
theorem dX3_restore_127 : decode cX3_restore 127 = .ok (.getfield 59, 3) := by decide +kernel
theorem dX3_restore_130 : decode cX3_restore 130 = .ok (.iload_n 1, 1) := by decide +kernel
theorem dX3_restore_131 : decode cX3_restore 131 = .ok (.iaload, 1) := by decide +kernel
theorem dX3_restore_132 : decode cX3_restore 132 = .ok (.iastore, 1) := by decide +kernel
theorem dX3_restore_133 : decode cX3_restore 133 = .ok (.iinc 1 1, 3) := by decide +kernel
theorem dX3_restore_136 : decode cX3_restore 136 = .ok (.goto (-81), 3) := by decide +kernel
theorem dX3_restore_139 : decode cX3_restore 139 = .ok (.iconst 0, 1) := by decide +kernel
theorem dX3_restore_140 : decode cX3_restore 140 = .ok (.istore_n 1, 1) := by decide +kernel
theorem dX3_restore_141 : decode cX3_restore 141 = .ok (.iload_n 1, 1) := by decide +kernel
theorem dX3_restore_142 : decode cX3_restore 142 = .ok (.sipush 186, 3) := by decide +kernel
theorem dX3_restore_145 : decode cX3_restore 145 = .ok (.if_icmp .ge 21, 3) := by decide +kernel
theorem dX3_restore_148 : decode cX3_restore 148 = .ok (.aload_n 0, 1) := by decide +kernel
theorem dX3_restore_149 : decode cX3_restore 149 = .ok (.getfield 19, 3) := by decide +kernel
theorem dX3_restore_152 : decode cX3_restore 152 = .ok (.iload_n 1, 1) := by decide +kernel
theorem dX3_restore_153 : decode cX3_restore 153 = .ok (.aload_n 0, 1) := by decide +kernel
theorem dX3_restore_154 : decode cX3_restore 154 = .ok (.getfield 47, 3) := by decide +kernel
theorem dX3_restore_157 : decode cX3_restore 157 = .ok (.iload_n 1, 1) := by decide +kernel
theorem dX3_restore_158 : decode cX3_restore 158 = .ok (.iaload, 1) := by decide +kernel
theorem dX3_restore_159 : decode cX3_restore 159 = .ok (.iastore, 1) := by decide +kernel
theorem dX3_restore_160 : decode cX3_restore 160 = .ok (.iinc 1 1, 3) := by decide +kernel
theorem dX3_restore_163 : decode cX3_restore 163 = .ok (.goto (-22), 3) := by decide +kernel
theorem dX3_restore_166 : decode cX3_restore 166 = .ok (.aload_n 0, 1) := by decide +kernel
theorem dX3_restore_167 : decode cX3_restore 167 = .ok (.getfield 88, 3) := by decide +kernel
theorem dX3_restore_170 : decode cX3_restore 170 = .ok (.ireturn, 1) := by decide +kernel
theorem dX3_unlike_0 : decode cX3_unlike 0 = .ok (.iconst 0, 1) := by decide +kernel
theorem dX3_unlike_1 : decode cX3_unlike 1 = .ok (.istore_n 1, 1) := by decide +kernel
theorem dX3_unlike_2 : decode cX3_unlike 2 = .ok (.iconst 0, 1) := by decide +kernel
theorem dX3_unlike_3 : decode cX3_unlike 3 = .ok (.istore_n 2, 1) := by decide +kernel
theorem dX3_unlike_4 : decode cX3_unlike 4 = .ok (.iload_n 2, 1) := by decide +kernel
theorem dX3_unlike_5 : decode cX3_unlike 5 = .ok (.aload_n 0, 1) := by decide +kernel
theorem dX3_unlike_6 : decode cX3_unlike 6 = .ok (.getfield 82, 3) := by decide +kernel
theorem dX3_unlike_9 : decode cX3_unlike 9 = .ok (.if_icmp .ge 34, 3) := by decide +kernel
theorem dX3_unlike_12 : decode cX3_unlike 12 = .ok (.iload_n 1, 1) := by decide +kernel
theorem dX3_unlike_13 : decode cX3_unlike 13 = .ok (.aload_n 0, 1) := by decide +kernel
theorem dX3_unlike_14 : decode cX3_unlike 14 = .ok (.aload_n 0, 1) := by decide +kernel
theorem dX3_unlike_15 : decode cX3_unlike 15 = .ok (.iload_n 2, 1) := by decide +kernel
theorem dX3_unlike_16 : decode cX3_unlike 16 = .ok (.invokevirtual 107, 3) := by decide +kernel
theorem dX3_unlike_19 : decode cX3_unlike 19 = .ok (.aload_n 0, 1) := by decide +kernel
theorem dX3_unlike_20 : decode cX3_unlike 20 = .ok (.getfield 88, 3) := by decide +kernel
theorem dX3_unlike_23 : decode cX3_unlike 23 = .ok (.invokevirtual 116, 3) := by decide +kernel
theorem dX3_unlike_26 : decode cX3_unlike 26 = .ok (.iload_n 2, 1) := by decide +kernel
theorem dX3_unlike_27 : decode cX3_unlike 27 = .ok (.if_icmp .ne 7, 3) := by decide +kernel
theorem dX3_unlike_30 : decode cX3_unlike 30 = .ok (.iconst 1, 1) := by decide +kernel
theorem dX3_unlike_31 : decode cX3_unlike 31 = .ok (.goto 4, 3) := by decide +kernel
theorem dX3_unlike_34 : decode cX3_unlike 34 = .ok (.iconst 0, 1) := by decide +kernel
theorem dX3_unlike_35 : decode cX3_unlike 35 = .ok (.iadd, 1) := by decide +kernel
theorem dX3_unlike_36 : decode cX3_unlike 36 = .ok (.istore_n 1, 1) := by decide +kernel
theorem dX3_unlike_37 : decode cX3_unlike 37 = .ok (.iinc 2 1, 3) := by decide +kernel
theorem dX3_unlike_40 : decode cX3_unlike 40 = .ok (.goto (-36), 3) := by decide +kernel
theorem dX3_unlike_43 : decode cX3_unlike 43 = .ok (.iload_n 1, 1) := by decide +kernel
theorem dX3_unlike_44 : decode cX3_unlike 44 = .ok (.ireturn, 1) := by decide +kernel
theorem dX3_owesAll_0 : decode cX3_owesAll 0 = .ok (.iconst 0, 1) := by decide +kernel
theorem dX3_owesAll_1 : decode cX3_owesAll 1 = .ok (.istore_n 1, 1) := by decide +kernel
theorem dX3_owesAll_2 : decode cX3_owesAll 2 = .ok (.iconst 0, 1) := by decide +kernel
theorem dX3_owesAll_3 : decode cX3_owesAll 3 = .ok (.istore_n 2, 1) := by decide +kernel
theorem dX3_owesAll_4 : decode cX3_owesAll 4 = .ok (.iload_n 2, 1) := by decide +kernel
theorem dX3_owesAll_5 : decode cX3_owesAll 5 = .ok (.aload_n 0, 1) := by decide +kernel
theorem dX3_owesAll_6 : decode cX3_owesAll 6 = .ok (.getfield 82, 3) := by decide +kernel
theorem dX3_owesAll_9 : decode cX3_owesAll 9 = .ok (.if_icmp .ge 17, 3) := by decide +kernel
theorem dX3_owesAll_12 : decode cX3_owesAll 12 = .ok (.iload_n 1, 1) := by decide +kernel
theorem dX3_owesAll_13 : decode cX3_owesAll 13 = .ok (.aload_n 0, 1) := by decide +kernel
theorem dX3_owesAll_14 : decode cX3_owesAll 14 = .ok (.iload_n 2, 1) := by decide +kernel
theorem dX3_owesAll_15 : decode cX3_owesAll 15 = .ok (.invokevirtual 119, 3) := by decide +kernel
theorem dX3_owesAll_18 : decode cX3_owesAll 18 = .ok (.iadd, 1) := by decide +kernel
theorem dX3_owesAll_19 : decode cX3_owesAll 19 = .ok (.istore_n 1, 1) := by decide +kernel
theorem dX3_owesAll_20 : decode cX3_owesAll 20 = .ok (.iinc 2 1, 3) := by decide +kernel
theorem dX3_owesAll_23 : decode cX3_owesAll 23 = .ok (.goto (-19), 3) := by decide +kernel
theorem dX3_owesAll_26 : decode cX3_owesAll 26 = .ok (.iload_n 1, 1) := by decide +kernel
theorem dX3_owesAll_27 : decode cX3_owesAll 27 = .ok (.ireturn, 1) := by decide +kernel
theorem dX3_howMany_0 : decode cX3_howMany 0 = .ok (.iload_n 1, 1) := by decide +kernel
theorem dX3_howMany_1 : decode cX3_howMany 1 = .ok (.tableswitch 105 0 9 #[55, 60, 65, 70, 75, 80, 85, 90, 95, 100], 55) := by decide +kernel
theorem dX3_howMany_56 : decode cX3_howMany 56 = .ok (.aload_n 0, 1) := by decide +kernel
theorem dX3_howMany_57 : decode cX3_howMany 57 = .ok (.getfield 82, 3) := by decide +kernel
theorem dX3_howMany_60 : decode cX3_howMany 60 = .ok (.ireturn, 1) := by decide +kernel
theorem dX3_howMany_61 : decode cX3_howMany 61 = .ok (.aload_n 0, 1) := by decide +kernel
theorem dX3_howMany_62 : decode cX3_howMany 62 = .ok (.getfield 88, 3) := by decide +kernel
theorem dX3_howMany_65 : decode cX3_howMany 65 = .ok (.ireturn, 1) := by decide +kernel
theorem dX3_howMany_66 : decode cX3_howMany 66 = .ok (.aload_n 0, 1) := by decide +kernel
theorem dX3_howMany_67 : decode cX3_howMany 67 = .ok (.getfield 91, 3) := by decide +kernel
theorem dX3_howMany_70 : decode cX3_howMany 70 = .ok (.ireturn, 1) := by decide +kernel
theorem dX3_howMany_71 : decode cX3_howMany 71 = .ok (.aload_n 0, 1) := by decide +kernel
theorem dX3_howMany_72 : decode cX3_howMany 72 = .ok (.invokevirtual 148, 3) := by decide +kernel
theorem dX3_howMany_75 : decode cX3_howMany 75 = .ok (.ireturn, 1) := by decide +kernel
theorem dX3_howMany_76 : decode cX3_howMany 76 = .ok (.aload_n 0, 1) := by decide +kernel
theorem dX3_howMany_77 : decode cX3_howMany 77 = .ok (.invokevirtual 220, 3) := by decide +kernel
theorem dX3_howMany_80 : decode cX3_howMany 80 = .ok (.ireturn, 1) := by decide +kernel
theorem dX3_howMany_81 : decode cX3_howMany 81 = .ok (.aload_n 0, 1) := by decide +kernel
theorem dX3_howMany_82 : decode cX3_howMany 82 = .ok (.getfield 94, 3) := by decide +kernel
theorem dX3_howMany_85 : decode cX3_howMany 85 = .ok (.ireturn, 1) := by decide +kernel
theorem dX3_howMany_86 : decode cX3_howMany 86 = .ok (.aload_n 0, 1) := by decide +kernel
theorem dX3_howMany_87 : decode cX3_howMany 87 = .ok (.invokevirtual 223, 3) := by decide +kernel
theorem dX3_howMany_90 : decode cX3_howMany 90 = .ok (.ireturn, 1) := by decide +kernel
theorem dX3_howMany_91 : decode cX3_howMany 91 = .ok (.aload_n 0, 1) := by decide +kernel
theorem dX3_howMany_92 : decode cX3_howMany 92 = .ok (.getfield 97, 3) := by decide +kernel
theorem dX3_howMany_95 : decode cX3_howMany 95 = .ok (.ireturn, 1) := by decide +kernel
theorem dX3_howMany_96 : decode cX3_howMany 96 = .ok (.aload_n 0, 1) := by decide +kernel
theorem dX3_howMany_97 : decode cX3_howMany 97 = .ok (.getfield 66, 3) := by decide +kernel
theorem dX3_howMany_100 : decode cX3_howMany 100 = .ok (.ireturn, 1) := by decide +kernel
theorem dX3_howMany_101 : decode cX3_howMany 101 = .ok (.aload_n 0, 1) := by decide +kernel
theorem dX3_howMany_102 : decode cX3_howMany 102 = .ok (.getfield 85, 3) := by decide +kernel
theorem dX3_howMany_105 : decode cX3_howMany 105 = .ok (.ireturn, 1) := by decide +kernel
theorem dX3_howMany_106 : decode cX3_howMany 106 = .ok (.bipush (-102), 2) := by decide +kernel
theorem dX3_howMany_108 : decode cX3_howMany 108 = .ok (.ireturn, 1) := by decide +kernel
theorem dX3_count_0 : decode cX3_count 0 = .ok (.aload_n 0, 1) := by decide +kernel
theorem dX3_count_1 : decode cX3_count 1 = .ok (.iload_n 1, 1) := by decide +kernel
theorem dX3_count_2 : decode cX3_count 2 = .ok (.invokevirtual 226, 3) := by decide +kernel
theorem dX3_count_5 : decode cX3_count 5 = .ok (.ireturn, 1) := by decide +kernel
theorem dX3_mix_0 : decode cX3_mix 0 = .ok (.aload_n 0, 1) := by decide +kernel
theorem dX3_mix_1 : decode cX3_mix 1 = .ok (.ldc2_w 229, 3) := by decide +kernel
theorem dX3_mix_4 : decode cX3_mix 4 = .ok (.aload_n 0, 1) := by decide +kernel
theorem dX3_mix_5 : decode cX3_mix 5 = .ok (.getfield 231, 3) := by decide +kernel
theorem dX3_mix_8 : decode cX3_mix 8 = .ok (.lmul, 1) := by decide +kernel
theorem dX3_mix_9 : decode cX3_mix 9 = .ok (.lload_n 1, 1) := by decide +kernel
theorem dX3_mix_10 : decode cX3_mix 10 = .ok (.ladd, 1) := by decide +kernel
theorem dX3_mix_11 : decode cX3_mix 11 = .ok (.putfield 231, 3) := by decide +kernel
theorem dX3_mix_14 : decode cX3_mix 14 = .ok (.return_, 1) := by decide +kernel
theorem dX3_mixHouse_0 : decode cX3_mixHouse 0 = .ok (.iconst 0, 1) := by decide +kernel
theorem dX3_mixHouse_1 : decode cX3_mixHouse 1 = .ok (.istore_n 2, 1) := by decide +kernel
theorem dX3_mixHouse_2 : decode cX3_mixHouse 2 = .ok (.iload_n 2, 1) := by decide +kernel
theorem dX3_mixHouse_3 : decode cX3_mixHouse 3 = .ok (.bipush 6, 2) := by decide +kernel
theorem dX3_mixHouse_5 : decode cX3_mixHouse 5 = .ok (.if_icmp .ge 20, 3) := by decide +kernel
theorem dX3_mixHouse_8 : decode cX3_mixHouse 8 = .ok (.aload_n 0, 1) := by decide +kernel
theorem dX3_mixHouse_9 : decode cX3_mixHouse 9 = .ok (.aload_n 0, 1) := by decide +kernel
theorem dX3_mixHouse_10 : decode cX3_mixHouse 10 = .ok (.iload_n 1, 1) := by decide +kernel
theorem dX3_mixHouse_11 : decode cX3_mixHouse 11 = .ok (.iload_n 2, 1) := by decide +kernel
theorem dX3_mixHouse_12 : decode cX3_mixHouse 12 = .ok (.invokevirtual 125, 3) := by decide +kernel
theorem dX3_mixHouse_15 : decode cX3_mixHouse 15 = .ok (.i2l, 1) := by decide +kernel
theorem dX3_mixHouse_16 : decode cX3_mixHouse 16 = .ok (.invokevirtual 234, 3) := by decide +kernel
theorem dX3_mixHouse_19 : decode cX3_mixHouse 19 = .ok (.iinc 2 1, 3) := by decide +kernel
theorem dX3_mixHouse_22 : decode cX3_mixHouse 22 = .ok (.goto (-20), 3) := by decide +kernel
theorem dX3_mixHouse_25 : decode cX3_mixHouse 25 = .ok (.iconst 0, 1) := by decide +kernel
theorem dX3_mixHouse_26 : decode cX3_mixHouse 26 = .ok (.istore_n 2, 1) := by decide +kernel
theorem dX3_mixHouse_27 : decode cX3_mixHouse 27 = .ok (.iload_n 2, 1) := by decide +kernel
theorem dX3_mixHouse_28 : decode cX3_mixHouse 28 = .ok (.aload_n 0, 1) := by decide +kernel
theorem dX3_mixHouse_29 : decode cX3_mixHouse 29 = .ok (.getfield 88, 3) := by decide +kernel
theorem dX3_mixHouse_32 : decode cX3_mixHouse 32 = .ok (.if_icmp .gt 20, 3) := by decide +kernel
theorem dX3_mixHouse_35 : decode cX3_mixHouse 35 = .ok (.aload_n 0, 1) := by decide +kernel
theorem dX3_mixHouse_36 : decode cX3_mixHouse 36 = .ok (.aload_n 0, 1) := by decide +kernel
theorem dX3_mixHouse_37 : decode cX3_mixHouse 37 = .ok (.iload_n 1, 1) := by decide +kernel
theorem dX3_mixHouse_38 : decode cX3_mixHouse 38 = .ok (.iload_n 2, 1) := by decide +kernel
theorem dX3_mixHouse_39 : decode cX3_mixHouse 39 = .ok (.invokevirtual 113, 3) := by decide +kernel
theorem dX3_mixHouse_42 : decode cX3_mixHouse 42 = .ok (.i2l, 1) := by decide +kernel
theorem dX3_mixHouse_43 : decode cX3_mixHouse 43 = .ok (.invokevirtual 234, 3) := by decide +kernel
theorem dX3_mixHouse_46 : decode cX3_mixHouse 46 = .ok (.iinc 2 1, 3) := by decide +kernel
theorem dX3_mixHouse_49 : decode cX3_mixHouse 49 = .ok (.goto (-22), 3) := by decide +kernel
theorem dX3_mixHouse_52 : decode cX3_mixHouse 52 = .ok (.return_, 1) := by decide +kernel
theorem dX3_digest_0 : decode cX3_digest 0 = .ok (.aload_n 0, 1) := by decide +kernel
theorem dX3_digest_1 : decode cX3_digest 1 = .ok (.ldc2_w 238, 3) := by decide +kernel
theorem dX3_digest_4 : decode cX3_digest 4 = .ok (.putfield 231, 3) := by decide +kernel
theorem dX3_digest_7 : decode cX3_digest 7 = .ok (.iconst 0, 1) := by decide +kernel
theorem dX3_digest_8 : decode cX3_digest 8 = .ok (.istore_n 1, 1) := by decide +kernel
theorem dX3_digest_9 : decode cX3_digest 9 = .ok (.iload_n 1, 1) := by decide +kernel
theorem dX3_digest_10 : decode cX3_digest 10 = .ok (.aload_n 0, 1) := by decide +kernel
theorem dX3_digest_11 : decode cX3_digest 11 = .ok (.getfield 82, 3) := by decide +kernel
theorem dX3_digest_14 : decode cX3_digest 14 = .ok (.if_icmp .ge 14, 3) := by decide +kernel
theorem dX3_digest_17 : decode cX3_digest 17 = .ok (.aload_n 0, 1) := by decide +kernel
theorem dX3_digest_18 : decode cX3_digest 18 = .ok (.iload_n 1, 1) := by decide +kernel
theorem dX3_digest_19 : decode cX3_digest 19 = .ok (.invokevirtual 240, 3) := by decide +kernel
theorem dX3_digest_22 : decode cX3_digest 22 = .ok (.iinc 1 1, 3) := by decide +kernel
theorem dX3_digest_25 : decode cX3_digest 25 = .ok (.goto (-16), 3) := by decide +kernel
theorem dX3_digest_28 : decode cX3_digest 28 = .ok (.aload_n 0, 1) := by decide +kernel
theorem dX3_digest_29 : decode cX3_digest 29 = .ok (.getfield 82, 3) := by decide +kernel
theorem dX3_digest_32 : decode cX3_digest 32 = .ok (.ifCond .le 65, 3) := by decide +kernel
theorem dX3_digest_35 : decode cX3_digest 35 = .ok (.aload_n 0, 1) := by decide +kernel
theorem dX3_digest_36 : decode cX3_digest 36 = .ok (.aload_n 0, 1) := by decide +kernel
theorem dX3_digest_37 : decode cX3_digest 37 = .ok (.invokevirtual 141, 3) := by decide +kernel
theorem dX3_digest_40 : decode cX3_digest 40 = .ok (.i2l, 1) := by decide +kernel
theorem dX3_digest_41 : decode cX3_digest 41 = .ok (.invokevirtual 234, 3) := by decide +kernel
theorem dX3_digest_44 : decode cX3_digest 44 = .ok (.aload_n 0, 1) := by decide +kernel
theorem dX3_digest_45 : decode cX3_digest 45 = .ok (.aload_n 0, 1) := by decide +kernel
theorem dX3_digest_46 : decode cX3_digest 46 = .ok (.bipush 9, 2) := by decide +kernel
theorem dX3_digest_48 : decode cX3_digest 48 = .ok (.iconst 0, 1) := by decide +kernel
theorem dX3_digest_49 : decode cX3_digest 49 = .ok (.invokevirtual 164, 3) := by decide +kernel
theorem dX3_digest_52 : decode cX3_digest 52 = .ok (.i2l, 1) := by decide +kernel
theorem dX3_digest_53 : decode cX3_digest 53 = .ok (.invokevirtual 234, 3) := by decide +kernel
theorem dX3_digest_56 : decode cX3_digest 56 = .ok (.aload_n 0, 1) := by decide +kernel
theorem dX3_digest_57 : decode cX3_digest 57 = .ok (.aload_n 0, 1) := by decide +kernel
theorem dX3_digest_58 : decode cX3_digest 58 = .ok (.bipush 9, 2) := by decide +kernel
theorem dX3_digest_60 : decode cX3_digest 60 = .ok (.iconst 1, 1) := by decide +kernel
theorem dX3_digest_61 : decode cX3_digest 61 = .ok (.invokevirtual 164, 3) := by decide +kernel
theorem dX3_digest_64 : decode cX3_digest 64 = .ok (.i2l, 1) := by decide +kernel
theorem dX3_digest_65 : decode cX3_digest 65 = .ok (.invokevirtual 234, 3) := by decide +kernel
theorem dX3_digest_68 : decode cX3_digest 68 = .ok (.aload_n 0, 1) := by decide +kernel
theorem dX3_digest_69 : decode cX3_digest 69 = .ok (.aload_n 0, 1) := by decide +kernel
theorem dX3_digest_70 : decode cX3_digest 70 = .ok (.iconst 0, 1) := by decide +kernel
theorem dX3_digest_71 : decode cX3_digest 71 = .ok (.invokevirtual 173, 3) := by decide +kernel
theorem dX3_digest_74 : decode cX3_digest 74 = .ok (.i2l, 1) := by decide +kernel
theorem dX3_digest_75 : decode cX3_digest 75 = .ok (.invokevirtual 234, 3) := by decide +kernel
theorem dX3_digest_78 : decode cX3_digest 78 = .ok (.aload_n 0, 1) := by decide +kernel
theorem dX3_digest_79 : decode cX3_digest 79 = .ok (.aload_n 0, 1) := by decide +kernel
theorem dX3_digest_80 : decode cX3_digest 80 = .ok (.iconst 1, 1) := by decide +kernel
theorem dX3_digest_81 : decode cX3_digest 81 = .ok (.invokevirtual 173, 3) := by decide +kernel
theorem dX3_digest_84 : decode cX3_digest 84 = .ok (.i2l, 1) := by decide +kernel
theorem dX3_digest_85 : decode cX3_digest 85 = .ok (.invokevirtual 234, 3) := by decide +kernel
theorem dX3_digest_88 : decode cX3_digest 88 = .ok (.aload_n 0, 1) := by decide +kernel
theorem dX3_digest_89 : decode cX3_digest 89 = .ok (.aload_n 0, 1) := by decide +kernel
theorem dX3_digest_90 : decode cX3_digest 90 = .ok (.invokevirtual 179, 3) := by decide +kernel
theorem dX3_digest_93 : decode cX3_digest 93 = .ok (.i2l, 1) := by decide +kernel
theorem dX3_digest_94 : decode cX3_digest 94 = .ok (.invokevirtual 234, 3) := by decide +kernel
theorem dX3_digest_97 : decode cX3_digest 97 = .ok (.iconst 0, 1) := by decide +kernel
theorem dX3_digest_98 : decode cX3_digest 98 = .ok (.istore_n 1, 1) := by decide +kernel
theorem dX3_digest_99 : decode cX3_digest 99 = .ok (.iload_n 1, 1) := by decide +kernel
theorem dX3_digest_100 : decode cX3_digest 100 = .ok (.aload_n 0, 1) := by decide +kernel
theorem dX3_digest_101 : decode cX3_digest 101 = .ok (.getfield 66, 3) := by decide +kernel
theorem dX3_digest_104 : decode cX3_digest 104 = .ok (.if_icmp .ge 20, 3) := by decide +kernel
theorem dX3_digest_107 : decode cX3_digest 107 = .ok (.aload_n 0, 1) := by decide +kernel
theorem dX3_digest_108 : decode cX3_digest 108 = .ok (.aload_n 0, 1) := by decide +kernel
theorem dX3_digest_109 : decode cX3_digest 109 = .ok (.getfield 34, 3) := by decide +kernel
theorem dX3_digest_112 : decode cX3_digest 112 = .ok (.iload_n 1, 1) := by decide +kernel
theorem dX3_digest_113 : decode cX3_digest 113 = .ok (.baload, 1) := by decide +kernel
theorem dX3_digest_114 : decode cX3_digest 114 = .ok (.i2l, 1) := by decide +kernel
theorem dX3_digest_115 : decode cX3_digest 115 = .ok (.invokevirtual 234, 3) := by decide +kernel
theorem dX3_digest_118 : decode cX3_digest 118 = .ok (.iinc 1 1, 3) := by decide +kernel
theorem dX3_digest_121 : decode cX3_digest 121 = .ok (.goto (-22), 3) := by decide +kernel
theorem dX3_digest_124 : decode cX3_digest 124 = .ok (.iconst 0, 1) := by decide +kernel
theorem dX3_digest_125 : decode cX3_digest 125 = .ok (.istore_n 1, 1) := by decide +kernel
theorem dX3_digest_126 : decode cX3_digest 126 = .ok (.iload_n 1, 1) := by decide +kernel
theorem dX3_digest_127 : decode cX3_digest 127 = .ok (.bipush 10, 2) := by decide +kernel
theorem dX3_digest_129 : decode cX3_digest 129 = .ok (.if_icmp .ge 19, 3) := by decide +kernel
theorem dX3_digest_132 : decode cX3_digest 132 = .ok (.aload_n 0, 1) := by decide +kernel
theorem dX3_digest_133 : decode cX3_digest 133 = .ok (.aload_n 0, 1) := by decide +kernel
theorem dX3_digest_134 : decode cX3_digest 134 = .ok (.iload_n 1, 1) := by decide +kernel
theorem dX3_digest_135 : decode cX3_digest 135 = .ok (.invokevirtual 226, 3) := by decide +kernel
theorem dX3_digest_138 : decode cX3_digest 138 = .ok (.i2l, 1) := by decide +kernel
theorem dX3_digest_139 : decode cX3_digest 139 = .ok (.invokevirtual 234, 3) := by decide +kernel
theorem dX3_digest_142 : decode cX3_digest 142 = .ok (.iinc 1 1, 3) := by decide +kernel
theorem dX3_digest_145 : decode cX3_digest 145 = .ok (.goto (-19), 3) := by decide +kernel
theorem dX3_digest_148 : decode cX3_digest 148 = .ok (.aload_n 0, 1) := by decide +kernel
theorem dX3_digest_149 : decode cX3_digest 149 = .ok (.getfield 231, 3) := by decide +kernel
theorem dX3_digest_152 : decode cX3_digest 152 = .ok (.lreturn, 1) := by decide +kernel
