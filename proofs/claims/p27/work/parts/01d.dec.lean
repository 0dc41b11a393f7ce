theorem dL_cell_0 : decode cL_cell 0 = .ok (.iload_n 1, 1) := by decide +kernel
theorem dL_cell_1 : decode cL_cell 1 = .ok (.aload_n 0, 1) := by decide +kernel
theorem dL_cell_2 : decode cL_cell 2 = .ok (.arraylength, 1) := by decide +kernel
theorem dL_cell_3 : decode cL_cell 3 = .ok (.if_icmp .ge 9, 3) := by decide +kernel
theorem dL_cell_6 : decode cL_cell 6 = .ok (.aload_n 0, 1) := by decide +kernel
theorem dL_cell_7 : decode cL_cell 7 = .ok (.iload_n 1, 1) := by decide +kernel
theorem dL_cell_8 : decode cL_cell 8 = .ok (.iaload, 1) := by decide +kernel
theorem dL_cell_9 : decode cL_cell 9 = .ok (.goto 11, 3) := by decide +kernel
theorem dL_cell_12 : decode cL_cell 12 = .ok (.sipush 7919, 3) := by decide +kernel
theorem dL_cell_15 : decode cL_cell 15 = .ok (.iload_n 1, 1) := by decide +kernel
theorem dL_cell_16 : decode cL_cell 16 = .ok (.imul, 1) := by decide +kernel
theorem dL_cell_17 : decode cL_cell 17 = .ok (.bipush 13, 2) := by decide +kernel
theorem dL_cell_19 : decode cL_cell 19 = .ok (.iadd, 1) := by decide +kernel
theorem dL_cell_20 : decode cL_cell 20 = .ok (.ldc 7, 2) := by decide +kernel
theorem dL_cell_22 : decode cL_cell 22 = .ok (.iand, 1) := by decide +kernel
theorem dL_cell_23 : decode cL_cell 23 = .ok (.ireturn, 1) := by decide +kernel
theorem dL_put_0 : decode cL_put 0 = .ok (.aload_n 0, 1) := by decide +kernel
theorem dL_put_1 : decode cL_put 1 = .ok (.iload_n 1, 1) := by decide +kernel
theorem dL_put_2 : decode cL_put 2 = .ok (.invokevirtual 8, 3) := by decide +kernel
theorem dL_put_5 : decode cL_put 5 = .ok (.ifCond .le 7, 3) := by decide +kernel
theorem dL_put_8 : decode cL_put 8 = .ok (.iconst 1, 1) := by decide +kernel
theorem dL_put_9 : decode cL_put 9 = .ok (.goto 4, 3) := by decide +kernel
theorem dL_put_12 : decode cL_put 12 = .ok (.iconst 0, 1) := by decide +kernel
theorem dL_put_13 : decode cL_put 13 = .ok (.ireturn, 1) := by decide +kernel
theorem dL_street_0 : decode cL_street 0 = .ok (.iconst 1, 1) := by decide +kernel
theorem dL_street_1 : decode cL_street 1 = .ok (.istore 4, 2) := by decide +kernel
theorem dL_street_3 : decode cL_street 3 = .ok (.aload_n 3, 1) := by decide +kernel
theorem dL_street_4 : decode cL_street 4 = .ok (.iconst 0, 1) := by decide +kernel
theorem dL_street_5 : decode cL_street 5 = .ok (.iconst 2, 1) := by decide +kernel
theorem dL_street_6 : decode cL_street 6 = .ok (.iload_n 1, 1) := by decide +kernel
theorem dL_street_7 : decode cL_street 7 = .ok (.iconst 5, 1) := by decide +kernel
theorem dL_street_8 : decode cL_street 8 = .ok (.irem, 1) := by decide +kernel
theorem dL_street_9 : decode cL_street 9 = .ok (.iadd, 1) := by decide +kernel
theorem dL_street_10 : decode cL_street 10 = .ok (.iastore, 1) := by decide +kernel
theorem dL_street_11 : decode cL_street 11 = .ok (.aload_n 3, 1) := by decide +kernel
theorem dL_street_12 : decode cL_street 12 = .ok (.iconst 1, 1) := by decide +kernel
theorem dL_street_13 : decode cL_street 13 = .ok (.iconst 0, 1) := by decide +kernel
theorem dL_street_14 : decode cL_street 14 = .ok (.iastore, 1) := by decide +kernel
theorem dL_street_15 : decode cL_street 15 = .ok (.aload_n 3, 1) := by decide +kernel
theorem dL_street_16 : decode cL_street 16 = .ok (.iconst 2, 1) := by decide +kernel
theorem dL_street_17 : decode cL_street 17 = .ok (.iconst 0, 1) := by decide +kernel
theorem dL_street_18 : decode cL_street 18 = .ok (.iastore, 1) := by decide +kernel
theorem dL_street_19 : decode cL_street 19 = .ok (.iconst 0, 1) := by decide +kernel
theorem dL_street_20 : decode cL_street 20 = .ok (.istore 5, 2) := by decide +kernel
theorem dL_street_22 : decode cL_street 22 = .ok (.iload 5, 2) := by decide +kernel
theorem dL_street_24 : decode cL_street 24 = .ok (.aload_n 3, 1) := by decide +kernel
theorem dL_street_25 : decode cL_street 25 = .ok (.iconst 0, 1) := by decide +kernel
theorem dL_street_26 : decode cL_street 26 = .ok (.iaload, 1) := by decide +kernel
theorem dL_street_27 : decode cL_street 27 = .ok (.if_icmp .ge 159, 3) := by decide +kernel
theorem dL_street_30 : decode cL_street 30 = .ok (.iload_n 1, 1) := by decide +kernel
theorem dL_street_31 : decode cL_street 31 = .ok (.iconst 3, 1) := by decide +kernel
theorem dL_street_32 : decode cL_street 32 = .ok (.iconst 4, 1) := by decide +kernel
theorem dL_street_33 : decode cL_street 33 = .ok (.iload 5, 2) := by decide +kernel
theorem dL_street_35 : decode cL_street 35 = .ok (.imul, 1) := by decide +kernel
theorem dL_street_36 : decode cL_street 36 = .ok (.iadd, 1) := by decide +kernel
theorem dL_street_37 : decode cL_street 37 = .ok (.ishr, 1) := by decide +kernel
theorem dL_street_38 : decode cL_street 38 = .ok (.bipush 15, 2) := by decide +kernel
theorem dL_street_40 : decode cL_street 40 = .ok (.iand, 1) := by decide +kernel
theorem dL_street_41 : decode cL_street 41 = .ok (.iconst 5, 1) := by decide +kernel
theorem dL_street_42 : decode cL_street 42 = .ok (.irem, 1) := by decide +kernel
theorem dL_street_43 : decode cL_street 43 = .ok (.istore 6, 2) := by decide +kernel
theorem dL_street_45 : decode cL_street 45 = .ok (.aload_n 3, 1) := by decide +kernel
theorem dL_street_46 : decode cL_street 46 = .ok (.iconst 3, 1) := by decide +kernel
theorem dL_street_47 : decode cL_street 47 = .ok (.iconst 3, 1) := by decide +kernel
theorem dL_street_48 : decode cL_street 48 = .ok (.iload 5, 2) := by decide +kernel
theorem dL_street_50 : decode cL_street 50 = .ok (.imul, 1) := by decide +kernel
theorem dL_street_51 : decode cL_street 51 = .ok (.iadd, 1) := by decide +kernel
theorem dL_street_52 : decode cL_street 52 = .ok (.iload 6, 2) := by decide +kernel
theorem dL_street_54 : decode cL_street 54 = .ok (.iastore, 1) := by decide +kernel
theorem dL_street_55 : decode cL_street 55 = .ok (.aload_n 3, 1) := by decide +kernel
theorem dL_street_56 : decode cL_street 56 = .ok (.iconst 4, 1) := by decide +kernel
theorem dL_street_57 : decode cL_street 57 = .ok (.iconst 3, 1) := by decide +kernel
theorem dL_street_58 : decode cL_street 58 = .ok (.iload 5, 2) := by decide +kernel
theorem dL_street_60 : decode cL_street 60 = .ok (.imul, 1) := by decide +kernel
theorem dL_street_61 : decode cL_street 61 = .ok (.iadd, 1) := by decide +kernel
theorem dL_street_62 : decode cL_street 62 = .ok (.iload_n 2, 1) := by decide +kernel
theorem dL_street_63 : decode cL_street 63 = .ok (.iconst 4, 1) := by decide +kernel
theorem dL_street_64 : decode cL_street 64 = .ok (.iload 5, 2) := by decide +kernel
theorem dL_street_66 : decode cL_street 66 = .ok (.imul, 1) := by decide +kernel
theorem dL_street_67 : decode cL_street 67 = .ok (.ishr, 1) := by decide +kernel
theorem dL_street_68 : decode cL_street 68 = .ok (.bipush 15, 2) := by decide +kernel
theorem dL_street_70 : decode cL_street 70 = .ok (.iand, 1) := by decide +kernel
theorem dL_street_71 : decode cL_street 71 = .ok (.bipush 10, 2) := by decide +kernel
theorem dL_street_73 : decode cL_street 73 = .ok (.irem, 1) := by decide +kernel
theorem dL_street_74 : decode cL_street 74 = .ok (.iastore, 1) := by decide +kernel
theorem dL_street_75 : decode cL_street 75 = .ok (.aload_n 3, 1) := by decide +kernel
theorem dL_street_76 : decode cL_street 76 = .ok (.iconst 5, 1) := by decide +kernel
theorem dL_street_77 : decode cL_street 77 = .ok (.iconst 3, 1) := by decide +kernel
theorem dL_street_78 : decode cL_street 78 = .ok (.iload 5, 2) := by decide +kernel
theorem dL_street_80 : decode cL_street 80 = .ok (.imul, 1) := by decide +kernel
theorem dL_street_81 : decode cL_street 81 = .ok (.iadd, 1) := by decide +kernel
theorem dL_street_82 : decode cL_street 82 = .ok (.iconst 0, 1) := by decide +kernel
theorem dL_street_83 : decode cL_street 83 = .ok (.iastore, 1) := by decide +kernel
theorem dL_street_84 : decode cL_street 84 = .ok (.iload 4, 2) := by decide +kernel
theorem dL_street_86 : decode cL_street 86 = .ok (.ifCond .eq 91, 3) := by decide +kernel
theorem dL_street_89 : decode cL_street 89 = .ok (.iload 5, 2) := by decide +kernel
theorem dL_street_91 : decode cL_street 91 = .ok (.ifCond .eq 12, 3) := by decide +kernel
theorem dL_street_94 : decode cL_street 94 = .ok (.aload_n 0, 1) := by decide +kernel
theorem dL_street_95 : decode cL_street 95 = .ok (.bipush 44, 2) := by decide +kernel
theorem dL_street_97 : decode cL_street 97 = .ok (.invokestatic 14, 3) := by decide +kernel
theorem dL_street_100 : decode cL_street 100 = .ok (.ifCond .eq 77, 3) := by decide +kernel
theorem dL_street_103 : decode cL_street 103 = .ok (.aload_n 0, 1) := by decide +kernel
theorem dL_street_104 : decode cL_street 104 = .ok (.iload 6, 2) := by decide +kernel
theorem dL_street_106 : decode cL_street 106 = .ok (.ifCond .ne 8, 3) := by decide +kernel
theorem dL_street_109 : decode cL_street 109 = .ok (.bipush 104, 2) := by decide +kernel
theorem dL_street_111 : decode cL_street 111 = .ok (.goto 38, 3) := by decide +kernel
theorem dL_street_114 : decode cL_street 114 = .ok (.iload 6, 2) := by decide +kernel
theorem dL_street_116 : decode cL_street 116 = .ok (.iconst 1, 1) := by decide +kernel
theorem dL_street_117 : decode cL_street 117 = .ok (.if_icmp .ne 8, 3) := by decide +kernel
theorem dL_street_120 : decode cL_street 120 = .ok (.bipush 116, 2) := by decide +kernel
theorem dL_street_122 : decode cL_street 122 = .ok (.goto 27, 3) := by decide +kernel
theorem dL_street_125 : decode cL_street 125 = .ok (.iload 6, 2) := by decide +kernel
theorem dL_street_127 : decode cL_street 127 = .ok (.iconst 2, 1) := by decide +kernel
theorem dL_street_128 : decode cL_street 128 = .ok (.if_icmp .ne 8, 3) := by decide +kernel
theorem dL_street_131 : decode cL_street 131 = .ok (.bipush 109, 2) := by decide +kernel
theorem dL_street_133 : decode cL_street 133 = .ok (.goto 16, 3) := by decide +kernel
theorem dL_street_136 : decode cL_street 136 = .ok (.iload 6, 2) := by decide +kernel
theorem dL_street_138 : decode cL_street 138 = .ok (.iconst 3, 1) := by decide +kernel
theorem dL_street_139 : decode cL_street 139 = .ok (.if_icmp .ne 8, 3) := by decide +kernel
theorem dL_street_142 : decode cL_street 142 = .ok (.bipush 99, 2) := by decide +kernel
theorem dL_street_144 : decode cL_street 144 = .ok (.goto 5, 3) := by decide +kernel
theorem dL_street_147 : decode cL_street 147 = .ok (.bipush 98, 2) := by decide +kernel
theorem dL_street_149 : decode cL_street 149 = .ok (.invokestatic 14, 3) := by decide +kernel
theorem dL_street_152 : decode cL_street 152 = .ok (.ifCond .eq 25, 3) := by decide +kernel
theorem dL_street_155 : decode cL_street 155 = .ok (.aload_n 0, 1) := by decide +kernel
theorem dL_street_156 : decode cL_street 156 = .ok (.bipush 48, 2) := by decide +kernel
theorem dL_street_158 : decode cL_street 158 = .ok (.aload_n 3, 1) := by decide +kernel
theorem dL_street_159 : decode cL_street 159 = .ok (.iconst 4, 1) := by decide +kernel
theorem dL_street_160 : decode cL_street 160 = .ok (.iconst 3, 1) := by decide +kernel
theorem dL_street_161 : decode cL_street 161 = .ok (.iload 5, 2) := by decide +kernel
theorem dL_street_163 : decode cL_street 163 = .ok (.imul, 1) := by decide +kernel
theorem dL_street_164 : decode cL_street 164 = .ok (.iadd, 1) := by decide +kernel
theorem dL_street_165 : decode cL_street 165 = .ok (.iaload, 1) := by decide +kernel
theorem dL_street_166 : decode cL_street 166 = .ok (.iadd, 1) := by decide +kernel
theorem dL_street_167 : decode cL_street 167 = .ok (.invokestatic 14, 3) := by decide +kernel
theorem dL_street_170 : decode cL_street 170 = .ok (.ifCond .eq 7, 3) := by decide +kernel
theorem dL_street_173 : decode cL_street 173 = .ok (.iconst 1, 1) := by decide +kernel
theorem dL_street_174 : decode cL_street 174 = .ok (.goto 4, 3) := by decide +kernel
theorem dL_street_177 : decode cL_street 177 = .ok (.iconst 0, 1) := by decide +kernel
theorem dL_street_178 : decode cL_street 178 = .ok (.istore 4, 2) := by decide +kernel
theorem dL_street_180 : decode cL_street 180 = .ok (.iinc 5 1, 3) := by decide +kernel
theorem dL_street_183 : decode cL_street 183 = .ok (.goto (-161), 3) := by decide +kernel
theorem dL_street_186 : decode cL_street 186 = .ok (.iload 4, 2) := by decide +kernel
theorem dL_street_188 : decode cL_street 188 = .ok (.ifCond .eq 31, 3) := by decide +kernel
theorem dL_street_191 : decode cL_street 191 = .ok (.aload_n 0, 1) := by decide +kernel
theorem dL_street_192 : decode cL_street 192 = .ok (.invokevirtual 20, 3) := by decide +kernel
theorem dL_street_195 : decode cL_street 195 = .ok (.iconst 3, 1) := by decide +kernel
theorem dL_street_196 : decode cL_street 196 = .ok (.aload_n 3, 1) := by decide +kernel
theorem dL_street_197 : decode cL_street 197 = .ok (.iconst 0, 1) := by decide +kernel
theorem dL_street_198 : decode cL_street 198 = .ok (.iaload, 1) := by decide +kernel
theorem dL_street_199 : decode cL_street 199 = .ok (.imul, 1) := by decide +kernel
theorem dL_street_200 : decode cL_street 200 = .ok (.iconst 1, 1) := by decide +kernel
theorem dL_street_201 : decode cL_street 201 = .ok (.isub, 1) := by decide +kernel
theorem dL_street_202 : decode cL_street 202 = .ok (.if_icmp .ne 17, 3) := by decide +kernel
theorem dL_street_205 : decode cL_street 205 = .ok (.aload_n 0, 1) := by decide +kernel
theorem dL_street_206 : decode cL_street 206 = .ok (.invokevirtual 24, 3) := by decide +kernel
theorem dL_street_209 : decode cL_street 209 = .ok (.aload_n 3, 1) := by decide +kernel
theorem dL_street_210 : decode cL_street 210 = .ok (.iconst 0, 1) := by decide +kernel
theorem dL_street_211 : decode cL_street 211 = .ok (.iaload, 1) := by decide +kernel
theorem dL_street_212 : decode cL_street 212 = .ok (.if_icmp .ne 7, 3) := by decide +kernel
theorem dL_street_215 : decode cL_street 215 = .ok (.iconst 1, 1) := by decide +kernel
theorem dL_street_216 : decode cL_street 216 = .ok (.goto 4, 3) := by decide +kernel
theorem dL_street_219 : decode cL_street 219 = .ok (.iconst 0, 1) := by decide +kernel
theorem dL_street_220 : decode cL_street 220 = .ok (.ireturn, 1) := by decide +kernel
theorem dL_number_0 : decode cL_number 0 = .ok (.iload_n 0, 1) := by decide +kernel
theorem dL_number_1 : decode cL_number 1 = .ok (.iconst 1, 1) := by decide +kernel
theorem dL_number_2 : decode cL_number 2 = .ok (.if_icmp .ne 9, 3) := by decide +kernel
theorem dL_number_5 : decode cL_number 5 = .ok (.iload_n 1, 1) := by decide +kernel
theorem dL_number_6 : decode cL_number 6 = .ok (.iconst 2, 1) := by decide +kernel
theorem dL_number_7 : decode cL_number 7 = .ok (.idiv, 1) := by decide +kernel
theorem dL_number_8 : decode cL_number 8 = .ok (.goto 4, 3) := by decide +kernel
theorem dL_number_11 : decode cL_number 11 = .ok (.iload_n 1, 1) := by decide +kernel
theorem dL_number_12 : decode cL_number 12 = .ok (.ireturn, 1) := by decide +kernel
theorem dL_now_0 : decode cL_now 0 = .ok (.aload_n 0, 1) := by decide +kernel
theorem dL_now_1 : decode cL_now 1 = .ok (.iconst 3, 1) := by decide +kernel
theorem dL_now_2 : decode cL_now 2 = .ok (.iconst 3, 1) := by decide +kernel
theorem dL_now_3 : decode cL_now 3 = .ok (.iload_n 1, 1) := by decide +kernel
theorem dL_now_4 : decode cL_now 4 = .ok (.imul, 1) := by decide +kernel
theorem dL_now_5 : decode cL_now 5 = .ok (.iadd, 1) := by decide +kernel
theorem dL_now_6 : decode cL_now 6 = .ok (.iaload, 1) := by decide +kernel
theorem dL_now_7 : decode cL_now 7 = .ok (.aload_n 0, 1) := by decide +kernel
theorem dL_now_8 : decode cL_now 8 = .ok (.iconst 4, 1) := by decide +kernel
theorem dL_now_9 : decode cL_now 9 = .ok (.iconst 3, 1) := by decide +kernel
theorem dL_now_10 : decode cL_now 10 = .ok (.iload_n 1, 1) := by decide +kernel
theorem dL_now_11 : decode cL_now 11 = .ok (.imul, 1) := by decide +kernel
theorem dL_now_12 : decode cL_now 12 = .ok (.iadd, 1) := by decide +kernel
theorem dL_now_13 : decode cL_now 13 = .ok (.iaload, 1) := by decide +kernel
theorem dL_now_14 : decode cL_now 14 = .ok (.invokestatic 27, 3) := by decide +kernel
theorem dL_now_17 : decode cL_now 17 = .ok (.ireturn, 1) := by decide +kernel
theorem dL_then_0 : decode cL_then 0 = .ok (.iload_n 3, 1) := by decide +kernel
theorem dL_then_1 : decode cL_then 1 = .ok (.aload_n 0, 1) := by decide +kernel
theorem dL_then_2 : decode cL_then 2 = .ok (.iconst 1, 1) := by decide +kernel
theorem dL_then_3 : decode cL_then 3 = .ok (.iaload, 1) := by decide +kernel
theorem dL_then_4 : decode cL_then 4 = .ok (.if_icmp .ne 11, 3) := by decide +kernel
theorem dL_then_7 : decode cL_then 7 = .ok (.aload_n 0, 1) := by decide +kernel
theorem dL_then_8 : decode cL_then 8 = .ok (.iload_n 2, 1) := by decide +kernel
theorem dL_then_9 : decode cL_then 9 = .ok (.invokestatic 31, 3) := by decide +kernel
theorem dL_then_12 : decode cL_then 12 = .ok (.goto 26, 3) := by decide +kernel
theorem dL_then_15 : decode cL_then 15 = .ok (.aload_n 0, 1) := by decide +kernel
theorem dL_then_16 : decode cL_then 16 = .ok (.iconst 3, 1) := by decide +kernel
theorem dL_then_17 : decode cL_then 17 = .ok (.iconst 3, 1) := by decide +kernel
theorem dL_then_18 : decode cL_then 18 = .ok (.iload_n 2, 1) := by decide +kernel
theorem dL_then_19 : decode cL_then 19 = .ok (.imul, 1) := by decide +kernel
theorem dL_then_20 : decode cL_then 20 = .ok (.iadd, 1) := by decide +kernel
theorem dL_then_21 : decode cL_then 21 = .ok (.iaload, 1) := by decide +kernel
theorem dL_then_22 : decode cL_then 22 = .ok (.aload_n 1, 1) := by decide +kernel
theorem dL_then_23 : decode cL_then 23 = .ok (.iload_n 3, 1) := by decide +kernel
theorem dL_then_24 : decode cL_then 24 = .ok (.laload, 1) := by decide +kernel
theorem dL_then_25 : decode cL_then 25 = .ok (.bipush 7, 2) := by decide +kernel
theorem dL_then_27 : decode cL_then 27 = .ok (.iload_n 2, 1) := by decide +kernel
theorem dL_then_28 : decode cL_then 28 = .ok (.imul, 1) := by decide +kernel
theorem dL_then_29 : decode cL_then 29 = .ok (.lshr, 1) := by decide +kernel
theorem dL_then_30 : decode cL_then 30 = .ok (.ldc2_w 35, 3) := by decide +kernel
theorem dL_then_33 : decode cL_then 33 = .ok (.land, 1) := by decide +kernel
theorem dL_then_34 : decode cL_then 34 = .ok (.l2i, 1) := by decide +kernel
theorem dL_then_35 : decode cL_then 35 = .ok (.invokestatic 27, 3) := by decide +kernel
theorem dL_then_38 : decode cL_then 38 = .ok (.ireturn, 1) := by decide +kernel
theorem dL_pass_0 : decode cL_pass 0 = .ok (.iconst 0, 1) := by decide +kernel
theorem dL_pass_1 : decode cL_pass 1 = .ok (.istore_n 1, 1) := by decide +kernel
theorem dL_pass_2 : decode cL_pass 2 = .ok (.iload_n 1, 1) := by decide +kernel
theorem dL_pass_3 : decode cL_pass 3 = .ok (.aload_n 0, 1) := by decide +kernel
theorem dL_pass_4 : decode cL_pass 4 = .ok (.iconst 0, 1) := by decide +kernel
theorem dL_pass_5 : decode cL_pass 5 = .ok (.iaload, 1) := by decide +kernel
theorem dL_pass_6 : decode cL_pass 6 = .ok (.if_icmp .ge 35, 3) := by decide +kernel
theorem dL_pass_9 : decode cL_pass 9 = .ok (.aload_n 0, 1) := by decide +kernel
theorem dL_pass_10 : decode cL_pass 10 = .ok (.iconst 4, 1) := by decide +kernel
theorem dL_pass_11 : decode cL_pass 11 = .ok (.iconst 3, 1) := by decide +kernel
theorem dL_pass_12 : decode cL_pass 12 = .ok (.iload_n 1, 1) := by decide +kernel
theorem dL_pass_13 : decode cL_pass 13 = .ok (.imul, 1) := by decide +kernel
theorem dL_pass_14 : decode cL_pass 14 = .ok (.iadd, 1) := by decide +kernel
theorem dL_pass_15 : decode cL_pass 15 = .ok (.dup2, 1) := by decide +kernel
theorem dL_pass_16 : decode cL_pass 16 = .ok (.iaload, 1) := by decide +kernel
theorem dL_pass_17 : decode cL_pass 17 = .ok (.aload_n 0, 1) := by decide +kernel
theorem dL_pass_18 : decode cL_pass 18 = .ok (.iconst 3, 1) := by decide +kernel
theorem dL_pass_19 : decode cL_pass 19 = .ok (.iconst 3, 1) := by decide +kernel
theorem dL_pass_20 : decode cL_pass 20 = .ok (.iload_n 1, 1) := by decide +kernel
theorem dL_pass_21 : decode cL_pass 21 = .ok (.imul, 1) := by decide +kernel
theorem dL_pass_22 : decode cL_pass 22 = .ok (.iadd, 1) := by decide +kernel
theorem dL_pass_23 : decode cL_pass 23 = .ok (.iaload, 1) := by decide +kernel
theorem dL_pass_24 : decode cL_pass 24 = .ok (.iconst 4, 1) := by decide +kernel
theorem dL_pass_25 : decode cL_pass 25 = .ok (.if_icmp .ne 7, 3) := by decide +kernel
theorem dL_pass_28 : decode cL_pass 28 = .ok (.iconst 0, 1) := by decide +kernel
theorem dL_pass_29 : decode cL_pass 29 = .ok (.goto 4, 3) := by decide +kernel
theorem dL_pass_32 : decode cL_pass 32 = .ok (.iconst 1, 1) := by decide +kernel
theorem dL_pass_33 : decode cL_pass 33 = .ok (.iadd, 1) := by decide +kernel
theorem dL_pass_34 : decode cL_pass 34 = .ok (.iastore, 1) := by decide +kernel
theorem dL_pass_35 : decode cL_pass 35 = .ok (.iinc 1 1, 3) := by decide +kernel
theorem dL_pass_38 : decode cL_pass 38 = .ok (.goto (-36), 3) := by decide +kernel
theorem dL_pass_41 : decode cL_pass 41 = .ok (.return_, 1) := by decide +kernel
theorem dL_bears_0 : decode cL_bears 0 = .ok (.aload_n 0, 1) := by decide +kernel
theorem dL_bears_1 : decode cL_bears 1 = .ok (.iconst 3, 1) := by decide +kernel
theorem dL_bears_2 : decode cL_bears 2 = .ok (.iconst 3, 1) := by decide +kernel
theorem dL_bears_3 : decode cL_bears 3 = .ok (.iload_n 1, 1) := by decide +kernel
theorem dL_bears_4 : decode cL_bears 4 = .ok (.imul, 1) := by decide +kernel
theorem dL_bears_5 : decode cL_bears 5 = .ok (.iadd, 1) := by decide +kernel
theorem dL_bears_6 : decode cL_bears 6 = .ok (.iaload, 1) := by decide +kernel
theorem dL_bears_7 : decode cL_bears 7 = .ok (.iconst 2, 1) := by decide +kernel
theorem dL_bears_8 : decode cL_bears 8 = .ok (.irem, 1) := by decide +kernel
theorem dL_bears_9 : decode cL_bears 9 = .ok (.iconst 1, 1) := by decide +kernel
theorem dL_bears_10 : decode cL_bears 10 = .ok (.if_icmp .eq 13, 3) := by decide +kernel
theorem dL_bears_13 : decode cL_bears 13 = .ok (.aload_n 0, 1) := by decide +kernel
theorem dL_bears_14 : decode cL_bears 14 = .ok (.iconst 3, 1) := by decide +kernel
theorem dL_bears_15 : decode cL_bears 15 = .ok (.iconst 3, 1) := by decide +kernel
theorem dL_bears_16 : decode cL_bears 16 = .ok (.iload_n 1, 1) := by decide +kernel
theorem dL_bears_17 : decode cL_bears 17 = .ok (.imul, 1) := by decide +kernel
theorem dL_bears_18 : decode cL_bears 18 = .ok (.iadd, 1) := by decide +kernel
theorem dL_bears_19 : decode cL_bears 19 = .ok (.iaload, 1) := by decide +kernel
theorem dL_bears_20 : decode cL_bears 20 = .ok (.ifCond .ne 7, 3) := by decide +kernel
theorem dL_bears_23 : decode cL_bears 23 = .ok (.iconst 1, 1) := by decide +kernel
theorem dL_bears_24 : decode cL_bears 24 = .ok (.goto 4, 3) := by decide +kernel
theorem dL_bears_27 : decode cL_bears 27 = .ok (.iconst 0, 1) := by decide +kernel
theorem dL_bears_28 : decode cL_bears 28 = .ok (.ireturn, 1) := by decide +kernel
theorem dL_bear_0 : decode cL_bear 0 = .ok (.aload_n 0, 1) := by decide +kernel
theorem dL_bear_1 : decode cL_bear 1 = .ok (.iconst 4, 1) := by decide +kernel
theorem dL_bear_2 : decode cL_bear 2 = .ok (.iconst 3, 1) := by decide +kernel
theorem dL_bear_3 : decode cL_bear 3 = .ok (.iload_n 1, 1) := by decide +kernel
theorem dL_bear_4 : decode cL_bear 4 = .ok (.imul, 1) := by decide +kernel
theorem dL_bear_5 : decode cL_bear 5 = .ok (.iadd, 1) := by decide +kernel
theorem dL_bear_6 : decode cL_bear 6 = .ok (.iconst 0, 1) := by decide +kernel
theorem dL_bear_7 : decode cL_bear 7 = .ok (.iastore, 1) := by decide +kernel
theorem dL_bear_8 : decode cL_bear 8 = .ok (.iload_n 1, 1) := by decide +kernel
theorem dL_bear_9 : decode cL_bear 9 = .ok (.aload_n 0, 1) := by decide +kernel
theorem dL_bear_10 : decode cL_bear 10 = .ok (.iconst 0, 1) := by decide +kernel
theorem dL_bear_11 : decode cL_bear 11 = .ok (.iaload, 1) := by decide +kernel
theorem dL_bear_12 : decode cL_bear 12 = .ok (.iconst 1, 1) := by decide +kernel
theorem dL_bear_13 : decode cL_bear 13 = .ok (.isub, 1) := by decide +kernel
theorem dL_bear_14 : decode cL_bear 14 = .ok (.if_icmp .ge 19, 3) := by decide +kernel
theorem dL_bear_17 : decode cL_bear 17 = .ok (.aload_n 0, 1) := by decide +kernel
theorem dL_bear_18 : decode cL_bear 18 = .ok (.bipush 6, 2) := by decide +kernel
theorem dL_bear_20 : decode cL_bear 20 = .ok (.iconst 3, 1) := by decide +kernel
theorem dL_bear_21 : decode cL_bear 21 = .ok (.iload_n 1, 1) := by decide +kernel
theorem dL_bear_22 : decode cL_bear 22 = .ok (.imul, 1) := by decide +kernel
theorem dL_bear_23 : decode cL_bear 23 = .ok (.iadd, 1) := by decide +kernel
theorem dL_bear_24 : decode cL_bear 24 = .ok (.iaload, 1) := by decide +kernel
theorem dL_bear_25 : decode cL_bear 25 = .ok (.iconst 3, 1) := by decide +kernel
theorem dL_bear_26 : decode cL_bear 26 = .ok (.if_icmp .ne 7, 3) := by decide +kernel
theorem dL_bear_29 : decode cL_bear 29 = .ok (.iconst 1, 1) := by decide +kernel
theorem dL_bear_30 : decode cL_bear 30 = .ok (.goto 4, 3) := by decide +kernel
theorem dL_bear_33 : decode cL_bear 33 = .ok (.iconst 0, 1) := by decide +kernel
theorem dL_bear_34 : decode cL_bear 34 = .ok (.istore_n 2, 1) := by decide +kernel
theorem dL_bear_35 : decode cL_bear 35 = .ok (.iload_n 2, 1) := by decide +kernel
theorem dL_bear_36 : decode cL_bear 36 = .ok (.ifCond .eq 12, 3) := by decide +kernel
theorem dL_bear_39 : decode cL_bear 39 = .ok (.aload_n 0, 1) := by decide +kernel
theorem dL_bear_40 : decode cL_bear 40 = .ok (.bipush 7, 2) := by decide +kernel
theorem dL_bear_42 : decode cL_bear 42 = .ok (.iconst 3, 1) := by decide +kernel
theorem dL_bear_43 : decode cL_bear 43 = .ok (.iload_n 1, 1) := by decide +kernel
theorem dL_bear_44 : decode cL_bear 44 = .ok (.imul, 1) := by decide +kernel
theorem dL_bear_45 : decode cL_bear 45 = .ok (.iadd, 1) := by decide +kernel
theorem dL_bear_46 : decode cL_bear 46 = .ok (.iconst 0, 1) := by decide +kernel
theorem dL_bear_47 : decode cL_bear 47 = .ok (.iastore, 1) := by decide +kernel
theorem dL_bear_48 : decode cL_bear 48 = .ok (.iload_n 2, 1) := by decide +kernel
theorem dL_bear_49 : decode cL_bear 49 = .ok (.ifCond .eq 7, 3) := by decide +kernel
theorem dL_bear_52 : decode cL_bear 52 = .ok (.iconst 2, 1) := by decide +kernel
theorem dL_bear_53 : decode cL_bear 53 = .ok (.goto 4, 3) := by decide +kernel
theorem dL_bear_56 : decode cL_bear 56 = .ok (.iconst 1, 1) := by decide +kernel
theorem dL_bear_57 : decode cL_bear 57 = .ok (.ireturn, 1) := by decide +kernel
theorem dL_order_0 : decode cL_order 0 = .ok (.iconst 0, 1) := by decide +kernel
theorem dL_order_1 : decode cL_order 1 = .ok (.istore_n 2, 1) := by decide +kernel
theorem dL_order_2 : decode cL_order 2 = .ok (.iconst 0, 1) := by decide +kernel
theorem dL_order_3 : decode cL_order 3 = .ok (.istore_n 3, 1) := by decide +kernel
theorem dL_order_4 : decode cL_order 4 = .ok (.iload_n 3, 1) := by decide +kernel
theorem dL_order_5 : decode cL_order 5 = .ok (.aload_n 0, 1) := by decide +kernel
theorem dL_order_6 : decode cL_order 6 = .ok (.iconst 0, 1) := by decide +kernel
theorem dL_order_7 : decode cL_order 7 = .ok (.iaload, 1) := by decide +kernel
theorem dL_order_8 : decode cL_order 8 = .ok (.if_icmp .ge 48, 3) := by decide +kernel
theorem dL_order_11 : decode cL_order 11 = .ok (.iload_n 2, 1) := by decide +kernel
theorem dL_order_12 : decode cL_order 12 = .ok (.aload_n 0, 1) := by decide +kernel
theorem dL_order_13 : decode cL_order 13 = .ok (.iload_n 3, 1) := by decide +kernel
theorem dL_order_14 : decode cL_order 14 = .ok (.invokestatic 31, 3) := by decide +kernel
theorem dL_order_17 : decode cL_order 17 = .ok (.aload_n 0, 1) := by decide +kernel
theorem dL_order_18 : decode cL_order 18 = .ok (.iload_n 1, 1) := by decide +kernel
theorem dL_order_19 : decode cL_order 19 = .ok (.invokestatic 31, 3) := by decide +kernel
theorem dL_order_22 : decode cL_order 22 = .ok (.if_icmp .lt 21, 3) := by decide +kernel
theorem dL_order_25 : decode cL_order 25 = .ok (.aload_n 0, 1) := by decide +kernel
theorem dL_order_26 : decode cL_order 26 = .ok (.iload_n 3, 1) := by decide +kernel
theorem dL_order_27 : decode cL_order 27 = .ok (.invokestatic 31, 3) := by decide +kernel
theorem dL_order_30 : decode cL_order 30 = .ok (.aload_n 0, 1) := by decide +kernel
theorem dL_order_31 : decode cL_order 31 = .ok (.iload_n 1, 1) := by decide +kernel
theorem dL_order_32 : decode cL_order 32 = .ok (.invokestatic 31, 3) := by decide +kernel
theorem dL_order_35 : decode cL_order 35 = .ok (.if_icmp .ne 12, 3) := by decide +kernel
theorem dL_order_38 : decode cL_order 38 = .ok (.iload_n 3, 1) := by decide +kernel
theorem dL_order_39 : decode cL_order 39 = .ok (.iload_n 1, 1) := by decide +kernel
theorem dL_order_40 : decode cL_order 40 = .ok (.if_icmp .ge 7, 3) := by decide +kernel
theorem dL_order_43 : decode cL_order 43 = .ok (.iconst 1, 1) := by decide +kernel
theorem dL_order_44 : decode cL_order 44 = .ok (.goto 4, 3) := by decide +kernel
theorem dL_order_47 : decode cL_order 47 = .ok (.iconst 0, 1) := by decide +kernel
theorem dL_order_48 : decode cL_order 48 = .ok (.iadd, 1) := by decide +kernel
theorem dL_order_49 : decode cL_order 49 = .ok (.istore_n 2, 1) := by decide +kernel
theorem dL_order_50 : decode cL_order 50 = .ok (.iinc 3 1, 3) := by decide +kernel
theorem dL_order_53 : decode cL_order 53 = .ok (.goto (-49), 3) := by decide +kernel
theorem dL_order_56 : decode cL_order 56 = .ok (.iload_n 2, 1) := by decide +kernel
theorem dL_order_57 : decode cL_order 57 = .ok (.ireturn, 1) := by decide +kernel
theorem dL_walk_0 : decode cL_walk 0 = .ok (.iconst 1, 1) := by decide +kernel
theorem dL_walk_1 : decode cL_walk 1 = .ok (.aload_n 0, 1) := by decide +kernel
theorem dL_walk_2 : decode cL_walk 2 = .ok (.iconst 0, 1) := by decide +kernel
theorem dL_walk_3 : decode cL_walk 3 = .ok (.iaload, 1) := by decide +kernel
theorem dL_walk_4 : decode cL_walk 4 = .ok (.ishl, 1) := by decide +kernel
theorem dL_walk_5 : decode cL_walk 5 = .ok (.iconst 1, 1) := by decide +kernel
theorem dL_walk_6 : decode cL_walk 6 = .ok (.isub, 1) := by decide +kernel
theorem dL_walk_7 : decode cL_walk 7 = .ok (.istore_n 1, 1) := by decide +kernel
theorem dL_walk_8 : decode cL_walk 8 = .ok (.iconst 0, 1) := by decide +kernel
theorem dL_walk_9 : decode cL_walk 9 = .ok (.istore_n 2, 1) := by decide +kernel
theorem dL_walk_10 : decode cL_walk 10 = .ok (.iconst 0, 1) := by decide +kernel
theorem dL_walk_11 : decode cL_walk 11 = .ok (.istore_n 3, 1) := by decide +kernel
theorem dL_walk_12 : decode cL_walk 12 = .ok (.iload_n 1, 1) := by decide +kernel
theorem dL_walk_13 : decode cL_walk 13 = .ok (.ifCond .le 108, 3) := by decide +kernel
theorem dL_walk_16 : decode cL_walk 16 = .ok (.iconst (-1), 1) := by decide +kernel
theorem dL_walk_17 : decode cL_walk 17 = .ok (.istore 4, 2) := by decide +kernel
theorem dL_walk_19 : decode cL_walk 19 = .ok (.aload_n 0, 1) := by decide +kernel
theorem dL_walk_20 : decode cL_walk 20 = .ok (.iconst 0, 1) := by decide +kernel
theorem dL_walk_21 : decode cL_walk 21 = .ok (.iaload, 1) := by decide +kernel
theorem dL_walk_22 : decode cL_walk 22 = .ok (.iconst 1, 1) := by decide +kernel
theorem dL_walk_23 : decode cL_walk 23 = .ok (.isub, 1) := by decide +kernel
theorem dL_walk_24 : decode cL_walk 24 = .ok (.istore 5, 2) := by decide +kernel
theorem dL_walk_26 : decode cL_walk 26 = .ok (.iload 5, 2) := by decide +kernel
theorem dL_walk_28 : decode cL_walk 28 = .ok (.ifCond .lt 60, 3) := by decide +kernel
theorem dL_walk_31 : decode cL_walk 31 = .ok (.iload_n 1, 1) := by decide +kernel
theorem dL_walk_32 : decode cL_walk 32 = .ok (.iload 5, 2) := by decide +kernel
theorem dL_walk_34 : decode cL_walk 34 = .ok (.ishr, 1) := by decide +kernel
theorem dL_walk_35 : decode cL_walk 35 = .ok (.iconst 1, 1) := by decide +kernel
theorem dL_walk_36 : decode cL_walk 36 = .ok (.iand, 1) := by decide +kernel
theorem dL_walk_37 : decode cL_walk 37 = .ok (.iconst 1, 1) := by decide +kernel
theorem dL_walk_38 : decode cL_walk 38 = .ok (.if_icmp .ne 7, 3) := by decide +kernel
theorem dL_walk_41 : decode cL_walk 41 = .ok (.iconst 1, 1) := by decide +kernel
theorem dL_walk_42 : decode cL_walk 42 = .ok (.goto 4, 3) := by decide +kernel
theorem dL_walk_45 : decode cL_walk 45 = .ok (.iconst 0, 1) := by decide +kernel
theorem dL_walk_46 : decode cL_walk 46 = .ok (.istore 6, 2) := by decide +kernel
theorem dL_walk_48 : decode cL_walk 48 = .ok (.iload 6, 2) := by decide +kernel
theorem dL_walk_50 : decode cL_walk 50 = .ok (.ifCond .eq 28, 3) := by decide +kernel
theorem dL_walk_53 : decode cL_walk 53 = .ok (.iload 4, 2) := by decide +kernel
theorem dL_walk_55 : decode cL_walk 55 = .ok (.ifCond .lt 18, 3) := by decide +kernel
theorem dL_walk_58 : decode cL_walk 58 = .ok (.aload_n 0, 1) := by decide +kernel
theorem dL_walk_59 : decode cL_walk 59 = .ok (.iload 5, 2) := by decide +kernel
theorem dL_walk_61 : decode cL_walk 61 = .ok (.invokestatic 31, 3) := by decide +kernel
theorem dL_walk_64 : decode cL_walk 64 = .ok (.aload_n 0, 1) := by decide +kernel
theorem dL_walk_65 : decode cL_walk 65 = .ok (.iload 4, 2) := by decide +kernel
theorem dL_walk_67 : decode cL_walk 67 = .ok (.invokestatic 31, 3) := by decide +kernel
theorem dL_walk_70 : decode cL_walk 70 = .ok (.if_icmp .gt 8, 3) := by decide +kernel
theorem dL_walk_73 : decode cL_walk 73 = .ok (.iload 5, 2) := by decide +kernel
theorem dL_walk_75 : decode cL_walk 75 = .ok (.goto 5, 3) := by decide +kernel
theorem dL_walk_78 : decode cL_walk 78 = .ok (.iload 4, 2) := by decide +kernel
theorem dL_walk_80 : decode cL_walk 80 = .ok (.istore 4, 2) := by decide +kernel
theorem dL_walk_82 : decode cL_walk 82 = .ok (.iinc 5 (-1), 3) := by decide +kernel
theorem dL_walk_85 : decode cL_walk 85 = .ok (.goto (-59), 3) := by decide +kernel
theorem dL_walk_88 : decode cL_walk 88 = .ok (.iload_n 3, 1) := by decide +kernel
theorem dL_walk_89 : decode cL_walk 89 = .ok (.iload 4, 2) := by decide +kernel
theorem dL_walk_91 : decode cL_walk 91 = .ok (.iload_n 2, 1) := by decide +kernel
theorem dL_walk_92 : decode cL_walk 92 = .ok (.if_icmp .le 10, 3) := by decide +kernel
theorem dL_walk_95 : decode cL_walk 95 = .ok (.iload 4, 2) := by decide +kernel
theorem dL_walk_97 : decode cL_walk 97 = .ok (.iload_n 2, 1) := by decide +kernel
theorem dL_walk_98 : decode cL_walk 98 = .ok (.isub, 1) := by decide +kernel
theorem dL_walk_99 : decode cL_walk 99 = .ok (.goto 7, 3) := by decide +kernel
theorem dL_walk_102 : decode cL_walk 102 = .ok (.iload_n 2, 1) := by decide +kernel
theorem dL_walk_103 : decode cL_walk 103 = .ok (.iload 4, 2) := by decide +kernel
theorem dL_walk_105 : decode cL_walk 105 = .ok (.isub, 1) := by decide +kernel
theorem dL_walk_106 : decode cL_walk 106 = .ok (.iadd, 1) := by decide +kernel
theorem dL_walk_107 : decode cL_walk 107 = .ok (.istore_n 3, 1) := by decide +kernel
theorem dL_walk_108 : decode cL_walk 108 = .ok (.iload 4, 2) := by decide +kernel
theorem dL_walk_110 : decode cL_walk 110 = .ok (.istore_n 2, 1) := by decide +kernel
theorem dL_walk_111 : decode cL_walk 111 = .ok (.iload_n 1, 1) := by decide +kernel
theorem dL_walk_112 : decode cL_walk 112 = .ok (.iconst 1, 1) := by decide +kernel
theorem dL_walk_113 : decode cL_walk 113 = .ok (.iload 4, 2) := by decide +kernel
theorem dL_walk_115 : decode cL_walk 115 = .ok (.ishl, 1) := by decide +kernel
theorem dL_walk_116 : decode cL_walk 116 = .ok (.isub, 1) := by decide +kernel
theorem dL_walk_117 : decode cL_walk 117 = .ok (.istore_n 1, 1) := by decide +kernel
theorem dL_walk_118 : decode cL_walk 118 = .ok (.goto (-106), 3) := by decide +kernel
theorem dL_walk_121 : decode cL_walk 121 = .ok (.iload_n 3, 1) := by decide +kernel
theorem dL_walk_122 : decode cL_walk 122 = .ok (.ireturn, 1) := by decide +kernel
theorem dL_numbers_0 : decode cL_numbers 0 = .ok (.iconst 0, 1) := by decide +kernel
theorem dL_numbers_1 : decode cL_numbers 1 = .ok (.istore_n 1, 1) := by decide +kernel
theorem dL_numbers_2 : decode cL_numbers 2 = .ok (.iconst 0, 1) := by decide +kernel
theorem dL_numbers_3 : decode cL_numbers 3 = .ok (.istore_n 2, 1) := by decide +kernel
theorem dL_numbers_4 : decode cL_numbers 4 = .ok (.iload_n 2, 1) := by decide +kernel
theorem dL_numbers_5 : decode cL_numbers 5 = .ok (.aload_n 0, 1) := by decide +kernel
theorem dL_numbers_6 : decode cL_numbers 6 = .ok (.iconst 0, 1) := by decide +kernel
theorem dL_numbers_7 : decode cL_numbers 7 = .ok (.iaload, 1) := by decide +kernel
theorem dL_numbers_8 : decode cL_numbers 8 = .ok (.if_icmp .ge 17, 3) := by decide +kernel
theorem dL_numbers_11 : decode cL_numbers 11 = .ok (.iload_n 1, 1) := by decide +kernel
theorem dL_numbers_12 : decode cL_numbers 12 = .ok (.aload_n 0, 1) := by decide +kernel
theorem dL_numbers_13 : decode cL_numbers 13 = .ok (.iload_n 2, 1) := by decide +kernel
theorem dL_numbers_14 : decode cL_numbers 14 = .ok (.invokestatic 31, 3) := by decide +kernel
theorem dL_numbers_17 : decode cL_numbers 17 = .ok (.iadd, 1) := by decide +kernel
theorem dL_numbers_18 : decode cL_numbers 18 = .ok (.istore_n 1, 1) := by decide +kernel
theorem dL_numbers_19 : decode cL_numbers 19 = .ok (.iinc 2 1, 3) := by decide +kernel
theorem dL_numbers_22 : decode cL_numbers 22 = .ok (.goto (-18), 3) := by decide +kernel
theorem dL_numbers_25 : decode cL_numbers 25 = .ok (.iload_n 1, 1) := by decide +kernel
theorem dL_numbers_26 : decode cL_numbers 26 = .ok (.ireturn, 1) := by decide +kernel
theorem dL_copy_0 : decode cL_copy 0 = .ok (.iconst 0, 1) := by decide +kernel
theorem dL_copy_1 : decode cL_copy 1 = .ok (.istore_n 2, 1) := by decide +kernel
theorem dL_copy_2 : decode cL_copy 2 = .ok (.iload_n 2, 1) := by decide +kernel
theorem dL_copy_3 : decode cL_copy 3 = .ok (.bipush 21, 2) := by decide +kernel
theorem dL_copy_5 : decode cL_copy 5 = .ok (.if_icmp .ge 15, 3) := by decide +kernel
theorem dL_copy_8 : decode cL_copy 8 = .ok (.aload_n 1, 1) := by decide +kernel
theorem dL_copy_9 : decode cL_copy 9 = .ok (.iload_n 2, 1) := by decide +kernel
theorem dL_copy_10 : decode cL_copy 10 = .ok (.aload_n 0, 1) := by decide +kernel
theorem dL_copy_11 : decode cL_copy 11 = .ok (.iload_n 2, 1) := by decide +kernel
theorem dL_copy_12 : decode cL_copy 12 = .ok (.iaload, 1) := by decide +kernel
theorem dL_copy_13 : decode cL_copy 13 = .ok (.iastore, 1) := by decide +kernel
theorem dL_copy_14 : decode cL_copy 14 = .ok (.iinc 2 1, 3) := by decide +kernel
theorem dL_copy_17 : decode cL_copy 17 = .ok (.goto (-15), 3) := by decide +kernel
theorem dL_copy_20 : decode cL_copy 20 = .ok (.return_, 1) := by decide +kernel
theorem dL_act_0 : decode cL_act 0 = .ok (.iload_n 1, 1) := by decide +kernel
theorem dL_act_1 : decode cL_act 1 = .ok (.bipush 16, 2) := by decide +kernel
theorem dL_act_3 : decode cL_act 3 = .ok (.irem, 1) := by decide +kernel
theorem dL_act_4 : decode cL_act 4 = .ok (.bipush 7, 2) := by decide +kernel
theorem dL_act_6 : decode cL_act 6 = .ok (.if_icmp .ge 104, 3) := by decide +kernel
theorem dL_act_9 : decode cL_act 9 = .ok (.iload_n 1, 1) := by decide +kernel
theorem dL_act_10 : decode cL_act 10 = .ok (.bipush 16, 2) := by decide +kernel
theorem dL_act_12 : decode cL_act 12 = .ok (.idiv, 1) := by decide +kernel
theorem dL_act_13 : decode cL_act 13 = .ok (.aload_n 2, 1) := by decide +kernel
theorem dL_act_14 : decode cL_act 14 = .ok (.iconst 0, 1) := by decide +kernel
theorem dL_act_15 : decode cL_act 15 = .ok (.iaload, 1) := by decide +kernel
theorem dL_act_16 : decode cL_act 16 = .ok (.irem, 1) := by decide +kernel
theorem dL_act_17 : decode cL_act 17 = .ok (.istore 4, 2) := by decide +kernel
theorem dL_act_19 : decode cL_act 19 = .ok (.aload_n 2, 1) := by decide +kernel
theorem dL_act_20 : decode cL_act 20 = .ok (.iload 4, 2) := by decide +kernel
theorem dL_act_22 : decode cL_act 22 = .ok (.invokestatic 37, 3) := by decide +kernel
theorem dL_act_25 : decode cL_act 25 = .ok (.ifCond .ne 20, 3) := by decide +kernel
theorem dL_act_28 : decode cL_act 28 = .ok (.aload_n 0, 1) := by decide +kernel
theorem dL_act_29 : decode cL_act 29 = .ok (.iload 4, 2) := by decide +kernel
theorem dL_act_31 : decode cL_act 31 = .ok (.invokevirtual 41, 3) := by decide +kernel
theorem dL_act_34 : decode cL_act 34 = .ok (.bipush (-103), 2) := by decide +kernel
theorem dL_act_36 : decode cL_act 36 = .ok (.if_icmp .ne 7, 3) := by decide +kernel
theorem dL_act_39 : decode cL_act 39 = .ok (.iconst 1, 1) := by decide +kernel
theorem dL_act_40 : decode cL_act 40 = .ok (.goto 4, 3) := by decide +kernel
theorem dL_act_43 : decode cL_act 43 = .ok (.iconst 0, 1) := by decide +kernel
theorem dL_act_44 : decode cL_act 44 = .ok (.ireturn, 1) := by decide +kernel
theorem dL_act_45 : decode cL_act 45 = .ok (.aload_n 2, 1) := by decide +kernel
theorem dL_act_46 : decode cL_act 46 = .ok (.iload 4, 2) := by decide +kernel
theorem dL_act_48 : decode cL_act 48 = .ok (.invokestatic 44, 3) := by decide +kernel
theorem dL_act_51 : decode cL_act 51 = .ok (.istore 5, 2) := by decide +kernel
theorem dL_act_53 : decode cL_act 53 = .ok (.iconst 0, 1) := by decide +kernel
theorem dL_act_54 : decode cL_act 54 = .ok (.istore 6, 2) := by decide +kernel
theorem dL_act_56 : decode cL_act 56 = .ok (.iload 6, 2) := by decide +kernel
theorem dL_act_58 : decode cL_act 58 = .ok (.iload 5, 2) := by decide +kernel
theorem dL_act_60 : decode cL_act 60 = .ok (.if_icmp .ge 26, 3) := by decide +kernel
theorem dL_act_63 : decode cL_act 63 = .ok (.aload_n 2, 1) := by decide +kernel
theorem dL_act_64 : decode cL_act 64 = .ok (.iconst 5, 1) := by decide +kernel
theorem dL_act_65 : decode cL_act 65 = .ok (.iconst 3, 1) := by decide +kernel
theorem dL_act_66 : decode cL_act 66 = .ok (.iload 4, 2) := by decide +kernel
theorem dL_act_68 : decode cL_act 68 = .ok (.imul, 1) := by decide +kernel
theorem dL_act_69 : decode cL_act 69 = .ok (.iadd, 1) := by decide +kernel
theorem dL_act_70 : decode cL_act 70 = .ok (.iconst 3, 1) := by decide +kernel
theorem dL_act_71 : decode cL_act 71 = .ok (.iload 6, 2) := by decide +kernel
theorem dL_act_73 : decode cL_act 73 = .ok (.imul, 1) := by decide +kernel
theorem dL_act_74 : decode cL_act 74 = .ok (.iadd, 1) := by decide +kernel
theorem dL_act_75 : decode cL_act 75 = .ok (.dup2, 1) := by decide +kernel
theorem dL_act_76 : decode cL_act 76 = .ok (.iaload, 1) := by decide +kernel
theorem dL_act_77 : decode cL_act 77 = .ok (.iconst 1, 1) := by decide +kernel
theorem dL_act_78 : decode cL_act 78 = .ok (.iadd, 1) := by decide +kernel
theorem dL_act_79 : decode cL_act 79 = .ok (.iastore, 1) := by decide +kernel
theorem dL_act_80 : decode cL_act 80 = .ok (.iinc 6 1, 3) := by decide +kernel
theorem dL_act_83 : decode cL_act 83 = .ok (.goto (-27), 3) := by decide +kernel
theorem dL_act_86 : decode cL_act 86 = .ok (.aload_n 2, 1) := by decide +kernel
theorem dL_act_87 : decode cL_act 87 = .ok (.iconst 2, 1) := by decide +kernel
theorem dL_act_88 : decode cL_act 88 = .ok (.dup2, 1) := by decide +kernel
theorem dL_act_89 : decode cL_act 89 = .ok (.iaload, 1) := by decide +kernel
theorem dL_act_90 : decode cL_act 90 = .ok (.iconst 1, 1) := by decide +kernel
theorem dL_act_91 : decode cL_act 91 = .ok (.iadd, 1) := by decide +kernel
theorem dL_act_92 : decode cL_act 92 = .ok (.iastore, 1) := by decide +kernel
theorem dL_act_93 : decode cL_act 93 = .ok (.aload_n 0, 1) := by decide +kernel
theorem dL_act_94 : decode cL_act 94 = .ok (.iload 4, 2) := by decide +kernel
theorem dL_act_96 : decode cL_act 96 = .ok (.invokevirtual 41, 3) := by decide +kernel
theorem dL_act_99 : decode cL_act 99 = .ok (.iload 5, 2) := by decide +kernel
theorem dL_act_101 : decode cL_act 101 = .ok (.if_icmp .ne 7, 3) := by decide +kernel
theorem dL_act_104 : decode cL_act 104 = .ok (.iconst 1, 1) := by decide +kernel
theorem dL_act_105 : decode cL_act 105 = .ok (.goto 4, 3) := by decide +kernel
theorem dL_act_108 : decode cL_act 108 = .ok (.iconst 0, 1) := by decide +kernel
theorem dL_act_109 : decode cL_act 109 = .ok (.ireturn, 1) := by decide +kernel
theorem dL_act_110 : decode cL_act 110 = .ok (.aload_n 2, 1) := by decide +kernel
theorem dL_act_111 : decode cL_act 111 = .ok (.iconst 1, 1) := by decide +kernel
theorem dL_act_112 : decode cL_act 112 = .ok (.iaload, 1) := by decide +kernel
theorem dL_act_113 : decode cL_act 113 = .ok (.bipush 30, 2) := by decide +kernel
theorem dL_act_115 : decode cL_act 115 = .ok (.if_icmp .ne 18, 3) := by decide +kernel
theorem dL_act_118 : decode cL_act 118 = .ok (.aload_n 0, 1) := by decide +kernel
theorem dL_act_119 : decode cL_act 119 = .ok (.invokevirtual 47, 3) := by decide +kernel
theorem dL_act_122 : decode cL_act 122 = .ok (.bipush (-104), 2) := by decide +kernel
theorem dL_act_124 : decode cL_act 124 = .ok (.if_icmp .ne 7, 3) := by decide +kernel
theorem dL_act_127 : decode cL_act 127 = .ok (.iconst 1, 1) := by decide +kernel
theorem dL_act_128 : decode cL_act 128 = .ok (.goto 4, 3) := by decide +kernel
theorem dL_act_131 : decode cL_act 131 = .ok (.iconst 0, 1) := by decide +kernel
theorem dL_act_132 : decode cL_act 132 = .ok (.ireturn, 1) := by decide +kernel
theorem dL_act_133 : decode cL_act 133 = .ok (.aload_n 3, 1) := by decide +kernel
theorem dL_act_134 : decode cL_act 134 = .ok (.aload_n 2, 1) := by decide +kernel
theorem dL_act_135 : decode cL_act 135 = .ok (.iconst 1, 1) := by decide +kernel
theorem dL_act_136 : decode cL_act 136 = .ok (.iaload, 1) := by decide +kernel
theorem dL_act_137 : decode cL_act 137 = .ok (.lconst 0, 1) := by decide +kernel
theorem dL_act_138 : decode cL_act 138 = .ok (.lastore, 1) := by decide +kernel
theorem dL_act_139 : decode cL_act 139 = .ok (.iconst 0, 1) := by decide +kernel
theorem dL_act_140 : decode cL_act 140 = .ok (.istore 4, 2) := by decide +kernel
theorem dL_act_142 : decode cL_act 142 = .ok (.iload 4, 2) := by decide +kernel
theorem dL_act_144 : decode cL_act 144 = .ok (.aload_n 2, 1) := by decide +kernel
theorem dL_act_145 : decode cL_act 145 = .ok (.iconst 0, 1) := by decide +kernel
theorem dL_act_146 : decode cL_act 146 = .ok (.iaload, 1) := by decide +kernel
theorem dL_act_147 : decode cL_act 147 = .ok (.if_icmp .ge 32, 3) := by decide +kernel
theorem dL_act_150 : decode cL_act 150 = .ok (.aload_n 3, 1) := by decide +kernel
theorem dL_act_151 : decode cL_act 151 = .ok (.aload_n 2, 1) := by decide +kernel
theorem dL_act_152 : decode cL_act 152 = .ok (.iconst 1, 1) := by decide +kernel
theorem dL_act_153 : decode cL_act 153 = .ok (.iaload, 1) := by decide +kernel
theorem dL_act_154 : decode cL_act 154 = .ok (.dup2, 1) := by decide +kernel
theorem dL_act_155 : decode cL_act 155 = .ok (.laload, 1) := by decide +kernel
theorem dL_act_156 : decode cL_act 156 = .ok (.aload_n 2, 1) := by decide +kernel
theorem dL_act_157 : decode cL_act 157 = .ok (.iconst 4, 1) := by decide +kernel
theorem dL_act_158 : decode cL_act 158 = .ok (.iconst 3, 1) := by decide +kernel
theorem dL_act_159 : decode cL_act 159 = .ok (.iload 4, 2) := by decide +kernel
theorem dL_act_161 : decode cL_act 161 = .ok (.imul, 1) := by decide +kernel
theorem dL_act_162 : decode cL_act 162 = .ok (.iadd, 1) := by decide +kernel
theorem dL_act_163 : decode cL_act 163 = .ok (.iaload, 1) := by decide +kernel
theorem dL_act_164 : decode cL_act 164 = .ok (.i2l, 1) := by decide +kernel
theorem dL_act_165 : decode cL_act 165 = .ok (.bipush 7, 2) := by decide +kernel
theorem dL_act_167 : decode cL_act 167 = .ok (.iload 4, 2) := by decide +kernel
theorem dL_act_169 : decode cL_act 169 = .ok (.imul, 1) := by decide +kernel
theorem dL_act_170 : decode cL_act 170 = .ok (.lshl, 1) := by decide +kernel
theorem dL_act_171 : decode cL_act 171 = .ok (.lor, 1) := by decide +kernel
theorem dL_act_172 : decode cL_act 172 = .ok (.lastore, 1) := by decide +kernel
theorem dL_act_173 : decode cL_act 173 = .ok (.iinc 4 1, 3) := by decide +kernel
theorem dL_act_176 : decode cL_act 176 = .ok (.goto (-34), 3) := by decide +kernel
theorem dL_act_179 : decode cL_act 179 = .ok (.aload_n 2, 1) := by decide +kernel
theorem dL_act_180 : decode cL_act 180 = .ok (.invokestatic 50, 3) := by decide +kernel
theorem dL_act_183 : decode cL_act 183 = .ok (.aload_n 2, 1) := by decide +kernel
theorem dL_act_184 : decode cL_act 184 = .ok (.iconst 1, 1) := by decide +kernel
theorem dL_act_185 : decode cL_act 185 = .ok (.dup2, 1) := by decide +kernel
theorem dL_act_186 : decode cL_act 186 = .ok (.iaload, 1) := by decide +kernel
theorem dL_act_187 : decode cL_act 187 = .ok (.iconst 1, 1) := by decide +kernel
theorem dL_act_188 : decode cL_act 188 = .ok (.iadd, 1) := by decide +kernel
theorem dL_act_189 : decode cL_act 189 = .ok (.iastore, 1) := by decide +kernel
theorem dL_act_190 : decode cL_act 190 = .ok (.aload_n 0, 1) := by decide +kernel
theorem dL_act_191 : decode cL_act 191 = .ok (.invokevirtual 47, 3) := by decide +kernel
theorem dL_act_194 : decode cL_act 194 = .ok (.aload_n 2, 1) := by decide +kernel
theorem dL_act_195 : decode cL_act 195 = .ok (.iconst 1, 1) := by decide +kernel
theorem dL_act_196 : decode cL_act 196 = .ok (.iaload, 1) := by decide +kernel
theorem dL_act_197 : decode cL_act 197 = .ok (.if_icmp .ne 7, 3) := by decide +kernel
theorem dL_act_200 : decode cL_act 200 = .ok (.iconst 1, 1) := by decide +kernel
theorem dL_act_201 : decode cL_act 201 = .ok (.goto 4, 3) := by decide +kernel
theorem dL_act_204 : decode cL_act 204 = .ok (.iconst 0, 1) := by decide +kernel
theorem dL_act_205 : decode cL_act 205 = .ok (.ireturn, 1) := by decide +kernel
