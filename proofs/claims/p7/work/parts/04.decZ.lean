theorem dX10_init_0 : decode cX10_init 0 = .ok (.aload_n 0, 1) := by decide +kernel
theorem dX10_init_1 : decode cX10_init 1 = .ok (.invokespecial 1, 3) := by decide +kernel
theorem dX10_init_4 : decode cX10_init 4 = .ok (.aload_n 0, 1) := by decide +kernel
theorem dX10_init_5 : decode cX10_init 5 = .ok (.bipush 80, 2) := by decide +kernel
theorem dX10_init_7 : decode cX10_init 7 = .ok (.newarray .int, 2) := by decide +kernel
theorem dX10_init_9 : decode cX10_init 9 = .ok (.putfield 7, 3) := by decide +kernel
theorem dX10_init_12 : decode cX10_init 12 = .ok (.aload_n 0, 1) := by decide +kernel
theorem dX10_init_13 : decode cX10_init 13 = .ok (.bipush 10, 2) := by decide +kernel
theorem dX10_init_15 : decode cX10_init 15 = .ok (.newarray .int, 2) := by decide +kernel
theorem dX10_init_17 : decode cX10_init 17 = .ok (.putfield 13, 3) := by decide +kernel
theorem dX10_init_20 : decode cX10_init 20 = .ok (.aload_n 0, 1) := by decide +kernel
theorem dX10_init_21 : decode cX10_init 21 = .ok (.bipush 10, 2) := by decide +kernel
theorem dX10_init_23 : decode cX10_init 23 = .ok (.newarray .int, 2) := by decide +kernel
theorem dX10_init_25 : decode cX10_init 25 = .ok (.putfield 16, 3) := by decide +kernel
theorem dX10_init_28 : decode cX10_init 28 = .ok (.aload_n 0, 1) := by decide +kernel
theorem dX10_init_29 : decode cX10_init 29 = .ok (.bipush 10, 2) := by decide +kernel
theorem dX10_init_31 : decode cX10_init 31 = .ok (.newarray .int, 2) := by decide +kernel
theorem dX10_init_33 : decode cX10_init 33 = .ok (.putfield 19, 3) := by decide +kernel
theorem dX10_init_36 : decode cX10_init 36 = .ok (.aload_n 0, 1) := by decide +kernel
theorem dX10_init_37 : decode cX10_init 37 = .ok (.bipush 10, 2) := by decide +kernel
theorem dX10_init_39 : decode cX10_init 39 = .ok (.newarray .int, 2) := by decide +kernel
theorem dX10_init_41 : decode cX10_init 41 = .ok (.putfield 22, 3) := by decide +kernel
theorem dX10_init_44 : decode cX10_init 44 = .ok (.aload_n 0, 1) := by decide +kernel
theorem dX10_init_45 : decode cX10_init 45 = .ok (.bipush 10, 2) := by decide +kernel
theorem dX10_init_47 : decode cX10_init 47 = .ok (.newarray .int, 2) := by decide +kernel
theorem dX10_init_49 : decode cX10_init 49 = .ok (.putfield 25, 3) := by decide +kernel
theorem dX10_init_52 : decode cX10_init 52 = .ok (.aload_n 0, 1) := by decide +kernel
theorem dX10_init_53 : decode cX10_init 53 = .ok (.bipush 10, 2) := by decide +kernel
theorem dX10_init_55 : decode cX10_init 55 = .ok (.newarray .int, 2) := by decide +kernel
theorem dX10_init_57 : decode cX10_init 57 = .ok (.putfield 28, 3) := by decide +kernel
theorem dX10_init_60 : decode cX10_init 60 = .ok (.aload_n 0, 1) := by decide +kernel
theorem dX10_init_61 : decode cX10_init 61 = .ok (.bipush 10, 2) := by decide +kernel
theorem dX10_init_63 : decode cX10_init 63 = .ok (.newarray .int, 2) := by decide +kernel
theorem dX10_init_65 : decode cX10_init 65 = .ok (.putfield 31, 3) := by decide +kernel
theorem dX10_init_68 : decode cX10_init 68 = .ok (.aload_n 0, 1) := by decide +kernel
theorem dX10_init_69 : decode cX10_init 69 = .ok (.bipush 12, 2) := by decide +kernel
theorem dX10_init_71 : decode cX10_init 71 = .ok (.newarray .int, 2) := by decide +kernel
theorem dX10_init_73 : decode cX10_init 73 = .ok (.putfield 34, 3) := by decide +kernel
theorem dX10_init_76 : decode cX10_init 76 = .ok (.aload_n 0, 1) := by decide +kernel
theorem dX10_init_77 : decode cX10_init 77 = .ok (.iconst 3, 1) := by decide +kernel
theorem dX10_init_78 : decode cX10_init 78 = .ok (.newarray .int, 2) := by decide +kernel
theorem dX10_init_80 : decode cX10_init 80 = .ok (.putfield 37, 3) := by decide +kernel
theorem dX10_init_83 : decode cX10_init 83 = .ok (.aload_n 0, 1) := by decide +kernel
theorem dX10_init_84 : decode cX10_init 84 = .ok (.bipush 10, 2) := by decide +kernel
theorem dX10_init_86 : decode cX10_init 86 = .ok (.newarray .int, 2) := by decide +kernel
theorem dX10_init_88 : decode cX10_init 88 = .ok (.putfield 40, 3) := by decide +kernel
theorem dX10_init_91 : decode cX10_init 91 = .ok (.aload_n 0, 1) := by decide +kernel
theorem dX10_init_92 : decode cX10_init 92 = .ok (.bipush 7, 2) := by decide +kernel
theorem dX10_init_94 : decode cX10_init 94 = .ok (.newarray .int, 2) := by decide +kernel
theorem dX10_init_96 : decode cX10_init 96 = .ok (.putfield 43, 3) := by decide +kernel
theorem dX10_init_99 : decode cX10_init 99 = .ok (.aload_n 0, 1) := by decide +kernel
theorem dX10_init_100 : decode cX10_init 100 = .ok (.bipush 6, 2) := by decide +kernel
theorem dX10_init_102 : decode cX10_init 102 = .ok (.newarray .int, 2) := by decide +kernel
theorem dX10_init_104 : decode cX10_init 104 = .ok (.putfield 46, 3) := by decide +kernel
theorem dX10_init_107 : decode cX10_init 107 = .ok (.aload_n 0, 1) := by decide +kernel
theorem dX10_init_108 : decode cX10_init 108 = .ok (.bipush 10, 2) := by decide +kernel
theorem dX10_init_110 : decode cX10_init 110 = .ok (.newarray .int, 2) := by decide +kernel
theorem dX10_init_112 : decode cX10_init 112 = .ok (.putfield 49, 3) := by decide +kernel
theorem dX10_init_115 : decode cX10_init 115 = .ok (.aload_n 0, 1) := by decide +kernel
theorem dX10_init_116 : decode cX10_init 116 = .ok (.sipush 4096, 3) := by decide +kernel
theorem dX10_init_119 : decode cX10_init 119 = .ok (.newarray .int, 2) := by decide +kernel
theorem dX10_init_121 : decode cX10_init 121 = .ok (.putfield 52, 3) := by decide +kernel
theorem dX10_init_124 : decode cX10_init 124 = .ok (.aload_n 0, 1) := by decide +kernel
theorem dX10_init_125 : decode cX10_init 125 = .ok (.bipush 6, 2) := by decide +kernel
theorem dX10_init_127 : decode cX10_init 127 = .ok (.newarray .int, 2) := by decide +kernel
theorem dX10_init_129 : decode cX10_init 129 = .ok (.putfield 55, 3) := by decide +kernel
theorem dX10_init_132 : decode cX10_init 132 = .ok (.aload_n 0, 1) := by decide +kernel
theorem dX10_init_133 : decode cX10_init 133 = .ok (.bipush 90, 2) := by decide +kernel
theorem dX10_init_135 : decode cX10_init 135 = .ok (.newarray .int, 2) := by decide +kernel
theorem dX10_init_137 : decode cX10_init 137 = .ok (.putfield 58, 3) := by decide +kernel
theorem dX10_init_140 : decode cX10_init 140 = .ok (.aload_n 0, 1) := by decide +kernel
theorem dX10_init_141 : decode cX10_init 141 = .ok (.iconst 2, 1) := by decide +kernel
theorem dX10_init_142 : decode cX10_init 142 = .ok (.putfield 61, 3) := by decide +kernel
theorem dX10_init_145 : decode cX10_init 145 = .ok (.aload_n 0, 1) := by decide +kernel
theorem dX10_init_146 : decode cX10_init 146 = .ok (.getfield 37, 3) := by decide +kernel
theorem dX10_init_149 : decode cX10_init 149 = .ok (.iconst 0, 1) := by decide +kernel
theorem dX10_init_150 : decode cX10_init 150 = .ok (.bipush 10, 2) := by decide +kernel
theorem dX10_init_152 : decode cX10_init 152 = .ok (.iastore, 1) := by decide +kernel
theorem dX10_init_153 : decode cX10_init 153 = .ok (.iconst 0, 1) := by decide +kernel
theorem dX10_init_154 : decode cX10_init 154 = .ok (.istore_n 1, 1) := by decide +kernel
theorem dX10_init_155 : decode cX10_init 155 = .ok (.iconst 0, 1) := by decide +kernel
theorem dX10_init_156 : decode cX10_init 156 = .ok (.istore_n 2, 1) := by decide +kernel
theorem dX10_init_157 : decode cX10_init 157 = .ok (.iload_n 2, 1) := by decide +kernel
theorem dX10_init_158 : decode cX10_init 158 = .ok (.sipush 4096, 3) := by decide +kernel
theorem dX10_init_161 : decode cX10_init 161 = .ok (.if_icmp .ge 30, 3) := by decide +kernel
theorem dX10_init_164 : decode cX10_init 164 = .ok (.iload_n 1, 1) := by decide +kernel
theorem dX10_init_165 : decode cX10_init 165 = .ok (.iconst 1, 1) := by decide +kernel
theorem dX10_init_166 : decode cX10_init 166 = .ok (.iadd, 1) := by decide +kernel
theorem dX10_init_167 : decode cX10_init 167 = .ok (.iload_n 1, 1) := by decide +kernel
theorem dX10_init_168 : decode cX10_init 168 = .ok (.iconst 1, 1) := by decide +kernel
theorem dX10_init_169 : decode cX10_init 169 = .ok (.iadd, 1) := by decide +kernel
theorem dX10_init_170 : decode cX10_init 170 = .ok (.imul, 1) := by decide +kernel
theorem dX10_init_171 : decode cX10_init 171 = .ok (.iload_n 2, 1) := by decide +kernel
theorem dX10_init_172 : decode cX10_init 172 = .ok (.if_icmp .gt 6, 3) := by decide +kernel
theorem dX10_init_175 : decode cX10_init 175 = .ok (.iinc 1 1, 3) := by decide +kernel
theorem dX10_init_178 : decode cX10_init 178 = .ok (.aload_n 0, 1) := by decide +kernel
theorem dX10_init_179 : decode cX10_init 179 = .ok (.getfield 52, 3) := by decide +kernel
theorem dX10_init_182 : decode cX10_init 182 = .ok (.iload_n 2, 1) := by decide +kernel
theorem dX10_init_183 : decode cX10_init 183 = .ok (.iload_n 1, 1) := by decide +kernel
theorem dX10_init_184 : decode cX10_init 184 = .ok (.iastore, 1) := by decide +kernel
theorem dX10_init_185 : decode cX10_init 185 = .ok (.iinc 2 1, 3) := by decide +kernel
theorem dX10_init_188 : decode cX10_init 188 = .ok (.goto (-31), 3) := by decide +kernel
theorem dX10_init_191 : decode cX10_init 191 = .ok (.return_, 1) := by decide +kernel
theorem dX10_no_0 : decode cX10_no 0 = .ok (.aload_n 0, 1) := by decide +kernel
theorem dX10_no_1 : decode cX10_no 1 = .ok (.getfield 43, 3) := by decide +kernel
theorem dX10_no_4 : decode cX10_no 4 = .ok (.iload_n 1, 1) := by decide +kernel
theorem dX10_no_5 : decode cX10_no 5 = .ok (.ineg, 1) := by decide +kernel
theorem dX10_no_6 : decode cX10_no 6 = .ok (.dup2, 1) := by decide +kernel
theorem dX10_no_7 : decode cX10_no 7 = .ok (.iaload, 1) := by decide +kernel
theorem dX10_no_8 : decode cX10_no 8 = .ok (.iconst 1, 1) := by decide +kernel
theorem dX10_no_9 : decode cX10_no 9 = .ok (.iadd, 1) := by decide +kernel
theorem dX10_no_10 : decode cX10_no 10 = .ok (.iastore, 1) := by decide +kernel
theorem dX10_no_11 : decode cX10_no 11 = .ok (.iload_n 1, 1) := by decide +kernel
theorem dX10_no_12 : decode cX10_no 12 = .ok (.ireturn, 1) := by decide +kernel
theorem dX10_isHole_0 : decode cX10_isHole 0 = .ok (.iload_n 1, 1) := by decide +kernel
theorem dX10_isHole_1 : decode cX10_isHole 1 = .ok (.ifCond .lt 15, 3) := by decide +kernel
theorem dX10_isHole_4 : decode cX10_isHole 4 = .ok (.iload_n 1, 1) := by decide +kernel
theorem dX10_isHole_5 : decode cX10_isHole 5 = .ok (.aload_n 0, 1) := by decide +kernel
theorem dX10_isHole_6 : decode cX10_isHole 6 = .ok (.getfield 65, 3) := by decide +kernel
theorem dX10_isHole_9 : decode cX10_isHole 9 = .ok (.if_icmp .ge 7, 3) := by decide +kernel
theorem dX10_isHole_12 : decode cX10_isHole 12 = .ok (.iconst 1, 1) := by decide +kernel
theorem dX10_isHole_13 : decode cX10_isHole 13 = .ok (.goto 4, 3) := by decide +kernel
theorem dX10_isHole_16 : decode cX10_isHole 16 = .ok (.iconst 0, 1) := by decide +kernel
theorem dX10_isHole_17 : decode cX10_isHole 17 = .ok (.ireturn, 1) := by decide +kernel
theorem dX10_isDoor_0 : decode cX10_isDoor 0 = .ok (.aload_n 0, 1) := by decide +kernel
theorem dX10_isDoor_1 : decode cX10_isDoor 1 = .ok (.getfield 19, 3) := by decide +kernel
theorem dX10_isDoor_4 : decode cX10_isDoor 4 = .ok (.iload_n 1, 1) := by decide +kernel
theorem dX10_isDoor_5 : decode cX10_isDoor 5 = .ok (.iaload, 1) := by decide +kernel
theorem dX10_isDoor_6 : decode cX10_isDoor 6 = .ok (.bipush 7, 2) := by decide +kernel
theorem dX10_isDoor_8 : decode cX10_isDoor 8 = .ok (.if_icmp .ne 7, 3) := by decide +kernel
theorem dX10_isDoor_11 : decode cX10_isDoor 11 = .ok (.iconst 1, 1) := by decide +kernel
theorem dX10_isDoor_12 : decode cX10_isDoor 12 = .ok (.goto 4, 3) := by decide +kernel
theorem dX10_isDoor_15 : decode cX10_isDoor 15 = .ok (.iconst 0, 1) := by decide +kernel
theorem dX10_isDoor_16 : decode cX10_isDoor 16 = .ok (.ireturn, 1) := by decide +kernel
theorem dX10_letter_0 : decode cX10_letter 0 = .ok (.iload_n 1, 1) := by decide +kernel
theorem dX10_letter_1 : decode cX10_letter 1 = .ok (.ifCond .ge 10, 3) := by decide +kernel
theorem dX10_letter_4 : decode cX10_letter 4 = .ok (.aload_n 0, 1) := by decide +kernel
theorem dX10_letter_5 : decode cX10_letter 5 = .ok (.bipush (-4), 2) := by decide +kernel
theorem dX10_letter_7 : decode cX10_letter 7 = .ok (.invokevirtual 68, 3) := by decide +kernel
theorem dX10_letter_10 : decode cX10_letter 10 = .ok (.ireturn, 1) := by decide +kernel
theorem dX10_letter_11 : decode cX10_letter 11 = .ok (.iload_n 1, 1) := by decide +kernel
theorem dX10_letter_12 : decode cX10_letter 12 = .ok (.sipush 255, 3) := by decide +kernel
theorem dX10_letter_15 : decode cX10_letter 15 = .ok (.if_icmp .gt 12, 3) := by decide +kernel
theorem dX10_letter_18 : decode cX10_letter 18 = .ok (.aload_n 0, 1) := by decide +kernel
theorem dX10_letter_19 : decode cX10_letter 19 = .ok (.getfield 72, 3) := by decide +kernel
theorem dX10_letter_22 : decode cX10_letter 22 = .ok (.bipush 80, 2) := by decide +kernel
theorem dX10_letter_24 : decode cX10_letter 24 = .ok (.if_icmp .ne 10, 3) := by decide +kernel
theorem dX10_letter_27 : decode cX10_letter 27 = .ok (.aload_n 0, 1) := by decide +kernel
theorem dX10_letter_28 : decode cX10_letter 28 = .ok (.bipush (-6), 2) := by decide +kernel
theorem dX10_letter_30 : decode cX10_letter 30 = .ok (.invokevirtual 68, 3) := by decide +kernel
theorem dX10_letter_33 : decode cX10_letter 33 = .ok (.ireturn, 1) := by decide +kernel
theorem dX10_letter_34 : decode cX10_letter 34 = .ok (.aload_n 0, 1) := by decide +kernel
theorem dX10_letter_35 : decode cX10_letter 35 = .ok (.getfield 7, 3) := by decide +kernel
theorem dX10_letter_38 : decode cX10_letter 38 = .ok (.aload_n 0, 1) := by decide +kernel
theorem dX10_letter_39 : decode cX10_letter 39 = .ok (.getfield 72, 3) := by decide +kernel
theorem dX10_letter_42 : decode cX10_letter 42 = .ok (.iload_n 1, 1) := by decide +kernel
theorem dX10_letter_43 : decode cX10_letter 43 = .ok (.iastore, 1) := by decide +kernel
theorem dX10_letter_44 : decode cX10_letter 44 = .ok (.aload_n 0, 1) := by decide +kernel
theorem dX10_letter_45 : decode cX10_letter 45 = .ok (.dup, 1) := by decide +kernel
theorem dX10_letter_46 : decode cX10_letter 46 = .ok (.getfield 72, 3) := by decide +kernel
theorem dX10_letter_49 : decode cX10_letter 49 = .ok (.iconst 1, 1) := by decide +kernel
theorem dX10_letter_50 : decode cX10_letter 50 = .ok (.iadd, 1) := by decide +kernel
theorem dX10_letter_51 : decode cX10_letter 51 = .ok (.dup_x1, 1) := by decide +kernel
theorem dX10_letter_52 : decode cX10_letter 52 = .ok (.putfield 72, 3) := by decide +kernel
theorem dX10_letter_55 : decode cX10_letter 55 = .ok (.ireturn, 1) := by decide +kernel
theorem dX10_sign_0 : decode cX10_sign 0 = .ok (.aload_n 0, 1) := by decide +kernel
theorem dX10_sign_1 : decode cX10_sign 1 = .ok (.getfield 75, 3) := by decide +kernel
theorem dX10_sign_4 : decode cX10_sign 4 = .ok (.aload_n 0, 1) := by decide +kernel
theorem dX10_sign_5 : decode cX10_sign 5 = .ok (.getfield 72, 3) := by decide +kernel
theorem dX10_sign_8 : decode cX10_sign 8 = .ok (.if_icmp .ge 15, 3) := by decide +kernel
theorem dX10_sign_11 : decode cX10_sign 11 = .ok (.aload_n 0, 1) := by decide +kernel
theorem dX10_sign_12 : decode cX10_sign 12 = .ok (.getfield 7, 3) := by decide +kernel
theorem dX10_sign_15 : decode cX10_sign 15 = .ok (.aload_n 0, 1) := by decide +kernel
theorem dX10_sign_16 : decode cX10_sign 16 = .ok (.getfield 75, 3) := by decide +kernel
theorem dX10_sign_19 : decode cX10_sign 19 = .ok (.iaload, 1) := by decide +kernel
theorem dX10_sign_20 : decode cX10_sign 20 = .ok (.goto 4, 3) := by decide +kernel
theorem dX10_sign_23 : decode cX10_sign 23 = .ok (.iconst (-1), 1) := by decide +kernel
theorem dX10_sign_24 : decode cX10_sign 24 = .ok (.ireturn, 1) := by decide +kernel
theorem dX10_is_0 : decode cX10_is 0 = .ok (.aload_n 0, 1) := by decide +kernel
theorem dX10_is_1 : decode cX10_is 1 = .ok (.invokevirtual 78, 3) := by decide +kernel
theorem dX10_is_4 : decode cX10_is 4 = .ok (.iload_n 1, 1) := by decide +kernel
theorem dX10_is_5 : decode cX10_is 5 = .ok (.if_icmp .eq 5, 3) := by decide +kernel
theorem dX10_is_8 : decode cX10_is 8 = .ok (.iconst 0, 1) := by decide +kernel
theorem dX10_is_9 : decode cX10_is 9 = .ok (.ireturn, 1) := by decide +kernel
theorem dX10_is_10 : decode cX10_is 10 = .ok (.aload_n 0, 1) := by decide +kernel
theorem dX10_is_11 : decode cX10_is 11 = .ok (.dup, 1) := by decide +kernel
theorem dX10_is_12 : decode cX10_is 12 = .ok (.getfield 75, 3) := by decide +kernel
theorem dX10_is_15 : decode cX10_is 15 = .ok (.iconst 1, 1) := by decide +kernel
theorem dX10_is_16 : decode cX10_is 16 = .ok (.iadd, 1) := by decide +kernel
theorem dX10_is_17 : decode cX10_is 17 = .ok (.putfield 75, 3) := by decide +kernel
theorem dX10_is_20 : decode cX10_is 20 = .ok (.iconst 1, 1) := by decide +kernel
theorem dX10_is_21 : decode cX10_is 21 = .ok (.ireturn, 1) := by decide +kernel
theorem dX10_isDigit_0 : decode cX10_isDigit 0 = .ok (.iload_n 0, 1) := by decide +kernel
theorem dX10_isDigit_1 : decode cX10_isDigit 1 = .ok (.bipush 48, 2) := by decide +kernel
theorem dX10_isDigit_3 : decode cX10_isDigit 3 = .ok (.if_icmp .lt 13, 3) := by decide +kernel
theorem dX10_isDigit_6 : decode cX10_isDigit 6 = .ok (.iload_n 0, 1) := by decide +kernel
theorem dX10_isDigit_7 : decode cX10_isDigit 7 = .ok (.bipush 57, 2) := by decide +kernel
theorem dX10_isDigit_9 : decode cX10_isDigit 9 = .ok (.if_icmp .gt 7, 3) := by decide +kernel
theorem dX10_isDigit_12 : decode cX10_isDigit 12 = .ok (.iconst 1, 1) := by decide +kernel
theorem dX10_isDigit_13 : decode cX10_isDigit 13 = .ok (.goto 4, 3) := by decide +kernel
theorem dX10_isDigit_16 : decode cX10_isDigit 16 = .ok (.iconst 0, 1) := by decide +kernel
theorem dX10_isDigit_17 : decode cX10_isDigit 17 = .ok (.ireturn, 1) := by decide +kernel
theorem dX10_number_0 : decode cX10_number 0 = .ok (.aload_n 0, 1) := by decide +kernel
theorem dX10_number_1 : decode cX10_number 1 = .ok (.invokevirtual 78, 3) := by decide +kernel
theorem dX10_number_4 : decode cX10_number 4 = .ok (.invokestatic 82, 3) := by decide +kernel
theorem dX10_number_7 : decode cX10_number 7 = .ok (.ifCond .ne 5, 3) := by decide +kernel
theorem dX10_number_10 : decode cX10_number 10 = .ok (.iconst 0, 1) := by decide +kernel
theorem dX10_number_11 : decode cX10_number 11 = .ok (.ireturn, 1) := by decide +kernel
theorem dX10_number_12 : decode cX10_number 12 = .ok (.aload_n 0, 1) := by decide +kernel
theorem dX10_number_13 : decode cX10_number 13 = .ok (.getfield 55, 3) := by decide +kernel
theorem dX10_number_16 : decode cX10_number 16 = .ok (.iload_n 1, 1) := by decide +kernel
theorem dX10_number_17 : decode cX10_number 17 = .ok (.iconst 0, 1) := by decide +kernel
theorem dX10_number_18 : decode cX10_number 18 = .ok (.iastore, 1) := by decide +kernel
theorem dX10_number_19 : decode cX10_number 19 = .ok (.iconst 0, 1) := by decide +kernel
theorem dX10_number_20 : decode cX10_number 20 = .ok (.istore_n 3, 1) := by decide +kernel
theorem dX10_number_21 : decode cX10_number 21 = .ok (.iload_n 3, 1) := by decide +kernel
theorem dX10_number_22 : decode cX10_number 22 = .ok (.iload_n 2, 1) := by decide +kernel
theorem dX10_number_23 : decode cX10_number 23 = .ok (.if_icmp .ge 54, 3) := by decide +kernel
theorem dX10_number_26 : decode cX10_number 26 = .ok (.aload_n 0, 1) := by decide +kernel
theorem dX10_number_27 : decode cX10_number 27 = .ok (.invokevirtual 78, 3) := by decide +kernel
theorem dX10_number_30 : decode cX10_number 30 = .ok (.invokestatic 82, 3) := by decide +kernel
theorem dX10_number_33 : decode cX10_number 33 = .ok (.ifCond .eq 44, 3) := by decide +kernel
theorem dX10_number_36 : decode cX10_number 36 = .ok (.aload_n 0, 1) := by decide +kernel
theorem dX10_number_37 : decode cX10_number 37 = .ok (.getfield 55, 3) := by decide +kernel
theorem dX10_number_40 : decode cX10_number 40 = .ok (.iload_n 1, 1) := by decide +kernel
theorem dX10_number_41 : decode cX10_number 41 = .ok (.bipush 10, 2) := by decide +kernel
theorem dX10_number_43 : decode cX10_number 43 = .ok (.aload_n 0, 1) := by decide +kernel
theorem dX10_number_44 : decode cX10_number 44 = .ok (.getfield 55, 3) := by decide +kernel
theorem dX10_number_47 : decode cX10_number 47 = .ok (.iload_n 1, 1) := by decide +kernel
theorem dX10_number_48 : decode cX10_number 48 = .ok (.iaload, 1) := by decide +kernel
theorem dX10_number_49 : decode cX10_number 49 = .ok (.imul, 1) := by decide +kernel
theorem dX10_number_50 : decode cX10_number 50 = .ok (.aload_n 0, 1) := by decide +kernel
theorem dX10_number_51 : decode cX10_number 51 = .ok (.getfield 7, 3) := by decide +kernel
theorem dX10_number_54 : decode cX10_number 54 = .ok (.aload_n 0, 1) := by decide +kernel
theorem dX10_number_55 : decode cX10_number 55 = .ok (.dup, 1) := by decide +kernel
theorem dX10_number_56 : decode cX10_number 56 = .ok (.getfield 75, 3) := by decide +kernel
theorem dX10_number_59 : decode cX10_number 59 = .ok (.dup_x1, 1) := by decide +kernel
theorem dX10_number_60 : decode cX10_number 60 = .ok (.iconst 1, 1) := by decide +kernel
theorem dX10_number_61 : decode cX10_number 61 = .ok (.iadd, 1) := by decide +kernel
theorem dX10_number_62 : decode cX10_number 62 = .ok (.putfield 75, 3) := by decide +kernel
theorem dX10_number_65 : decode cX10_number 65 = .ok (.iaload, 1) := by decide +kernel
theorem dX10_number_66 : decode cX10_number 66 = .ok (.iadd, 1) := by decide +kernel
theorem dX10_number_67 : decode cX10_number 67 = .ok (.bipush 48, 2) := by decide +kernel
theorem dX10_number_69 : decode cX10_number 69 = .ok (.isub, 1) := by decide +kernel
theorem dX10_number_70 : decode cX10_number 70 = .ok (.iastore, 1) := by decide +kernel
theorem dX10_number_71 : decode cX10_number 71 = .ok (.iinc 3 1, 3) := by decide +kernel
theorem dX10_number_74 : decode cX10_number 74 = .ok (.goto (-53), 3) := by decide +kernel
theorem dX10_number_77 : decode cX10_number 77 = .ok (.iconst 1, 1) := by decide +kernel
theorem dX10_number_78 : decode cX10_number 78 = .ok (.ireturn, 1) := by decide +kernel
theorem dX10_statement_0 : decode cX10_statement 0 = .ok (.aload_n 0, 1) := by decide +kernel
theorem dX10_statement_1 : decode cX10_statement 1 = .ok (.bipush 110, 2) := by decide +kernel
theorem dX10_statement_3 : decode cX10_statement 3 = .ok (.invokevirtual 86, 3) := by decide +kernel
theorem dX10_statement_6 : decode cX10_statement 6 = .ok (.ifCond .eq 27, 3) := by decide +kernel
theorem dX10_statement_9 : decode cX10_statement 9 = .ok (.aload_n 0, 1) := by decide +kernel
theorem dX10_statement_10 : decode cX10_statement 10 = .ok (.iconst 0, 1) := by decide +kernel
theorem dX10_statement_11 : decode cX10_statement 11 = .ok (.iconst 1, 1) := by decide +kernel
theorem dX10_statement_12 : decode cX10_statement 12 = .ok (.invokevirtual 90, 3) := by decide +kernel
theorem dX10_statement_15 : decode cX10_statement 15 = .ok (.ifCond .eq 16, 3) := by decide +kernel
theorem dX10_statement_18 : decode cX10_statement 18 = .ok (.aload_n 0, 1) := by decide +kernel
theorem dX10_statement_19 : decode cX10_statement 19 = .ok (.bipush 59, 2) := by decide +kernel
theorem dX10_statement_21 : decode cX10_statement 21 = .ok (.invokevirtual 86, 3) := by decide +kernel
theorem dX10_statement_24 : decode cX10_statement 24 = .ok (.ifCond .eq 7, 3) := by decide +kernel
theorem dX10_statement_27 : decode cX10_statement 27 = .ok (.iconst 0, 1) := by decide +kernel
theorem dX10_statement_28 : decode cX10_statement 28 = .ok (.goto 4, 3) := by decide +kernel
theorem dX10_statement_31 : decode cX10_statement 31 = .ok (.iconst (-1), 1) := by decide +kernel
theorem dX10_statement_32 : decode cX10_statement 32 = .ok (.ireturn, 1) := by decide +kernel
theorem dX10_statement_33 : decode cX10_statement 33 = .ok (.aload_n 0, 1) := by decide +kernel
theorem dX10_statement_34 : decode cX10_statement 34 = .ok (.bipush 100, 2) := by decide +kernel
theorem dX10_statement_36 : decode cX10_statement 36 = .ok (.invokevirtual 86, 3) := by decide +kernel
theorem dX10_statement_39 : decode cX10_statement 39 = .ok (.ifCond .eq 45, 3) := by decide +kernel
theorem dX10_statement_42 : decode cX10_statement 42 = .ok (.aload_n 0, 1) := by decide +kernel
theorem dX10_statement_43 : decode cX10_statement 43 = .ok (.iconst 0, 1) := by decide +kernel
theorem dX10_statement_44 : decode cX10_statement 44 = .ok (.iconst 1, 1) := by decide +kernel
theorem dX10_statement_45 : decode cX10_statement 45 = .ok (.invokevirtual 90, 3) := by decide +kernel
theorem dX10_statement_48 : decode cX10_statement 48 = .ok (.ifCond .eq 34, 3) := by decide +kernel
theorem dX10_statement_51 : decode cX10_statement 51 = .ok (.aload_n 0, 1) := by decide +kernel
theorem dX10_statement_52 : decode cX10_statement 52 = .ok (.iconst 1, 1) := by decide +kernel
theorem dX10_statement_53 : decode cX10_statement 53 = .ok (.iconst 1, 1) := by decide +kernel
theorem dX10_statement_54 : decode cX10_statement 54 = .ok (.invokevirtual 90, 3) := by decide +kernel
theorem dX10_statement_57 : decode cX10_statement 57 = .ok (.ifCond .eq 25, 3) := by decide +kernel
theorem dX10_statement_60 : decode cX10_statement 60 = .ok (.aload_n 0, 1) := by decide +kernel
theorem dX10_statement_61 : decode cX10_statement 61 = .ok (.iconst 2, 1) := by decide +kernel
theorem dX10_statement_62 : decode cX10_statement 62 = .ok (.iconst 1, 1) := by decide +kernel
theorem dX10_statement_63 : decode cX10_statement 63 = .ok (.invokevirtual 90, 3) := by decide +kernel
theorem dX10_statement_66 : decode cX10_statement 66 = .ok (.ifCond .eq 16, 3) := by decide +kernel
theorem dX10_statement_69 : decode cX10_statement 69 = .ok (.aload_n 0, 1) := by decide +kernel
theorem dX10_statement_70 : decode cX10_statement 70 = .ok (.bipush 59, 2) := by decide +kernel
theorem dX10_statement_72 : decode cX10_statement 72 = .ok (.invokevirtual 86, 3) := by decide +kernel
theorem dX10_statement_75 : decode cX10_statement 75 = .ok (.ifCond .eq 7, 3) := by decide +kernel
theorem dX10_statement_78 : decode cX10_statement 78 = .ok (.iconst 1, 1) := by decide +kernel
theorem dX10_statement_79 : decode cX10_statement 79 = .ok (.goto 4, 3) := by decide +kernel
theorem dX10_statement_82 : decode cX10_statement 82 = .ok (.iconst (-1), 1) := by decide +kernel
theorem dX10_statement_83 : decode cX10_statement 83 = .ok (.ireturn, 1) := by decide +kernel
theorem dX10_statement_84 : decode cX10_statement 84 = .ok (.aload_n 0, 1) := by decide +kernel
theorem dX10_statement_85 : decode cX10_statement 85 = .ok (.bipush 119, 2) := by decide +kernel
theorem dX10_statement_87 : decode cX10_statement 87 = .ok (.invokevirtual 86, 3) := by decide +kernel
theorem dX10_statement_90 : decode cX10_statement 90 = .ok (.ifCond .eq 63, 3) := by decide +kernel
theorem dX10_statement_93 : decode cX10_statement 93 = .ok (.aload_n 0, 1) := by decide +kernel
theorem dX10_statement_94 : decode cX10_statement 94 = .ok (.iconst 0, 1) := by decide +kernel
theorem dX10_statement_95 : decode cX10_statement 95 = .ok (.iconst 2, 1) := by decide +kernel
theorem dX10_statement_96 : decode cX10_statement 96 = .ok (.invokevirtual 90, 3) := by decide +kernel
theorem dX10_statement_99 : decode cX10_statement 99 = .ok (.ifCond .eq 52, 3) := by decide +kernel
theorem dX10_statement_102 : decode cX10_statement 102 = .ok (.aload_n 0, 1) := by decide +kernel
theorem dX10_statement_103 : decode cX10_statement 103 = .ok (.bipush 44, 2) := by decide +kernel
theorem dX10_statement_105 : decode cX10_statement 105 = .ok (.invokevirtual 86, 3) := by decide +kernel
theorem dX10_statement_108 : decode cX10_statement 108 = .ok (.ifCond .eq 43, 3) := by decide +kernel
theorem dX10_statement_111 : decode cX10_statement 111 = .ok (.aload_n 0, 1) := by decide +kernel
theorem dX10_statement_112 : decode cX10_statement 112 = .ok (.iconst 1, 1) := by decide +kernel
theorem dX10_statement_113 : decode cX10_statement 113 = .ok (.iconst 2, 1) := by decide +kernel
theorem dX10_statement_114 : decode cX10_statement 114 = .ok (.invokevirtual 90, 3) := by decide +kernel
theorem dX10_statement_117 : decode cX10_statement 117 = .ok (.ifCond .eq 34, 3) := by decide +kernel
theorem dX10_statement_120 : decode cX10_statement 120 = .ok (.aload_n 0, 1) := by decide +kernel
theorem dX10_statement_121 : decode cX10_statement 121 = .ok (.bipush 44, 2) := by decide +kernel
theorem dX10_statement_123 : decode cX10_statement 123 = .ok (.invokevirtual 86, 3) := by decide +kernel
theorem dX10_statement_126 : decode cX10_statement 126 = .ok (.ifCond .eq 25, 3) := by decide +kernel
theorem dX10_statement_129 : decode cX10_statement 129 = .ok (.aload_n 0, 1) := by decide +kernel
theorem dX10_statement_130 : decode cX10_statement 130 = .ok (.iconst 2, 1) := by decide +kernel
theorem dX10_statement_131 : decode cX10_statement 131 = .ok (.iconst 1, 1) := by decide +kernel
theorem dX10_statement_132 : decode cX10_statement 132 = .ok (.invokevirtual 90, 3) := by decide +kernel
theorem dX10_statement_135 : decode cX10_statement 135 = .ok (.ifCond .eq 16, 3) := by decide +kernel
theorem dX10_statement_138 : decode cX10_statement 138 = .ok (.aload_n 0, 1) := by decide +kernel
theorem dX10_statement_139 : decode cX10_statement 139 = .ok (.bipush 59, 2) := by decide +kernel
theorem dX10_statement_141 : decode cX10_statement 141 = .ok (.invokevirtual 86, 3) := by decide +kernel
theorem dX10_statement_144 : decode cX10_statement 144 = .ok (.ifCond .eq 7, 3) := by decide +kernel
theorem dX10_statement_147 : decode cX10_statement 147 = .ok (.iconst 3, 1) := by decide +kernel
theorem dX10_statement_148 : decode cX10_statement 148 = .ok (.goto 4, 3) := by decide +kernel
theorem dX10_statement_151 : decode cX10_statement 151 = .ok (.iconst (-1), 1) := by decide +kernel
theorem dX10_statement_152 : decode cX10_statement 152 = .ok (.ireturn, 1) := by decide +kernel
theorem dX10_statement_153 : decode cX10_statement 153 = .ok (.aload_n 0, 1) := by decide +kernel
theorem dX10_statement_154 : decode cX10_statement 154 = .ok (.bipush 104, 2) := by decide +kernel
theorem dX10_statement_156 : decode cX10_statement 156 = .ok (.invokevirtual 86, 3) := by decide +kernel
theorem dX10_statement_159 : decode cX10_statement 159 = .ok (.ifCond .eq 12, 3) := by decide +kernel
theorem dX10_statement_162 : decode cX10_statement 162 = .ok (.aload_n 0, 1) := by decide +kernel
theorem dX10_statement_163 : decode cX10_statement 163 = .ok (.iconst 0, 1) := by decide +kernel
theorem dX10_statement_164 : decode cX10_statement 164 = .ok (.iconst 1, 1) := by decide +kernel
theorem dX10_statement_165 : decode cX10_statement 165 = .ok (.invokevirtual 90, 3) := by decide +kernel
theorem dX10_statement_168 : decode cX10_statement 168 = .ok (.ifCond .ne 5, 3) := by decide +kernel
theorem dX10_statement_171 : decode cX10_statement 171 = .ok (.iconst (-1), 1) := by decide +kernel
theorem dX10_statement_172 : decode cX10_statement 172 = .ok (.ireturn, 1) := by decide +kernel
theorem dX10_statement_173 : decode cX10_statement 173 = .ok (.aload_n 0, 1) := by decide +kernel
theorem dX10_statement_174 : decode cX10_statement 174 = .ok (.invokevirtual 78, 3) := by decide +kernel
theorem dX10_statement_177 : decode cX10_statement 177 = .ok (.ifCond .ge 7, 3) := by decide +kernel
theorem dX10_statement_180 : decode cX10_statement 180 = .ok (.iconst (-1), 1) := by decide +kernel
theorem dX10_statement_181 : decode cX10_statement 181 = .ok (.goto 12, 3) := by decide +kernel
theorem dX10_statement_184 : decode cX10_statement 184 = .ok (.ldc 93, 2) := by decide +kernel
theorem dX10_statement_186 : decode cX10_statement 186 = .ok (.aload_n 0, 1) := by decide +kernel
theorem dX10_statement_187 : decode cX10_statement 187 = .ok (.invokevirtual 78, 3) := by decide +kernel
theorem dX10_statement_190 : decode cX10_statement 190 = .ok (.invokevirtual 95, 3) := by decide +kernel
theorem dX10_statement_193 : decode cX10_statement 193 = .ok (.istore_n 1, 1) := by decide +kernel
theorem dX10_statement_194 : decode cX10_statement 194 = .ok (.iload_n 1, 1) := by decide +kernel
theorem dX10_statement_195 : decode cX10_statement 195 = .ok (.ifCond .ge 5, 3) := by decide +kernel
theorem dX10_statement_198 : decode cX10_statement 198 = .ok (.iconst (-1), 1) := by decide +kernel
theorem dX10_statement_199 : decode cX10_statement 199 = .ok (.ireturn, 1) := by decide +kernel
theorem dX10_statement_200 : decode cX10_statement 200 = .ok (.aload_n 0, 1) := by decide +kernel
theorem dX10_statement_201 : decode cX10_statement 201 = .ok (.getfield 55, 3) := by decide +kernel
theorem dX10_statement_204 : decode cX10_statement 204 = .ok (.iconst 1, 1) := by decide +kernel
theorem dX10_statement_205 : decode cX10_statement 205 = .ok (.iload_n 1, 1) := by decide +kernel
theorem dX10_statement_206 : decode cX10_statement 206 = .ok (.iastore, 1) := by decide +kernel
theorem dX10_statement_207 : decode cX10_statement 207 = .ok (.aload_n 0, 1) := by decide +kernel
theorem dX10_statement_208 : decode cX10_statement 208 = .ok (.dup, 1) := by decide +kernel
theorem dX10_statement_209 : decode cX10_statement 209 = .ok (.getfield 75, 3) := by decide +kernel
theorem dX10_statement_212 : decode cX10_statement 212 = .ok (.iconst 1, 1) := by decide +kernel
theorem dX10_statement_213 : decode cX10_statement 213 = .ok (.iadd, 1) := by decide +kernel
theorem dX10_statement_214 : decode cX10_statement 214 = .ok (.putfield 75, 3) := by decide +kernel
theorem dX10_statement_217 : decode cX10_statement 217 = .ok (.aload_n 0, 1) := by decide +kernel
theorem dX10_statement_218 : decode cX10_statement 218 = .ok (.iconst 2, 1) := by decide +kernel
theorem dX10_statement_219 : decode cX10_statement 219 = .ok (.iconst 1, 1) := by decide +kernel
theorem dX10_statement_220 : decode cX10_statement 220 = .ok (.invokevirtual 90, 3) := by decide +kernel
theorem dX10_statement_223 : decode cX10_statement 223 = .ok (.ifCond .eq 52, 3) := by decide +kernel
theorem dX10_statement_226 : decode cX10_statement 226 = .ok (.aload_n 0, 1) := by decide +kernel
theorem dX10_statement_227 : decode cX10_statement 227 = .ok (.iconst 3, 1) := by decide +kernel
theorem dX10_statement_228 : decode cX10_statement 228 = .ok (.iconst 1, 1) := by decide +kernel
theorem dX10_statement_229 : decode cX10_statement 229 = .ok (.invokevirtual 90, 3) := by decide +kernel
theorem dX10_statement_232 : decode cX10_statement 232 = .ok (.ifCond .eq 43, 3) := by decide +kernel
theorem dX10_statement_235 : decode cX10_statement 235 = .ok (.aload_n 0, 1) := by decide +kernel
theorem dX10_statement_236 : decode cX10_statement 236 = .ok (.iconst 4, 1) := by decide +kernel
theorem dX10_statement_237 : decode cX10_statement 237 = .ok (.iconst 1, 1) := by decide +kernel
theorem dX10_statement_238 : decode cX10_statement 238 = .ok (.invokevirtual 90, 3) := by decide +kernel
theorem dX10_statement_241 : decode cX10_statement 241 = .ok (.ifCond .eq 34, 3) := by decide +kernel
theorem dX10_statement_244 : decode cX10_statement 244 = .ok (.aload_n 0, 1) := by decide +kernel
theorem dX10_statement_245 : decode cX10_statement 245 = .ok (.bipush 44, 2) := by decide +kernel
theorem dX10_statement_247 : decode cX10_statement 247 = .ok (.invokevirtual 86, 3) := by decide +kernel
theorem dX10_statement_250 : decode cX10_statement 250 = .ok (.ifCond .eq 25, 3) := by decide +kernel
theorem dX10_statement_253 : decode cX10_statement 253 = .ok (.aload_n 0, 1) := by decide +kernel
theorem dX10_statement_254 : decode cX10_statement 254 = .ok (.iconst 5, 1) := by decide +kernel
theorem dX10_statement_255 : decode cX10_statement 255 = .ok (.iconst 2, 1) := by decide +kernel
theorem dX10_statement_256 : decode cX10_statement 256 = .ok (.invokevirtual 90, 3) := by decide +kernel
theorem dX10_statement_259 : decode cX10_statement 259 = .ok (.ifCond .eq 16, 3) := by decide +kernel
theorem dX10_statement_262 : decode cX10_statement 262 = .ok (.aload_n 0, 1) := by decide +kernel
theorem dX10_statement_263 : decode cX10_statement 263 = .ok (.bipush 59, 2) := by decide +kernel
theorem dX10_statement_265 : decode cX10_statement 265 = .ok (.invokevirtual 86, 3) := by decide +kernel
theorem dX10_statement_268 : decode cX10_statement 268 = .ok (.ifCond .eq 7, 3) := by decide +kernel
theorem dX10_statement_271 : decode cX10_statement 271 = .ok (.iconst 2, 1) := by decide +kernel
theorem dX10_statement_272 : decode cX10_statement 272 = .ok (.goto 4, 3) := by decide +kernel
theorem dX10_statement_275 : decode cX10_statement 275 = .ok (.iconst (-1), 1) := by decide +kernel
theorem dX10_statement_276 : decode cX10_statement 276 = .ok (.ireturn, 1) := by decide +kernel
theorem dX10_toldOf_0 : decode cX10_toldOf 0 = .ok (.iconst 1, 1) := by decide +kernel
theorem dX10_toldOf_1 : decode cX10_toldOf 1 = .ok (.istore_n 1, 1) := by decide +kernel
theorem dX10_toldOf_2 : decode cX10_toldOf 2 = .ok (.iconst 0, 1) := by decide +kernel
theorem dX10_toldOf_3 : decode cX10_toldOf 3 = .ok (.istore_n 2, 1) := by decide +kernel
theorem dX10_toldOf_4 : decode cX10_toldOf 4 = .ok (.iload_n 2, 1) := by decide +kernel
theorem dX10_toldOf_5 : decode cX10_toldOf 5 = .ok (.aload_n 0, 1) := by decide +kernel
theorem dX10_toldOf_6 : decode cX10_toldOf 6 = .ok (.getfield 65, 3) := by decide +kernel
theorem dX10_toldOf_9 : decode cX10_toldOf 9 = .ok (.if_icmp .ge 31, 3) := by decide +kernel
theorem dX10_toldOf_12 : decode cX10_toldOf 12 = .ok (.iload_n 1, 1) := by decide +kernel
theorem dX10_toldOf_13 : decode cX10_toldOf 13 = .ok (.aload_n 0, 1) := by decide +kernel
theorem dX10_toldOf_14 : decode cX10_toldOf 14 = .ok (.getfield 13, 3) := by decide +kernel
theorem dX10_toldOf_17 : decode cX10_toldOf 17 = .ok (.iload_n 2, 1) := by decide +kernel
theorem dX10_toldOf_18 : decode cX10_toldOf 18 = .ok (.iaload, 1) := by decide +kernel
theorem dX10_toldOf_19 : decode cX10_toldOf 19 = .ok (.aload_n 0, 1) := by decide +kernel
theorem dX10_toldOf_20 : decode cX10_toldOf 20 = .ok (.getfield 16, 3) := by decide +kernel
theorem dX10_toldOf_23 : decode cX10_toldOf 23 = .ok (.iload_n 2, 1) := by decide +kernel
theorem dX10_toldOf_24 : decode cX10_toldOf 24 = .ok (.iaload, 1) := by decide +kernel
theorem dX10_toldOf_25 : decode cX10_toldOf 25 = .ok (.invokestatic 100, 3) := by decide +kernel
theorem dX10_toldOf_28 : decode cX10_toldOf 28 = .ok (.iconst 1, 1) := by decide +kernel
theorem dX10_toldOf_29 : decode cX10_toldOf 29 = .ok (.iadd, 1) := by decide +kernel
theorem dX10_toldOf_30 : decode cX10_toldOf 30 = .ok (.invokestatic 100, 3) := by decide +kernel
theorem dX10_toldOf_33 : decode cX10_toldOf 33 = .ok (.istore_n 1, 1) := by decide +kernel
theorem dX10_toldOf_34 : decode cX10_toldOf 34 = .ok (.iinc 2 1, 3) := by decide +kernel
theorem dX10_toldOf_37 : decode cX10_toldOf 37 = .ok (.goto (-33), 3) := by decide +kernel
theorem dX10_toldOf_40 : decode cX10_toldOf 40 = .ok (.iload_n 1, 1) := by decide +kernel
theorem dX10_toldOf_41 : decode cX10_toldOf 41 = .ok (.ireturn, 1) := by decide +kernel
theorem dX10_comes_0 : decode cX10_comes 0 = .ok (.iload_n 1, 1) := by decide +kernel
theorem dX10_comes_1 : decode cX10_comes 1 = .ok (.tableswitch 224 0 2 #[27, 65, 146], 27) := by decide +kernel
theorem dX10_comes_28 : decode cX10_comes 28 = .ok (.aload_n 0, 1) := by decide +kernel
theorem dX10_comes_29 : decode cX10_comes 29 = .ok (.getfield 55, 3) := by decide +kernel
theorem dX10_comes_32 : decode cX10_comes 32 = .ok (.iconst 0, 1) := by decide +kernel
theorem dX10_comes_33 : decode cX10_comes 33 = .ok (.iaload, 1) := by decide +kernel
theorem dX10_comes_34 : decode cX10_comes 34 = .ok (.bipush 6, 2) := by decide +kernel
theorem dX10_comes_36 : decode cX10_comes 36 = .ok (.if_icmp .gt 16, 3) := by decide +kernel
theorem dX10_comes_39 : decode cX10_comes 39 = .ok (.aload_n 0, 1) := by decide +kernel
theorem dX10_comes_40 : decode cX10_comes 40 = .ok (.getfield 55, 3) := by decide +kernel
theorem dX10_comes_43 : decode cX10_comes 43 = .ok (.iconst 0, 1) := by decide +kernel
theorem dX10_comes_44 : decode cX10_comes 44 = .ok (.iaload, 1) := by decide +kernel
theorem dX10_comes_45 : decode cX10_comes 45 = .ok (.aload_n 0, 1) := by decide +kernel
theorem dX10_comes_46 : decode cX10_comes 46 = .ok (.invokevirtual 106, 3) := by decide +kernel
theorem dX10_comes_49 : decode cX10_comes 49 = .ok (.if_icmp .ge 5, 3) := by decide +kernel
theorem dX10_comes_52 : decode cX10_comes 52 = .ok (.iconst 0, 1) := by decide +kernel
theorem dX10_comes_53 : decode cX10_comes 53 = .ok (.ireturn, 1) := by decide +kernel
theorem dX10_comes_54 : decode cX10_comes 54 = .ok (.aload_n 0, 1) := by decide +kernel
theorem dX10_comes_55 : decode cX10_comes 55 = .ok (.aload_n 0, 1) := by decide +kernel
theorem dX10_comes_56 : decode cX10_comes 56 = .ok (.getfield 55, 3) := by decide +kernel
theorem dX10_comes_59 : decode cX10_comes 59 = .ok (.iconst 0, 1) := by decide +kernel
theorem dX10_comes_60 : decode cX10_comes 60 = .ok (.iaload, 1) := by decide +kernel
theorem dX10_comes_61 : decode cX10_comes 61 = .ok (.putfield 61, 3) := by decide +kernel
theorem dX10_comes_64 : decode cX10_comes 64 = .ok (.iconst 1, 1) := by decide +kernel
theorem dX10_comes_65 : decode cX10_comes 65 = .ok (.ireturn, 1) := by decide +kernel
theorem dX10_comes_66 : decode cX10_comes 66 = .ok (.aload_n 0, 1) := by decide +kernel
theorem dX10_comes_67 : decode cX10_comes 67 = .ok (.getfield 55, 3) := by decide +kernel
theorem dX10_comes_70 : decode cX10_comes 70 = .ok (.iconst 0, 1) := by decide +kernel
theorem dX10_comes_71 : decode cX10_comes 71 = .ok (.iaload, 1) := by decide +kernel
theorem dX10_comes_72 : decode cX10_comes 72 = .ok (.aload_n 0, 1) := by decide +kernel
theorem dX10_comes_73 : decode cX10_comes 73 = .ok (.getfield 61, 3) := by decide +kernel
theorem dX10_comes_76 : decode cX10_comes 76 = .ok (.if_icmp .ge 40, 3) := by decide +kernel
theorem dX10_comes_79 : decode cX10_comes 79 = .ok (.aload_n 0, 1) := by decide +kernel
theorem dX10_comes_80 : decode cX10_comes 80 = .ok (.getfield 55, 3) := by decide +kernel
theorem dX10_comes_83 : decode cX10_comes 83 = .ok (.iconst 1, 1) := by decide +kernel
theorem dX10_comes_84 : decode cX10_comes 84 = .ok (.iaload, 1) := by decide +kernel
theorem dX10_comes_85 : decode cX10_comes 85 = .ok (.aload_n 0, 1) := by decide +kernel
theorem dX10_comes_86 : decode cX10_comes 86 = .ok (.getfield 61, 3) := by decide +kernel
theorem dX10_comes_89 : decode cX10_comes 89 = .ok (.if_icmp .ge 27, 3) := by decide +kernel
theorem dX10_comes_92 : decode cX10_comes 92 = .ok (.aload_n 0, 1) := by decide +kernel
theorem dX10_comes_93 : decode cX10_comes 93 = .ok (.getfield 55, 3) := by decide +kernel
theorem dX10_comes_96 : decode cX10_comes 96 = .ok (.iconst 0, 1) := by decide +kernel
theorem dX10_comes_97 : decode cX10_comes 97 = .ok (.iaload, 1) := by decide +kernel
theorem dX10_comes_98 : decode cX10_comes 98 = .ok (.aload_n 0, 1) := by decide +kernel
theorem dX10_comes_99 : decode cX10_comes 99 = .ok (.getfield 55, 3) := by decide +kernel
theorem dX10_comes_102 : decode cX10_comes 102 = .ok (.iconst 1, 1) := by decide +kernel
theorem dX10_comes_103 : decode cX10_comes 103 = .ok (.iaload, 1) := by decide +kernel
theorem dX10_comes_104 : decode cX10_comes 104 = .ok (.if_icmp .eq 12, 3) := by decide +kernel
theorem dX10_comes_107 : decode cX10_comes 107 = .ok (.aload_n 0, 1) := by decide +kernel
theorem dX10_comes_108 : decode cX10_comes 108 = .ok (.getfield 65, 3) := by decide +kernel
theorem dX10_comes_111 : decode cX10_comes 111 = .ok (.bipush 10, 2) := by decide +kernel
theorem dX10_comes_113 : decode cX10_comes 113 = .ok (.if_icmp .ne 5, 3) := by decide +kernel
theorem dX10_comes_116 : decode cX10_comes 116 = .ok (.iconst 0, 1) := by decide +kernel
theorem dX10_comes_117 : decode cX10_comes 117 = .ok (.ireturn, 1) := by decide +kernel
theorem dX10_comes_118 : decode cX10_comes 118 = .ok (.aload_n 0, 1) := by decide +kernel
theorem dX10_comes_119 : decode cX10_comes 119 = .ok (.aload_n 0, 1) := by decide +kernel
theorem dX10_comes_120 : decode cX10_comes 120 = .ok (.getfield 55, 3) := by decide +kernel
theorem dX10_comes_123 : decode cX10_comes 123 = .ok (.iconst 0, 1) := by decide +kernel
theorem dX10_comes_124 : decode cX10_comes 124 = .ok (.iaload, 1) := by decide +kernel
theorem dX10_comes_125 : decode cX10_comes 125 = .ok (.aload_n 0, 1) := by decide +kernel
theorem dX10_comes_126 : decode cX10_comes 126 = .ok (.getfield 55, 3) := by decide +kernel
theorem dX10_comes_129 : decode cX10_comes 129 = .ok (.iconst 1, 1) := by decide +kernel
theorem dX10_comes_130 : decode cX10_comes 130 = .ok (.iaload, 1) := by decide +kernel
theorem dX10_comes_131 : decode cX10_comes 131 = .ok (.bipush 7, 2) := by decide +kernel
theorem dX10_comes_133 : decode cX10_comes 133 = .ok (.aload_n 0, 1) := by decide +kernel
theorem dX10_comes_134 : decode cX10_comes 134 = .ok (.getfield 55, 3) := by decide +kernel
theorem dX10_comes_137 : decode cX10_comes 137 = .ok (.iconst 2, 1) := by decide +kernel
theorem dX10_comes_138 : decode cX10_comes 138 = .ok (.iaload, 1) := by decide +kernel
theorem dX10_comes_139 : decode cX10_comes 139 = .ok (.iconst 0, 1) := by decide +kernel
theorem dX10_comes_140 : decode cX10_comes 140 = .ok (.iconst 0, 1) := by decide +kernel
theorem dX10_comes_141 : decode cX10_comes 141 = .ok (.iconst 0, 1) := by decide +kernel
theorem dX10_comes_142 : decode cX10_comes 142 = .ok (.invokevirtual 109, 3) := by decide +kernel
theorem dX10_comes_145 : decode cX10_comes 145 = .ok (.iconst 1, 1) := by decide +kernel
theorem dX10_comes_146 : decode cX10_comes 146 = .ok (.ireturn, 1) := by decide +kernel
theorem dX10_comes_147 : decode cX10_comes 147 = .ok (.aload_n 0, 1) := by decide +kernel
theorem dX10_comes_148 : decode cX10_comes 148 = .ok (.getfield 55, 3) := by decide +kernel
theorem dX10_comes_151 : decode cX10_comes 151 = .ok (.iconst 0, 1) := by decide +kernel
theorem dX10_comes_152 : decode cX10_comes 152 = .ok (.iaload, 1) := by decide +kernel
theorem dX10_comes_153 : decode cX10_comes 153 = .ok (.aload_n 0, 1) := by decide +kernel
theorem dX10_comes_154 : decode cX10_comes 154 = .ok (.getfield 61, 3) := by decide +kernel
theorem dX10_comes_157 : decode cX10_comes 157 = .ok (.if_icmp .ge 22, 3) := by decide +kernel
theorem dX10_comes_160 : decode cX10_comes 160 = .ok (.aload_n 0, 1) := by decide +kernel
theorem dX10_comes_161 : decode cX10_comes 161 = .ok (.getfield 55, 3) := by decide +kernel
theorem dX10_comes_164 : decode cX10_comes 164 = .ok (.iconst 4, 1) := by decide +kernel
theorem dX10_comes_165 : decode cX10_comes 165 = .ok (.iaload, 1) := by decide +kernel
theorem dX10_comes_166 : decode cX10_comes 166 = .ok (.iconst 3, 1) := by decide +kernel
theorem dX10_comes_167 : decode cX10_comes 167 = .ok (.if_icmp .gt 12, 3) := by decide +kernel
theorem dX10_comes_170 : decode cX10_comes 170 = .ok (.aload_n 0, 1) := by decide +kernel
theorem dX10_comes_171 : decode cX10_comes 171 = .ok (.getfield 65, 3) := by decide +kernel
theorem dX10_comes_174 : decode cX10_comes 174 = .ok (.bipush 10, 2) := by decide +kernel
theorem dX10_comes_176 : decode cX10_comes 176 = .ok (.if_icmp .ne 5, 3) := by decide +kernel
theorem dX10_comes_179 : decode cX10_comes 179 = .ok (.iconst 0, 1) := by decide +kernel
theorem dX10_comes_180 : decode cX10_comes 180 = .ok (.ireturn, 1) := by decide +kernel
theorem dX10_comes_181 : decode cX10_comes 181 = .ok (.aload_n 0, 1) := by decide +kernel
theorem dX10_comes_182 : decode cX10_comes 182 = .ok (.aload_n 0, 1) := by decide +kernel
theorem dX10_comes_183 : decode cX10_comes 183 = .ok (.getfield 55, 3) := by decide +kernel
theorem dX10_comes_186 : decode cX10_comes 186 = .ok (.iconst 0, 1) := by decide +kernel
theorem dX10_comes_187 : decode cX10_comes 187 = .ok (.iaload, 1) := by decide +kernel
theorem dX10_comes_188 : decode cX10_comes 188 = .ok (.bipush (-9), 2) := by decide +kernel
theorem dX10_comes_190 : decode cX10_comes 190 = .ok (.aload_n 0, 1) := by decide +kernel
theorem dX10_comes_191 : decode cX10_comes 191 = .ok (.getfield 55, 3) := by decide +kernel
theorem dX10_comes_194 : decode cX10_comes 194 = .ok (.iconst 1, 1) := by decide +kernel
theorem dX10_comes_195 : decode cX10_comes 195 = .ok (.iaload, 1) := by decide +kernel
theorem dX10_comes_196 : decode cX10_comes 196 = .ok (.aload_n 0, 1) := by decide +kernel
theorem dX10_comes_197 : decode cX10_comes 197 = .ok (.getfield 55, 3) := by decide +kernel
theorem dX10_comes_200 : decode cX10_comes 200 = .ok (.iconst 2, 1) := by decide +kernel
theorem dX10_comes_201 : decode cX10_comes 201 = .ok (.iaload, 1) := by decide +kernel
theorem dX10_comes_202 : decode cX10_comes 202 = .ok (.aload_n 0, 1) := by decide +kernel
theorem dX10_comes_203 : decode cX10_comes 203 = .ok (.getfield 55, 3) := by decide +kernel
theorem dX10_comes_206 : decode cX10_comes 206 = .ok (.iconst 3, 1) := by decide +kernel
theorem dX10_comes_207 : decode cX10_comes 207 = .ok (.iaload, 1) := by decide +kernel
theorem dX10_comes_208 : decode cX10_comes 208 = .ok (.aload_n 0, 1) := by decide +kernel
theorem dX10_comes_209 : decode cX10_comes 209 = .ok (.getfield 55, 3) := by decide +kernel
theorem dX10_comes_212 : decode cX10_comes 212 = .ok (.iconst 4, 1) := by decide +kernel
theorem dX10_comes_213 : decode cX10_comes 213 = .ok (.iaload, 1) := by decide +kernel
theorem dX10_comes_214 : decode cX10_comes 214 = .ok (.aload_n 0, 1) := by decide +kernel
theorem dX10_comes_215 : decode cX10_comes 215 = .ok (.getfield 55, 3) := by decide +kernel
theorem dX10_comes_218 : decode cX10_comes 218 = .ok (.iconst 5, 1) := by decide +kernel
theorem dX10_comes_219 : decode cX10_comes 219 = .ok (.iaload, 1) := by decide +kernel
theorem dX10_comes_220 : decode cX10_comes 220 = .ok (.invokevirtual 109, 3) := by decide +kernel
theorem dX10_comes_223 : decode cX10_comes 223 = .ok (.iconst 1, 1) := by decide +kernel
theorem dX10_comes_224 : decode cX10_comes 224 = .ok (.ireturn, 1) := by decide +kernel
theorem dX10_comes_225 : decode cX10_comes 225 = .ok (.aload_n 0, 1) := by decide +kernel
theorem dX10_comes_226 : decode cX10_comes 226 = .ok (.getfield 55, 3) := by decide +kernel
theorem dX10_comes_229 : decode cX10_comes 229 = .ok (.iconst 0, 1) := by decide +kernel
theorem dX10_comes_230 : decode cX10_comes 230 = .ok (.iaload, 1) := by decide +kernel
theorem dX10_comes_231 : decode cX10_comes 231 = .ok (.bipush 40, 2) := by decide +kernel
theorem dX10_comes_233 : decode cX10_comes 233 = .ok (.if_icmp .gt 32, 3) := by decide +kernel
theorem dX10_comes_236 : decode cX10_comes 236 = .ok (.aload_n 0, 1) := by decide +kernel
theorem dX10_comes_237 : decode cX10_comes 237 = .ok (.getfield 55, 3) := by decide +kernel
theorem dX10_comes_240 : decode cX10_comes 240 = .ok (.iconst 1, 1) := by decide +kernel
theorem dX10_comes_241 : decode cX10_comes 241 = .ok (.iaload, 1) := by decide +kernel
theorem dX10_comes_242 : decode cX10_comes 242 = .ok (.bipush 20, 2) := by decide +kernel
theorem dX10_comes_244 : decode cX10_comes 244 = .ok (.if_icmp .gt 21, 3) := by decide +kernel
theorem dX10_comes_247 : decode cX10_comes 247 = .ok (.aload_n 0, 1) := by decide +kernel
theorem dX10_comes_248 : decode cX10_comes 248 = .ok (.getfield 55, 3) := by decide +kernel
theorem dX10_comes_251 : decode cX10_comes 251 = .ok (.iconst 2, 1) := by decide +kernel
theorem dX10_comes_252 : decode cX10_comes 252 = .ok (.iaload, 1) := by decide +kernel
theorem dX10_comes_253 : decode cX10_comes 253 = .ok (.iconst 3, 1) := by decide +kernel
theorem dX10_comes_254 : decode cX10_comes 254 = .ok (.if_icmp .gt 11, 3) := by decide +kernel
theorem dX10_comes_257 : decode cX10_comes 257 = .ok (.aload_n 0, 1) := by decide +kernel
theorem dX10_comes_258 : decode cX10_comes 258 = .ok (.getfield 113, 3) := by decide +kernel
theorem dX10_comes_261 : decode cX10_comes 261 = .ok (.iconst 4, 1) := by decide +kernel
theorem dX10_comes_262 : decode cX10_comes 262 = .ok (.if_icmp .ne 5, 3) := by decide +kernel
theorem dX10_comes_265 : decode cX10_comes 265 = .ok (.iconst 0, 1) := by decide +kernel
theorem dX10_comes_266 : decode cX10_comes 266 = .ok (.ireturn, 1) := by decide +kernel
theorem dX10_comes_267 : decode cX10_comes 267 = .ok (.iconst 0, 1) := by decide +kernel
theorem dX10_comes_268 : decode cX10_comes 268 = .ok (.istore_n 2, 1) := by decide +kernel
theorem dX10_comes_269 : decode cX10_comes 269 = .ok (.iload_n 2, 1) := by decide +kernel
theorem dX10_comes_270 : decode cX10_comes 270 = .ok (.iconst 3, 1) := by decide +kernel
theorem dX10_comes_271 : decode cX10_comes 271 = .ok (.if_icmp .ge 28, 3) := by decide +kernel
theorem dX10_comes_274 : decode cX10_comes 274 = .ok (.aload_n 0, 1) := by decide +kernel
theorem dX10_comes_275 : decode cX10_comes 275 = .ok (.getfield 34, 3) := by decide +kernel
theorem dX10_comes_278 : decode cX10_comes 278 = .ok (.iconst 3, 1) := by decide +kernel
theorem dX10_comes_279 : decode cX10_comes 279 = .ok (.aload_n 0, 1) := by decide +kernel
theorem dX10_comes_280 : decode cX10_comes 280 = .ok (.getfield 113, 3) := by decide +kernel
theorem dX10_comes_283 : decode cX10_comes 283 = .ok (.imul, 1) := by decide +kernel
theorem dX10_comes_284 : decode cX10_comes 284 = .ok (.iload_n 2, 1) := by decide +kernel
theorem dX10_comes_285 : decode cX10_comes 285 = .ok (.iadd, 1) := by decide +kernel
theorem dX10_comes_286 : decode cX10_comes 286 = .ok (.aload_n 0, 1) := by decide +kernel
theorem dX10_comes_287 : decode cX10_comes 287 = .ok (.getfield 55, 3) := by decide +kernel
theorem dX10_comes_290 : decode cX10_comes 290 = .ok (.iload_n 2, 1) := by decide +kernel
theorem dX10_comes_291 : decode cX10_comes 291 = .ok (.iaload, 1) := by decide +kernel
theorem dX10_comes_292 : decode cX10_comes 292 = .ok (.iastore, 1) := by decide +kernel
theorem dX10_comes_293 : decode cX10_comes 293 = .ok (.iinc 2 1, 3) := by decide +kernel
theorem dX10_comes_296 : decode cX10_comes 296 = .ok (.goto (-27), 3) := by decide +kernel
theorem dX10_comes_299 : decode cX10_comes 299 = .ok (.aload_n 0, 1) := by decide +kernel
theorem dX10_comes_300 : decode cX10_comes 300 = .ok (.dup, 1) := by decide +kernel
theorem dX10_comes_301 : decode cX10_comes 301 = .ok (.getfield 113, 3) := by decide +kernel
theorem dX10_comes_304 : decode cX10_comes 304 = .ok (.iconst 1, 1) := by decide +kernel
theorem dX10_comes_305 : decode cX10_comes 305 = .ok (.iadd, 1) := by decide +kernel
theorem dX10_comes_306 : decode cX10_comes 306 = .ok (.putfield 113, 3) := by decide +kernel
theorem dX10_comes_309 : decode cX10_comes 309 = .ok (.iconst 1, 1) := by decide +kernel
theorem dX10_comes_310 : decode cX10_comes 310 = .ok (.ireturn, 1) := by decide +kernel
theorem dX10_put_0 : decode cX10_put 0 = .ok (.aload_n 0, 1) := by decide +kernel
theorem dX10_put_1 : decode cX10_put 1 = .ok (.getfield 13, 3) := by decide +kernel
theorem dX10_put_4 : decode cX10_put 4 = .ok (.aload_n 0, 1) := by decide +kernel
theorem dX10_put_5 : decode cX10_put 5 = .ok (.getfield 65, 3) := by decide +kernel
theorem dX10_put_8 : decode cX10_put 8 = .ok (.iload_n 1, 1) := by decide +kernel
theorem dX10_put_9 : decode cX10_put 9 = .ok (.iastore, 1) := by decide +kernel
theorem dX10_put_10 : decode cX10_put 10 = .ok (.aload_n 0, 1) := by decide +kernel
theorem dX10_put_11 : decode cX10_put 11 = .ok (.getfield 16, 3) := by decide +kernel
theorem dX10_put_14 : decode cX10_put 14 = .ok (.aload_n 0, 1) := by decide +kernel
theorem dX10_put_15 : decode cX10_put 15 = .ok (.getfield 65, 3) := by decide +kernel
theorem dX10_put_18 : decode cX10_put 18 = .ok (.iload_n 2, 1) := by decide +kernel
theorem dX10_put_19 : decode cX10_put 19 = .ok (.iastore, 1) := by decide +kernel
theorem dX10_put_20 : decode cX10_put 20 = .ok (.aload_n 0, 1) := by decide +kernel
theorem dX10_put_21 : decode cX10_put 21 = .ok (.getfield 19, 3) := by decide +kernel
theorem dX10_put_24 : decode cX10_put 24 = .ok (.aload_n 0, 1) := by decide +kernel
theorem dX10_put_25 : decode cX10_put 25 = .ok (.getfield 65, 3) := by decide +kernel
theorem dX10_put_28 : decode cX10_put 28 = .ok (.iload_n 3, 1) := by decide +kernel
theorem dX10_put_29 : decode cX10_put 29 = .ok (.iastore, 1) := by decide +kernel
theorem dX10_put_30 : decode cX10_put 30 = .ok (.aload_n 0, 1) := by decide +kernel
theorem dX10_put_31 : decode cX10_put 31 = .ok (.getfield 22, 3) := by decide +kernel
theorem dX10_put_34 : decode cX10_put 34 = .ok (.aload_n 0, 1) := by decide +kernel
theorem dX10_put_35 : decode cX10_put 35 = .ok (.getfield 65, 3) := by decide +kernel
theorem dX10_put_38 : decode cX10_put 38 = .ok (.iload 4, 2) := by decide +kernel
theorem dX10_put_40 : decode cX10_put 40 = .ok (.iastore, 1) := by decide +kernel
theorem dX10_put_41 : decode cX10_put 41 = .ok (.aload_n 0, 1) := by decide +kernel
theorem dX10_put_42 : decode cX10_put 42 = .ok (.getfield 25, 3) := by decide +kernel
theorem dX10_put_45 : decode cX10_put 45 = .ok (.aload_n 0, 1) := by decide +kernel
theorem dX10_put_46 : decode cX10_put 46 = .ok (.getfield 65, 3) := by decide +kernel
theorem dX10_put_49 : decode cX10_put 49 = .ok (.iload 5, 2) := by decide +kernel
theorem dX10_put_51 : decode cX10_put 51 = .ok (.iastore, 1) := by decide +kernel
theorem dX10_put_52 : decode cX10_put 52 = .ok (.aload_n 0, 1) := by decide +kernel
theorem dX10_put_53 : decode cX10_put 53 = .ok (.getfield 28, 3) := by decide +kernel
theorem dX10_put_56 : decode cX10_put 56 = .ok (.aload_n 0, 1) := by decide +kernel
theorem dX10_put_57 : decode cX10_put 57 = .ok (.getfield 65, 3) := by decide +kernel
theorem dX10_put_60 : decode cX10_put 60 = .ok (.iload 6, 2) := by decide +kernel
theorem dX10_put_62 : decode cX10_put 62 = .ok (.iastore, 1) := by decide +kernel
theorem dX10_put_63 : decode cX10_put 63 = .ok (.aload_n 0, 1) := by decide +kernel
theorem dX10_put_64 : decode cX10_put 64 = .ok (.getfield 31, 3) := by decide +kernel
theorem dX10_put_67 : decode cX10_put 67 = .ok (.aload_n 0, 1) := by decide +kernel
theorem dX10_put_68 : decode cX10_put 68 = .ok (.getfield 65, 3) := by decide +kernel
theorem dX10_put_71 : decode cX10_put 71 = .ok (.iload 7, 2) := by decide +kernel
theorem dX10_put_73 : decode cX10_put 73 = .ok (.iastore, 1) := by decide +kernel
theorem dX10_put_74 : decode cX10_put 74 = .ok (.aload_n 0, 1) := by decide +kernel
theorem dX10_put_75 : decode cX10_put 75 = .ok (.dup, 1) := by decide +kernel
theorem dX10_put_76 : decode cX10_put 76 = .ok (.getfield 65, 3) := by decide +kernel
theorem dX10_put_79 : decode cX10_put 79 = .ok (.iconst 1, 1) := by decide +kernel
theorem dX10_put_80 : decode cX10_put 80 = .ok (.iadd, 1) := by decide +kernel
theorem dX10_put_81 : decode cX10_put 81 = .ok (.putfield 65, 3) := by decide +kernel
theorem dX10_put_84 : decode cX10_put 84 = .ok (.return_, 1) := by decide +kernel
theorem dX10_house_0 : decode cX10_house 0 = .ok (.aload_n 0, 1) := by decide +kernel
theorem dX10_house_1 : decode cX10_house 1 = .ok (.getfield 72, 3) := by decide +kernel
theorem dX10_house_4 : decode cX10_house 4 = .ok (.istore_n 1, 1) := by decide +kernel
theorem dX10_house_5 : decode cX10_house 5 = .ok (.aload_n 0, 1) := by decide +kernel
theorem dX10_house_6 : decode cX10_house 6 = .ok (.iconst 0, 1) := by decide +kernel
theorem dX10_house_7 : decode cX10_house 7 = .ok (.putfield 75, 3) := by decide +kernel
theorem dX10_house_10 : decode cX10_house 10 = .ok (.iconst 1, 1) := by decide +kernel
theorem dX10_house_11 : decode cX10_house 11 = .ok (.istore_n 2, 1) := by decide +kernel
theorem dX10_house_12 : decode cX10_house 12 = .ok (.iload_n 2, 1) := by decide +kernel
theorem dX10_house_13 : decode cX10_house 13 = .ok (.ifCond .eq 34, 3) := by decide +kernel
theorem dX10_house_16 : decode cX10_house 16 = .ok (.aload_n 0, 1) := by decide +kernel
theorem dX10_house_17 : decode cX10_house 17 = .ok (.getfield 75, 3) := by decide +kernel
theorem dX10_house_20 : decode cX10_house 20 = .ok (.ifCond .eq 11, 3) := by decide +kernel
theorem dX10_house_23 : decode cX10_house 23 = .ok (.aload_n 0, 1) := by decide +kernel
theorem dX10_house_24 : decode cX10_house 24 = .ok (.getfield 75, 3) := by decide +kernel
theorem dX10_house_27 : decode cX10_house 27 = .ok (.iload_n 1, 1) := by decide +kernel
theorem dX10_house_28 : decode cX10_house 28 = .ok (.if_icmp .ge 19, 3) := by decide +kernel
theorem dX10_house_31 : decode cX10_house 31 = .ok (.aload_n 0, 1) := by decide +kernel
theorem dX10_house_32 : decode cX10_house 32 = .ok (.invokevirtual 116, 3) := by decide +kernel
theorem dX10_house_35 : decode cX10_house 35 = .ok (.ifCond .lt 7, 3) := by decide +kernel
theorem dX10_house_38 : decode cX10_house 38 = .ok (.iconst 1, 1) := by decide +kernel
theorem dX10_house_39 : decode cX10_house 39 = .ok (.goto 4, 3) := by decide +kernel
theorem dX10_house_42 : decode cX10_house 42 = .ok (.iconst 0, 1) := by decide +kernel
theorem dX10_house_43 : decode cX10_house 43 = .ok (.istore_n 2, 1) := by decide +kernel
theorem dX10_house_44 : decode cX10_house 44 = .ok (.goto (-32), 3) := by decide +kernel
theorem dX10_house_47 : decode cX10_house 47 = .ok (.iload_n 2, 1) := by decide +kernel
theorem dX10_house_48 : decode cX10_house 48 = .ok (.ifCond .ne 17, 3) := by decide +kernel
theorem dX10_house_51 : decode cX10_house 51 = .ok (.aload_n 0, 1) := by decide +kernel
theorem dX10_house_52 : decode cX10_house 52 = .ok (.iconst 0, 1) := by decide +kernel
theorem dX10_house_53 : decode cX10_house 53 = .ok (.putfield 72, 3) := by decide +kernel
theorem dX10_house_56 : decode cX10_house 56 = .ok (.sipush (-1000), 3) := by decide +kernel
theorem dX10_house_59 : decode cX10_house 59 = .ok (.aload_n 0, 1) := by decide +kernel
theorem dX10_house_60 : decode cX10_house 60 = .ok (.getfield 75, 3) := by decide +kernel
theorem dX10_house_63 : decode cX10_house 63 = .ok (.isub, 1) := by decide +kernel
theorem dX10_house_64 : decode cX10_house 64 = .ok (.ireturn, 1) := by decide +kernel
theorem dX10_house_65 : decode cX10_house 65 = .ok (.aload_n 0, 1) := by decide +kernel
theorem dX10_house_66 : decode cX10_house 66 = .ok (.getfield 61, 3) := by decide +kernel
theorem dX10_house_69 : decode cX10_house 69 = .ok (.istore_n 3, 1) := by decide +kernel
theorem dX10_house_70 : decode cX10_house 70 = .ok (.aload_n 0, 1) := by decide +kernel
theorem dX10_house_71 : decode cX10_house 71 = .ok (.getfield 65, 3) := by decide +kernel
theorem dX10_house_74 : decode cX10_house 74 = .ok (.istore 4, 2) := by decide +kernel
theorem dX10_house_76 : decode cX10_house 76 = .ok (.aload_n 0, 1) := by decide +kernel
theorem dX10_house_77 : decode cX10_house 77 = .ok (.getfield 113, 3) := by decide +kernel
theorem dX10_house_80 : decode cX10_house 80 = .ok (.istore 5, 2) := by decide +kernel
theorem dX10_house_82 : decode cX10_house 82 = .ok (.aload_n 0, 1) := by decide +kernel
theorem dX10_house_83 : decode cX10_house 83 = .ok (.iconst 0, 1) := by decide +kernel
theorem dX10_house_84 : decode cX10_house 84 = .ok (.putfield 75, 3) := by decide +kernel
theorem dX10_house_87 : decode cX10_house 87 = .ok (.iconst 0, 1) := by decide +kernel
theorem dX10_house_88 : decode cX10_house 88 = .ok (.istore 6, 2) := by decide +kernel
theorem dX10_house_90 : decode cX10_house 90 = .ok (.aload_n 0, 1) := by decide +kernel
theorem dX10_house_91 : decode cX10_house 91 = .ok (.getfield 75, 3) := by decide +kernel
theorem dX10_house_94 : decode cX10_house 94 = .ok (.iload_n 1, 1) := by decide +kernel
theorem dX10_house_95 : decode cX10_house 95 = .ok (.if_icmp .ge 55, 3) := by decide +kernel
theorem dX10_house_98 : decode cX10_house 98 = .ok (.aload_n 0, 1) := by decide +kernel
theorem dX10_house_99 : decode cX10_house 99 = .ok (.getfield 75, 3) := by decide +kernel
theorem dX10_house_102 : decode cX10_house 102 = .ok (.istore 7, 2) := by decide +kernel
theorem dX10_house_104 : decode cX10_house 104 = .ok (.aload_n 0, 1) := by decide +kernel
theorem dX10_house_105 : decode cX10_house 105 = .ok (.aload_n 0, 1) := by decide +kernel
theorem dX10_house_106 : decode cX10_house 106 = .ok (.invokevirtual 116, 3) := by decide +kernel
theorem dX10_house_109 : decode cX10_house 109 = .ok (.invokevirtual 119, 3) := by decide +kernel
theorem dX10_house_112 : decode cX10_house 112 = .ok (.ifCond .ne 32, 3) := by decide +kernel
theorem dX10_house_115 : decode cX10_house 115 = .ok (.aload_n 0, 1) := by decide +kernel
theorem dX10_house_116 : decode cX10_house 116 = .ok (.iload_n 3, 1) := by decide +kernel
theorem dX10_house_117 : decode cX10_house 117 = .ok (.putfield 61, 3) := by decide +kernel
theorem dX10_house_120 : decode cX10_house 120 = .ok (.aload_n 0, 1) := by decide +kernel
theorem dX10_house_121 : decode cX10_house 121 = .ok (.iload 4, 2) := by decide +kernel
theorem dX10_house_123 : decode cX10_house 123 = .ok (.putfield 65, 3) := by decide +kernel
theorem dX10_house_126 : decode cX10_house 126 = .ok (.aload_n 0, 1) := by decide +kernel
theorem dX10_house_127 : decode cX10_house 127 = .ok (.iload 5, 2) := by decide +kernel
theorem dX10_house_129 : decode cX10_house 129 = .ok (.putfield 113, 3) := by decide +kernel
theorem dX10_house_132 : decode cX10_house 132 = .ok (.aload_n 0, 1) := by decide +kernel
theorem dX10_house_133 : decode cX10_house 133 = .ok (.iconst 0, 1) := by decide +kernel
theorem dX10_house_134 : decode cX10_house 134 = .ok (.putfield 72, 3) := by decide +kernel
theorem dX10_house_137 : decode cX10_house 137 = .ok (.sipush (-2000), 3) := by decide +kernel
theorem dX10_house_140 : decode cX10_house 140 = .ok (.iload 7, 2) := by decide +kernel
theorem dX10_house_142 : decode cX10_house 142 = .ok (.isub, 1) := by decide +kernel
theorem dX10_house_143 : decode cX10_house 143 = .ok (.ireturn, 1) := by decide +kernel
theorem dX10_house_144 : decode cX10_house 144 = .ok (.iinc 6 1, 3) := by decide +kernel
theorem dX10_house_147 : decode cX10_house 147 = .ok (.goto (-57), 3) := by decide +kernel
theorem dX10_house_150 : decode cX10_house 150 = .ok (.aload_n 0, 1) := by decide +kernel
theorem dX10_house_151 : decode cX10_house 151 = .ok (.iconst 0, 1) := by decide +kernel
theorem dX10_house_152 : decode cX10_house 152 = .ok (.putfield 72, 3) := by decide +kernel
theorem dX10_house_155 : decode cX10_house 155 = .ok (.iload 6, 2) := by decide +kernel
theorem dX10_house_157 : decode cX10_house 157 = .ok (.ireturn, 1) := by decide +kernel
theorem dX10_hole_0 : decode cX10_hole 0 = .ok (.aload_n 0, 1) := by decide +kernel
theorem dX10_hole_1 : decode cX10_hole 1 = .ok (.iload_n 1, 1) := by decide +kernel
theorem dX10_hole_2 : decode cX10_hole 2 = .ok (.invokevirtual 122, 3) := by decide +kernel
theorem dX10_hole_5 : decode cX10_hole 5 = .ok (.ifCond .ne 9, 3) := by decide +kernel
theorem dX10_hole_8 : decode cX10_hole 8 = .ok (.aload_n 0, 1) := by decide +kernel
theorem dX10_hole_9 : decode cX10_hole 9 = .ok (.iconst (-1), 1) := by decide +kernel
theorem dX10_hole_10 : decode cX10_hole 10 = .ok (.invokevirtual 68, 3) := by decide +kernel
theorem dX10_hole_13 : decode cX10_hole 13 = .ok (.ireturn, 1) := by decide +kernel
theorem dX10_hole_14 : decode cX10_hole 14 = .ok (.iload_n 2, 1) := by decide +kernel
theorem dX10_hole_15 : decode cX10_hole 15 = .ok (.tableswitch 90 0 6 #[41, 48, 55, 62, 69, 76, 83], 41) := by decide +kernel
theorem dX10_hole_56 : decode cX10_hole 56 = .ok (.aload_n 0, 1) := by decide +kernel
theorem dX10_hole_57 : decode cX10_hole 57 = .ok (.getfield 13, 3) := by decide +kernel
theorem dX10_hole_60 : decode cX10_hole 60 = .ok (.iload_n 1, 1) := by decide +kernel
theorem dX10_hole_61 : decode cX10_hole 61 = .ok (.iaload, 1) := by decide +kernel
theorem dX10_hole_62 : decode cX10_hole 62 = .ok (.ireturn, 1) := by decide +kernel
theorem dX10_hole_63 : decode cX10_hole 63 = .ok (.aload_n 0, 1) := by decide +kernel
theorem dX10_hole_64 : decode cX10_hole 64 = .ok (.getfield 16, 3) := by decide +kernel
theorem dX10_hole_67 : decode cX10_hole 67 = .ok (.iload_n 1, 1) := by decide +kernel
theorem dX10_hole_68 : decode cX10_hole 68 = .ok (.iaload, 1) := by decide +kernel
theorem dX10_hole_69 : decode cX10_hole 69 = .ok (.ireturn, 1) := by decide +kernel
theorem dX10_hole_70 : decode cX10_hole 70 = .ok (.aload_n 0, 1) := by decide +kernel
theorem dX10_hole_71 : decode cX10_hole 71 = .ok (.getfield 19, 3) := by decide +kernel
theorem dX10_hole_74 : decode cX10_hole 74 = .ok (.iload_n 1, 1) := by decide +kernel
theorem dX10_hole_75 : decode cX10_hole 75 = .ok (.iaload, 1) := by decide +kernel
theorem dX10_hole_76 : decode cX10_hole 76 = .ok (.ireturn, 1) := by decide +kernel
theorem dX10_hole_77 : decode cX10_hole 77 = .ok (.aload_n 0, 1) := by decide +kernel
theorem dX10_hole_78 : decode cX10_hole 78 = .ok (.getfield 22, 3) := by decide +kernel
theorem dX10_hole_81 : decode cX10_hole 81 = .ok (.iload_n 1, 1) := by decide +kernel
theorem dX10_hole_82 : decode cX10_hole 82 = .ok (.iaload, 1) := by decide +kernel
theorem dX10_hole_83 : decode cX10_hole 83 = .ok (.ireturn, 1) := by decide +kernel
theorem dX10_hole_84 : decode cX10_hole 84 = .ok (.aload_n 0, 1) := by decide +kernel
theorem dX10_hole_85 : decode cX10_hole 85 = .ok (.getfield 25, 3) := by decide +kernel
theorem dX10_hole_88 : decode cX10_hole 88 = .ok (.iload_n 1, 1) := by decide +kernel
theorem dX10_hole_89 : decode cX10_hole 89 = .ok (.iaload, 1) := by decide +kernel
theorem dX10_hole_90 : decode cX10_hole 90 = .ok (.ireturn, 1) := by decide +kernel
theorem dX10_hole_91 : decode cX10_hole 91 = .ok (.aload_n 0, 1) := by decide +kernel
theorem dX10_hole_92 : decode cX10_hole 92 = .ok (.getfield 28, 3) := by decide +kernel
theorem dX10_hole_95 : decode cX10_hole 95 = .ok (.iload_n 1, 1) := by decide +kernel
theorem dX10_hole_96 : decode cX10_hole 96 = .ok (.iaload, 1) := by decide +kernel
theorem dX10_hole_97 : decode cX10_hole 97 = .ok (.ireturn, 1) := by decide +kernel
theorem dX10_hole_98 : decode cX10_hole 98 = .ok (.aload_n 0, 1) := by decide +kernel
theorem dX10_hole_99 : decode cX10_hole 99 = .ok (.getfield 31, 3) := by decide +kernel
theorem dX10_hole_102 : decode cX10_hole 102 = .ok (.iload_n 1, 1) := by decide +kernel
theorem dX10_hole_103 : decode cX10_hole 103 = .ok (.iaload, 1) := by decide +kernel
theorem dX10_hole_104 : decode cX10_hole 104 = .ok (.ireturn, 1) := by decide +kernel
theorem dX10_hole_105 : decode cX10_hole 105 = .ok (.aload_n 0, 1) := by decide +kernel
theorem dX10_hole_106 : decode cX10_hole 106 = .ok (.bipush (-2), 2) := by decide +kernel
theorem dX10_hole_108 : decode cX10_hole 108 = .ok (.invokevirtual 68, 3) := by decide +kernel
theorem dX10_hole_111 : decode cX10_hole 111 = .ok (.ireturn, 1) := by decide +kernel
theorem dX10_weather_0 : decode cX10_weather 0 = .ok (.iload_n 1, 1) := by decide +kernel
theorem dX10_weather_1 : decode cX10_weather 1 = .ok (.ifCond .lt 11, 3) := by decide +kernel
theorem dX10_weather_4 : decode cX10_weather 4 = .ok (.iload_n 1, 1) := by decide +kernel
theorem dX10_weather_5 : decode cX10_weather 5 = .ok (.aload_n 0, 1) := by decide +kernel
theorem dX10_weather_6 : decode cX10_weather 6 = .ok (.getfield 113, 3) := by decide +kernel
theorem dX10_weather_9 : decode cX10_weather 9 = .ok (.if_icmp .lt 9, 3) := by decide +kernel
theorem dX10_weather_12 : decode cX10_weather 12 = .ok (.aload_n 0, 1) := by decide +kernel
theorem dX10_weather_13 : decode cX10_weather 13 = .ok (.iconst (-1), 1) := by decide +kernel
theorem dX10_weather_14 : decode cX10_weather 14 = .ok (.invokevirtual 68, 3) := by decide +kernel
theorem dX10_weather_17 : decode cX10_weather 17 = .ok (.ireturn, 1) := by decide +kernel
theorem dX10_weather_18 : decode cX10_weather 18 = .ok (.iload_n 2, 1) := by decide +kernel
theorem dX10_weather_19 : decode cX10_weather 19 = .ok (.ifCond .lt 8, 3) := by decide +kernel
theorem dX10_weather_22 : decode cX10_weather 22 = .ok (.iload_n 2, 1) := by decide +kernel
theorem dX10_weather_23 : decode cX10_weather 23 = .ok (.iconst 2, 1) := by decide +kernel
theorem dX10_weather_24 : decode cX10_weather 24 = .ok (.if_icmp .le 12, 3) := by decide +kernel
theorem dX10_weather_27 : decode cX10_weather 27 = .ok (.aload_n 0, 1) := by decide +kernel
theorem dX10_weather_28 : decode cX10_weather 28 = .ok (.bipush (-2), 2) := by decide +kernel
theorem dX10_weather_30 : decode cX10_weather 30 = .ok (.invokevirtual 68, 3) := by decide +kernel
theorem dX10_weather_33 : decode cX10_weather 33 = .ok (.goto 13, 3) := by decide +kernel
theorem dX10_weather_36 : decode cX10_weather 36 = .ok (.aload_n 0, 1) := by decide +kernel
theorem dX10_weather_37 : decode cX10_weather 37 = .ok (.getfield 34, 3) := by decide +kernel
theorem dX10_weather_40 : decode cX10_weather 40 = .ok (.iconst 3, 1) := by decide +kernel
theorem dX10_weather_41 : decode cX10_weather 41 = .ok (.iload_n 1, 1) := by decide +kernel
theorem dX10_weather_42 : decode cX10_weather 42 = .ok (.imul, 1) := by decide +kernel
theorem dX10_weather_43 : decode cX10_weather 43 = .ok (.iload_n 2, 1) := by decide +kernel
theorem dX10_weather_44 : decode cX10_weather 44 = .ok (.iadd, 1) := by decide +kernel
theorem dX10_weather_45 : decode cX10_weather 45 = .ok (.iaload, 1) := by decide +kernel
theorem dX10_weather_46 : decode cX10_weather 46 = .ok (.ireturn, 1) := by decide +kernel
theorem dX10_set_0 : decode cX10_set 0 = .ok (.iload_n 1, 1) := by decide +kernel
theorem dX10_set_1 : decode cX10_set 1 = .ok (.ifCond .lt 8, 3) := by decide +kernel
theorem dX10_set_4 : decode cX10_set 4 = .ok (.iload_n 1, 1) := by decide +kernel
theorem dX10_set_5 : decode cX10_set 5 = .ok (.iconst 2, 1) := by decide +kernel
theorem dX10_set_6 : decode cX10_set 6 = .ok (.if_icmp .le 10, 3) := by decide +kernel
theorem dX10_set_9 : decode cX10_set 9 = .ok (.aload_n 0, 1) := by decide +kernel
theorem dX10_set_10 : decode cX10_set 10 = .ok (.bipush (-2), 2) := by decide +kernel
theorem dX10_set_12 : decode cX10_set 12 = .ok (.invokevirtual 68, 3) := by decide +kernel
theorem dX10_set_15 : decode cX10_set 15 = .ok (.ireturn, 1) := by decide +kernel
theorem dX10_set_16 : decode cX10_set 16 = .ok (.iload_n 2, 1) := by decide +kernel
theorem dX10_set_17 : decode cX10_set 17 = .ok (.ifCond .ge 10, 3) := by decide +kernel
theorem dX10_set_20 : decode cX10_set 20 = .ok (.aload_n 0, 1) := by decide +kernel
theorem dX10_set_21 : decode cX10_set 21 = .ok (.bipush (-4), 2) := by decide +kernel
theorem dX10_set_23 : decode cX10_set 23 = .ok (.invokevirtual 68, 3) := by decide +kernel
theorem dX10_set_26 : decode cX10_set 26 = .ok (.ireturn, 1) := by decide +kernel
theorem dX10_set_27 : decode cX10_set 27 = .ok (.iload_n 2, 1) := by decide +kernel
theorem dX10_set_28 : decode cX10_set 28 = .ok (.iload_n 1, 1) := by decide +kernel
theorem dX10_set_29 : decode cX10_set 29 = .ok (.ifCond .ne 8, 3) := by decide +kernel
theorem dX10_set_32 : decode cX10_set 32 = .ok (.bipush 40, 2) := by decide +kernel
theorem dX10_set_34 : decode cX10_set 34 = .ok (.goto 14, 3) := by decide +kernel
theorem dX10_set_37 : decode cX10_set 37 = .ok (.iload_n 1, 1) := by decide +kernel
theorem dX10_set_38 : decode cX10_set 38 = .ok (.iconst 1, 1) := by decide +kernel
theorem dX10_set_39 : decode cX10_set 39 = .ok (.if_icmp .ne 8, 3) := by decide +kernel
theorem dX10_set_42 : decode cX10_set 42 = .ok (.bipush 20, 2) := by decide +kernel
theorem dX10_set_44 : decode cX10_set 44 = .ok (.goto 4, 3) := by decide +kernel
theorem dX10_set_47 : decode cX10_set 47 = .ok (.iconst 3, 1) := by decide +kernel
theorem dX10_set_48 : decode cX10_set 48 = .ok (.if_icmp .le 10, 3) := by decide +kernel
theorem dX10_set_51 : decode cX10_set 51 = .ok (.aload_n 0, 1) := by decide +kernel
theorem dX10_set_52 : decode cX10_set 52 = .ok (.bipush (-6), 2) := by decide +kernel
theorem dX10_set_54 : decode cX10_set 54 = .ok (.invokevirtual 68, 3) := by decide +kernel
theorem dX10_set_57 : decode cX10_set 57 = .ok (.ireturn, 1) := by decide +kernel
theorem dX10_set_58 : decode cX10_set 58 = .ok (.aload_n 0, 1) := by decide +kernel
theorem dX10_set_59 : decode cX10_set 59 = .ok (.getfield 37, 3) := by decide +kernel
theorem dX10_set_62 : decode cX10_set 62 = .ok (.iload_n 1, 1) := by decide +kernel
theorem dX10_set_63 : decode cX10_set 63 = .ok (.iaload, 1) := by decide +kernel
theorem dX10_set_64 : decode cX10_set 64 = .ok (.istore_n 3, 1) := by decide +kernel
theorem dX10_set_65 : decode cX10_set 65 = .ok (.aload_n 0, 1) := by decide +kernel
theorem dX10_set_66 : decode cX10_set 66 = .ok (.getfield 37, 3) := by decide +kernel
theorem dX10_set_69 : decode cX10_set 69 = .ok (.iload_n 1, 1) := by decide +kernel
theorem dX10_set_70 : decode cX10_set 70 = .ok (.iload_n 2, 1) := by decide +kernel
theorem dX10_set_71 : decode cX10_set 71 = .ok (.iastore, 1) := by decide +kernel
theorem dX10_set_72 : decode cX10_set 72 = .ok (.iload_n 3, 1) := by decide +kernel
theorem dX10_set_73 : decode cX10_set 73 = .ok (.ireturn, 1) := by decide +kernel
theorem dX10_fan_0 : decode cX10_fan 0 = .ok (.iload_n 1, 1) := by decide +kernel
theorem dX10_fan_1 : decode cX10_fan 1 = .ok (.bipush (-50), 2) := by decide +kernel
theorem dX10_fan_3 : decode cX10_fan 3 = .ok (.if_icmp .ge 10, 3) := by decide +kernel
theorem dX10_fan_6 : decode cX10_fan 6 = .ok (.aload_n 0, 1) := by decide +kernel
theorem dX10_fan_7 : decode cX10_fan 7 = .ok (.bipush (-4), 2) := by decide +kernel
theorem dX10_fan_9 : decode cX10_fan 9 = .ok (.invokevirtual 68, 3) := by decide +kernel
theorem dX10_fan_12 : decode cX10_fan 12 = .ok (.ireturn, 1) := by decide +kernel
theorem dX10_fan_13 : decode cX10_fan 13 = .ok (.iload_n 1, 1) := by decide +kernel
theorem dX10_fan_14 : decode cX10_fan 14 = .ok (.bipush 50, 2) := by decide +kernel
theorem dX10_fan_16 : decode cX10_fan 16 = .ok (.if_icmp .le 10, 3) := by decide +kernel
theorem dX10_fan_19 : decode cX10_fan 19 = .ok (.aload_n 0, 1) := by decide +kernel
theorem dX10_fan_20 : decode cX10_fan 20 = .ok (.bipush (-6), 2) := by decide +kernel
theorem dX10_fan_22 : decode cX10_fan 22 = .ok (.invokevirtual 68, 3) := by decide +kernel
theorem dX10_fan_25 : decode cX10_fan 25 = .ok (.ireturn, 1) := by decide +kernel
theorem dX10_fan_26 : decode cX10_fan 26 = .ok (.aload_n 0, 1) := by decide +kernel
theorem dX10_fan_27 : decode cX10_fan 27 = .ok (.iload_n 1, 1) := by decide +kernel
theorem dX10_fan_28 : decode cX10_fan 28 = .ok (.putfield 125, 3) := by decide +kernel
theorem dX10_fan_31 : decode cX10_fan 31 = .ok (.iload_n 1, 1) := by decide +kernel
theorem dX10_fan_32 : decode cX10_fan 32 = .ok (.bipush 50, 2) := by decide +kernel
theorem dX10_fan_34 : decode cX10_fan 34 = .ok (.iadd, 1) := by decide +kernel
theorem dX10_fan_35 : decode cX10_fan 35 = .ok (.ireturn, 1) := by decide +kernel
theorem dX10_now_0 : decode cX10_now 0 = .ok (.iload_n 1, 1) := by decide +kernel
theorem dX10_now_1 : decode cX10_now 1 = .ok (.ifCond .lt 8, 3) := by decide +kernel
theorem dX10_now_4 : decode cX10_now 4 = .ok (.iload_n 1, 1) := by decide +kernel
theorem dX10_now_5 : decode cX10_now 5 = .ok (.iconst 3, 1) := by decide +kernel
theorem dX10_now_6 : decode cX10_now 6 = .ok (.if_icmp .le 13, 3) := by decide +kernel
theorem dX10_now_9 : decode cX10_now 9 = .ok (.ldc 128, 2) := by decide +kernel
theorem dX10_now_11 : decode cX10_now 11 = .ok (.aload_n 0, 1) := by decide +kernel
theorem dX10_now_12 : decode cX10_now 12 = .ok (.bipush (-2), 2) := by decide +kernel
theorem dX10_now_14 : decode cX10_now 14 = .ok (.invokevirtual 68, 3) := by decide +kernel
theorem dX10_now_17 : decode cX10_now 17 = .ok (.isub, 1) := by decide +kernel
theorem dX10_now_18 : decode cX10_now 18 = .ok (.ireturn, 1) := by decide +kernel
theorem dX10_now_19 : decode cX10_now 19 = .ok (.iload_n 1, 1) := by decide +kernel
theorem dX10_now_20 : decode cX10_now 20 = .ok (.iconst 3, 1) := by decide +kernel
theorem dX10_now_21 : decode cX10_now 21 = .ok (.if_icmp .ge 12, 3) := by decide +kernel
theorem dX10_now_24 : decode cX10_now 24 = .ok (.aload_n 0, 1) := by decide +kernel
theorem dX10_now_25 : decode cX10_now 25 = .ok (.getfield 37, 3) := by decide +kernel
theorem dX10_now_28 : decode cX10_now 28 = .ok (.iload_n 1, 1) := by decide +kernel
theorem dX10_now_29 : decode cX10_now 29 = .ok (.iaload, 1) := by decide +kernel
theorem dX10_now_30 : decode cX10_now 30 = .ok (.goto 7, 3) := by decide +kernel
theorem dX10_now_33 : decode cX10_now 33 = .ok (.aload_n 0, 1) := by decide +kernel
theorem dX10_now_34 : decode cX10_now 34 = .ok (.getfield 125, 3) := by decide +kernel
theorem dX10_now_37 : decode cX10_now 37 = .ok (.ireturn, 1) := by decide +kernel
theorem dX10_size_0 : decode cX10_size 0 = .ok (.aload_n 0, 1) := by decide +kernel
theorem dX10_size_1 : decode cX10_size 1 = .ok (.iload_n 1, 1) := by decide +kernel
theorem dX10_size_2 : decode cX10_size 2 = .ok (.invokevirtual 122, 3) := by decide +kernel
theorem dX10_size_5 : decode cX10_size 5 = .ok (.ifCond .ne 9, 3) := by decide +kernel
theorem dX10_size_8 : decode cX10_size 8 = .ok (.aload_n 0, 1) := by decide +kernel
theorem dX10_size_9 : decode cX10_size 9 = .ok (.iconst (-1), 1) := by decide +kernel
theorem dX10_size_10 : decode cX10_size 10 = .ok (.invokevirtual 68, 3) := by decide +kernel
theorem dX10_size_13 : decode cX10_size 13 = .ok (.ireturn, 1) := by decide +kernel
theorem dX10_size_14 : decode cX10_size 14 = .ok (.iload_n 2, 1) := by decide +kernel
theorem dX10_size_15 : decode cX10_size 15 = .ok (.ifCond .ge 10, 3) := by decide +kernel
theorem dX10_size_18 : decode cX10_size 18 = .ok (.aload_n 0, 1) := by decide +kernel
theorem dX10_size_19 : decode cX10_size 19 = .ok (.bipush (-4), 2) := by decide +kernel
theorem dX10_size_21 : decode cX10_size 21 = .ok (.invokevirtual 68, 3) := by decide +kernel
theorem dX10_size_24 : decode cX10_size 24 = .ok (.ireturn, 1) := by decide +kernel
theorem dX10_size_25 : decode cX10_size 25 = .ok (.iload_n 2, 1) := by decide +kernel
theorem dX10_size_26 : decode cX10_size 26 = .ok (.bipush 9, 2) := by decide +kernel
theorem dX10_size_28 : decode cX10_size 28 = .ok (.if_icmp .le 10, 3) := by decide +kernel
theorem dX10_size_31 : decode cX10_size 31 = .ok (.aload_n 0, 1) := by decide +kernel
theorem dX10_size_32 : decode cX10_size 32 = .ok (.bipush (-6), 2) := by decide +kernel
theorem dX10_size_34 : decode cX10_size 34 = .ok (.invokevirtual 68, 3) := by decide +kernel
theorem dX10_size_37 : decode cX10_size 37 = .ok (.ireturn, 1) := by decide +kernel
theorem dX10_size_38 : decode cX10_size 38 = .ok (.aload_n 0, 1) := by decide +kernel
theorem dX10_size_39 : decode cX10_size 39 = .ok (.getfield 22, 3) := by decide +kernel
theorem dX10_size_42 : decode cX10_size 42 = .ok (.iload_n 1, 1) := by decide +kernel
theorem dX10_size_43 : decode cX10_size 43 = .ok (.iaload, 1) := by decide +kernel
theorem dX10_size_44 : decode cX10_size 44 = .ok (.istore_n 3, 1) := by decide +kernel
theorem dX10_size_45 : decode cX10_size 45 = .ok (.aload_n 0, 1) := by decide +kernel
theorem dX10_size_46 : decode cX10_size 46 = .ok (.getfield 22, 3) := by decide +kernel
theorem dX10_size_49 : decode cX10_size 49 = .ok (.iload_n 1, 1) := by decide +kernel
theorem dX10_size_50 : decode cX10_size 50 = .ok (.iload_n 2, 1) := by decide +kernel
theorem dX10_size_51 : decode cX10_size 51 = .ok (.iastore, 1) := by decide +kernel
theorem dX10_size_52 : decode cX10_size 52 = .ok (.iload_n 3, 1) := by decide +kernel
theorem dX10_size_53 : decode cX10_size 53 = .ok (.ireturn, 1) := by decide +kernel
theorem dX10_outsidePush_0 : decode cX10_outsidePush 0 = .ok (.aload_n 0, 1) := by decide +kernel
theorem dX10_outsidePush_1 : decode cX10_outsidePush 1 = .ok (.getfield 37, 3) := by decide +kernel
theorem dX10_outsidePush_4 : decode cX10_outsidePush 4 = .ok (.iconst 0, 1) := by decide +kernel
theorem dX10_outsidePush_5 : decode cX10_outsidePush 5 = .ok (.iaload, 1) := by decide +kernel
theorem dX10_outsidePush_6 : decode cX10_outsidePush 6 = .ok (.istore_n 2, 1) := by decide +kernel
theorem dX10_outsidePush_7 : decode cX10_outsidePush 7 = .ok (.aload_n 0, 1) := by decide +kernel
theorem dX10_outsidePush_8 : decode cX10_outsidePush 8 = .ok (.getfield 37, 3) := by decide +kernel
theorem dX10_outsidePush_11 : decode cX10_outsidePush 11 = .ok (.iconst 1, 1) := by decide +kernel
theorem dX10_outsidePush_12 : decode cX10_outsidePush 12 = .ok (.iaload, 1) := by decide +kernel
theorem dX10_outsidePush_13 : decode cX10_outsidePush 13 = .ok (.aload_n 0, 1) := by decide +kernel
theorem dX10_outsidePush_14 : decode cX10_outsidePush 14 = .ok (.getfield 37, 3) := by decide +kernel
theorem dX10_outsidePush_17 : decode cX10_outsidePush 17 = .ok (.iconst 1, 1) := by decide +kernel
theorem dX10_outsidePush_18 : decode cX10_outsidePush 18 = .ok (.iaload, 1) := by decide +kernel
theorem dX10_outsidePush_19 : decode cX10_outsidePush 19 = .ok (.imul, 1) := by decide +kernel
theorem dX10_outsidePush_20 : decode cX10_outsidePush 20 = .ok (.istore_n 3, 1) := by decide +kernel
theorem dX10_outsidePush_21 : decode cX10_outsidePush 21 = .ok (.aload_n 0, 1) := by decide +kernel
theorem dX10_outsidePush_22 : decode cX10_outsidePush 22 = .ok (.getfield 28, 3) := by decide +kernel
theorem dX10_outsidePush_25 : decode cX10_outsidePush 25 = .ok (.iload_n 1, 1) := by decide +kernel
theorem dX10_outsidePush_26 : decode cX10_outsidePush 26 = .ok (.iaload, 1) := by decide +kernel
theorem dX10_outsidePush_27 : decode cX10_outsidePush 27 = .ok (.aload_n 0, 1) := by decide +kernel
theorem dX10_outsidePush_28 : decode cX10_outsidePush 28 = .ok (.getfield 37, 3) := by decide +kernel
theorem dX10_outsidePush_31 : decode cX10_outsidePush 31 = .ok (.iconst 2, 1) := by decide +kernel
theorem dX10_outsidePush_32 : decode cX10_outsidePush 32 = .ok (.iaload, 1) := by decide +kernel
theorem dX10_outsidePush_33 : decode cX10_outsidePush 33 = .ok (.if_icmp .ne 7, 3) := by decide +kernel
theorem dX10_outsidePush_36 : decode cX10_outsidePush 36 = .ok (.iload_n 3, 1) := by decide +kernel
theorem dX10_outsidePush_37 : decode cX10_outsidePush 37 = .ok (.goto 30, 3) := by decide +kernel
theorem dX10_outsidePush_40 : decode cX10_outsidePush 40 = .ok (.aload_n 0, 1) := by decide +kernel
theorem dX10_outsidePush_41 : decode cX10_outsidePush 41 = .ok (.getfield 28, 3) := by decide +kernel
theorem dX10_outsidePush_44 : decode cX10_outsidePush 44 = .ok (.iload_n 1, 1) := by decide +kernel
theorem dX10_outsidePush_45 : decode cX10_outsidePush 45 = .ok (.iaload, 1) := by decide +kernel
theorem dX10_outsidePush_46 : decode cX10_outsidePush 46 = .ok (.aload_n 0, 1) := by decide +kernel
theorem dX10_outsidePush_47 : decode cX10_outsidePush 47 = .ok (.getfield 37, 3) := by decide +kernel
theorem dX10_outsidePush_50 : decode cX10_outsidePush 50 = .ok (.iconst 2, 1) := by decide +kernel
theorem dX10_outsidePush_51 : decode cX10_outsidePush 51 = .ok (.iaload, 1) := by decide +kernel
theorem dX10_outsidePush_52 : decode cX10_outsidePush 52 = .ok (.iconst 2, 1) := by decide +kernel
theorem dX10_outsidePush_53 : decode cX10_outsidePush 53 = .ok (.iadd, 1) := by decide +kernel
theorem dX10_outsidePush_54 : decode cX10_outsidePush 54 = .ok (.iconst 4, 1) := by decide +kernel
theorem dX10_outsidePush_55 : decode cX10_outsidePush 55 = .ok (.irem, 1) := by decide +kernel
theorem dX10_outsidePush_56 : decode cX10_outsidePush 56 = .ok (.if_icmp .ne 10, 3) := by decide +kernel
theorem dX10_outsidePush_59 : decode cX10_outsidePush 59 = .ok (.iload_n 3, 1) := by decide +kernel
theorem dX10_outsidePush_60 : decode cX10_outsidePush 60 = .ok (.iconst 2, 1) := by decide +kernel
theorem dX10_outsidePush_61 : decode cX10_outsidePush 61 = .ok (.idiv, 1) := by decide +kernel
theorem dX10_outsidePush_62 : decode cX10_outsidePush 62 = .ok (.ineg, 1) := by decide +kernel
theorem dX10_outsidePush_63 : decode cX10_outsidePush 63 = .ok (.goto 4, 3) := by decide +kernel
theorem dX10_outsidePush_66 : decode cX10_outsidePush 66 = .ok (.iconst 0, 1) := by decide +kernel
theorem dX10_outsidePush_67 : decode cX10_outsidePush 67 = .ok (.istore 4, 2) := by decide +kernel
theorem dX10_outsidePush_69 : decode cX10_outsidePush 69 = .ok (.iload_n 2, 1) := by decide +kernel
theorem dX10_outsidePush_70 : decode cX10_outsidePush 70 = .ok (.iconst 5, 1) := by decide +kernel
theorem dX10_outsidePush_71 : decode cX10_outsidePush 71 = .ok (.aload_n 0, 1) := by decide +kernel
theorem dX10_outsidePush_72 : decode cX10_outsidePush 72 = .ok (.getfield 25, 3) := by decide +kernel
theorem dX10_outsidePush_75 : decode cX10_outsidePush 75 = .ok (.iload_n 1, 1) := by decide +kernel
theorem dX10_outsidePush_76 : decode cX10_outsidePush 76 = .ok (.iaload, 1) := by decide +kernel
theorem dX10_outsidePush_77 : decode cX10_outsidePush 77 = .ok (.isub, 1) := by decide +kernel
theorem dX10_outsidePush_78 : decode cX10_outsidePush 78 = .ok (.imul, 1) := by decide +kernel
theorem dX10_outsidePush_79 : decode cX10_outsidePush 79 = .ok (.iload 4, 2) := by decide +kernel
theorem dX10_outsidePush_81 : decode cX10_outsidePush 81 = .ok (.iadd, 1) := by decide +kernel
theorem dX10_outsidePush_82 : decode cX10_outsidePush 82 = .ok (.istore 5, 2) := by decide +kernel
theorem dX10_outsidePush_84 : decode cX10_outsidePush 84 = .ok (.aload_n 0, 1) := by decide +kernel
theorem dX10_outsidePush_85 : decode cX10_outsidePush 85 = .ok (.getfield 19, 3) := by decide +kernel
theorem dX10_outsidePush_88 : decode cX10_outsidePush 88 = .ok (.iload_n 1, 1) := by decide +kernel
theorem dX10_outsidePush_89 : decode cX10_outsidePush 89 = .ok (.iaload, 1) := by decide +kernel
theorem dX10_outsidePush_90 : decode cX10_outsidePush 90 = .ok (.tableswitch 97 1 6 #[38, 43, 48, 54, 70, 78], 38) := by decide +kernel
theorem dX10_outsidePush_128 : decode cX10_outsidePush 128 = .ok (.iload 5, 2) := by decide +kernel
theorem dX10_outsidePush_130 : decode cX10_outsidePush 130 = .ok (.iload_n 2, 1) := by decide +kernel
theorem dX10_outsidePush_131 : decode cX10_outsidePush 131 = .ok (.iadd, 1) := by decide +kernel
theorem dX10_outsidePush_132 : decode cX10_outsidePush 132 = .ok (.ireturn, 1) := by decide +kernel
theorem dX10_outsidePush_133 : decode cX10_outsidePush 133 = .ok (.iload 5, 2) := by decide +kernel
theorem dX10_outsidePush_135 : decode cX10_outsidePush 135 = .ok (.iload_n 2, 1) := by decide +kernel
theorem dX10_outsidePush_136 : decode cX10_outsidePush 136 = .ok (.isub, 1) := by decide +kernel
theorem dX10_outsidePush_137 : decode cX10_outsidePush 137 = .ok (.ireturn, 1) := by decide +kernel
theorem dX10_outsidePush_138 : decode cX10_outsidePush 138 = .ok (.iload 5, 2) := by decide +kernel
theorem dX10_outsidePush_140 : decode cX10_outsidePush 140 = .ok (.iload 4, 2) := by decide +kernel
theorem dX10_outsidePush_142 : decode cX10_outsidePush 142 = .ok (.iadd, 1) := by decide +kernel
theorem dX10_outsidePush_143 : decode cX10_outsidePush 143 = .ok (.ireturn, 1) := by decide +kernel
theorem dX10_outsidePush_144 : decode cX10_outsidePush 144 = .ok (.iload 5, 2) := by decide +kernel
theorem dX10_outsidePush_146 : decode cX10_outsidePush 146 = .ok (.iconst 4, 1) := by decide +kernel
theorem dX10_outsidePush_147 : decode cX10_outsidePush 147 = .ok (.iload_n 2, 1) := by decide +kernel
theorem dX10_outsidePush_148 : decode cX10_outsidePush 148 = .ok (.imul, 1) := by decide +kernel
theorem dX10_outsidePush_149 : decode cX10_outsidePush 149 = .ok (.isub, 1) := by decide +kernel
theorem dX10_outsidePush_150 : decode cX10_outsidePush 150 = .ok (.iconst 2, 1) := by decide +kernel
theorem dX10_outsidePush_151 : decode cX10_outsidePush 151 = .ok (.aload_n 0, 1) := by decide +kernel
theorem dX10_outsidePush_152 : decode cX10_outsidePush 152 = .ok (.getfield 37, 3) := by decide +kernel
theorem dX10_outsidePush_155 : decode cX10_outsidePush 155 = .ok (.iconst 1, 1) := by decide +kernel
theorem dX10_outsidePush_156 : decode cX10_outsidePush 156 = .ok (.iaload, 1) := by decide +kernel
theorem dX10_outsidePush_157 : decode cX10_outsidePush 157 = .ok (.imul, 1) := by decide +kernel
theorem dX10_outsidePush_158 : decode cX10_outsidePush 158 = .ok (.isub, 1) := by decide +kernel
theorem dX10_outsidePush_159 : decode cX10_outsidePush 159 = .ok (.ireturn, 1) := by decide +kernel
theorem dX10_outsidePush_160 : decode cX10_outsidePush 160 = .ok (.iload 5, 2) := by decide +kernel
theorem dX10_outsidePush_162 : decode cX10_outsidePush 162 = .ok (.aload_n 0, 1) := by decide +kernel
theorem dX10_outsidePush_163 : decode cX10_outsidePush 163 = .ok (.getfield 125, 3) := by decide +kernel
theorem dX10_outsidePush_166 : decode cX10_outsidePush 166 = .ok (.iadd, 1) := by decide +kernel
theorem dX10_outsidePush_167 : decode cX10_outsidePush 167 = .ok (.ireturn, 1) := by decide +kernel
theorem dX10_outsidePush_168 : decode cX10_outsidePush 168 = .ok (.iload 5, 2) := by decide +kernel
theorem dX10_outsidePush_170 : decode cX10_outsidePush 170 = .ok (.iconst 4, 1) := by decide +kernel
theorem dX10_outsidePush_171 : decode cX10_outsidePush 171 = .ok (.iload_n 2, 1) := by decide +kernel
theorem dX10_outsidePush_172 : decode cX10_outsidePush 172 = .ok (.imul, 1) := by decide +kernel
theorem dX10_outsidePush_173 : decode cX10_outsidePush 173 = .ok (.isub, 1) := by decide +kernel
theorem dX10_outsidePush_174 : decode cX10_outsidePush 174 = .ok (.iconst 2, 1) := by decide +kernel
theorem dX10_outsidePush_175 : decode cX10_outsidePush 175 = .ok (.aload_n 0, 1) := by decide +kernel
theorem dX10_outsidePush_176 : decode cX10_outsidePush 176 = .ok (.getfield 37, 3) := by decide +kernel
theorem dX10_outsidePush_179 : decode cX10_outsidePush 179 = .ok (.iconst 1, 1) := by decide +kernel
theorem dX10_outsidePush_180 : decode cX10_outsidePush 180 = .ok (.iaload, 1) := by decide +kernel
theorem dX10_outsidePush_181 : decode cX10_outsidePush 181 = .ok (.imul, 1) := by decide +kernel
theorem dX10_outsidePush_182 : decode cX10_outsidePush 182 = .ok (.isub, 1) := by decide +kernel
theorem dX10_outsidePush_183 : decode cX10_outsidePush 183 = .ok (.bipush 20, 2) := by decide +kernel
theorem dX10_outsidePush_185 : decode cX10_outsidePush 185 = .ok (.isub, 1) := by decide +kernel
theorem dX10_outsidePush_186 : decode cX10_outsidePush 186 = .ok (.ireturn, 1) := by decide +kernel
theorem dX10_outsidePush_187 : decode cX10_outsidePush 187 = .ok (.iload 5, 2) := by decide +kernel
theorem dX10_outsidePush_189 : decode cX10_outsidePush 189 = .ok (.ireturn, 1) := by decide +kernel
theorem dX10_root_0 : decode cX10_root 0 = .ok (.iload_n 1, 1) := by decide +kernel
theorem dX10_root_1 : decode cX10_root 1 = .ok (.sipush 4096, 3) := by decide +kernel
theorem dX10_root_4 : decode cX10_root 4 = .ok (.if_icmp .ge 10, 3) := by decide +kernel
theorem dX10_root_7 : decode cX10_root 7 = .ok (.aload_n 0, 1) := by decide +kernel
theorem dX10_root_8 : decode cX10_root 8 = .ok (.getfield 52, 3) := by decide +kernel
theorem dX10_root_11 : decode cX10_root 11 = .ok (.iload_n 1, 1) := by decide +kernel
theorem dX10_root_12 : decode cX10_root 12 = .ok (.iaload, 1) := by decide +kernel
theorem dX10_root_13 : decode cX10_root 13 = .ok (.ireturn, 1) := by decide +kernel
theorem dX10_root_14 : decode cX10_root 14 = .ok (.bipush 63, 2) := by decide +kernel
theorem dX10_root_16 : decode cX10_root 16 = .ok (.istore_n 2, 1) := by decide +kernel
theorem dX10_root_17 : decode cX10_root 17 = .ok (.iload_n 2, 1) := by decide +kernel
theorem dX10_root_18 : decode cX10_root 18 = .ok (.iconst 1, 1) := by decide +kernel
theorem dX10_root_19 : decode cX10_root 19 = .ok (.iadd, 1) := by decide +kernel
theorem dX10_root_20 : decode cX10_root 20 = .ok (.iload_n 2, 1) := by decide +kernel
theorem dX10_root_21 : decode cX10_root 21 = .ok (.iconst 1, 1) := by decide +kernel
theorem dX10_root_22 : decode cX10_root 22 = .ok (.iadd, 1) := by decide +kernel
theorem dX10_root_23 : decode cX10_root 23 = .ok (.imul, 1) := by decide +kernel
theorem dX10_root_24 : decode cX10_root 24 = .ok (.iload_n 1, 1) := by decide +kernel
theorem dX10_root_25 : decode cX10_root 25 = .ok (.if_icmp .gt 9, 3) := by decide +kernel
theorem dX10_root_28 : decode cX10_root 28 = .ok (.iinc 2 1, 3) := by decide +kernel
theorem dX10_root_31 : decode cX10_root 31 = .ok (.goto (-14), 3) := by decide +kernel
theorem dX10_root_34 : decode cX10_root 34 = .ok (.iload_n 2, 1) := by decide +kernel
theorem dX10_root_35 : decode cX10_root 35 = .ok (.ireturn, 1) := by decide +kernel
theorem dX10_flows_0 : decode cX10_flows 0 = .ok (.aload_n 0, 1) := by decide +kernel
theorem dX10_flows_1 : decode cX10_flows 1 = .ok (.iload_n 1, 1) := by decide +kernel
theorem dX10_flows_2 : decode cX10_flows 2 = .ok (.invokevirtual 129, 3) := by decide +kernel
theorem dX10_flows_5 : decode cX10_flows 5 = .ok (.ifCond .eq 17, 3) := by decide +kernel
theorem dX10_flows_8 : decode cX10_flows 8 = .ok (.aload_n 0, 1) := by decide +kernel
theorem dX10_flows_9 : decode cX10_flows 9 = .ok (.getfield 46, 3) := by decide +kernel
theorem dX10_flows_12 : decode cX10_flows 12 = .ok (.aload_n 0, 1) := by decide +kernel
theorem dX10_flows_13 : decode cX10_flows 13 = .ok (.getfield 13, 3) := by decide +kernel
theorem dX10_flows_16 : decode cX10_flows 16 = .ok (.iload_n 1, 1) := by decide +kernel
theorem dX10_flows_17 : decode cX10_flows 17 = .ok (.iaload, 1) := by decide +kernel
theorem dX10_flows_18 : decode cX10_flows 18 = .ok (.iaload, 1) := by decide +kernel
theorem dX10_flows_19 : decode cX10_flows 19 = .ok (.goto 9, 3) := by decide +kernel
theorem dX10_flows_22 : decode cX10_flows 22 = .ok (.aload_n 0, 1) := by decide +kernel
theorem dX10_flows_23 : decode cX10_flows 23 = .ok (.getfield 49, 3) := by decide +kernel
theorem dX10_flows_26 : decode cX10_flows 26 = .ok (.iload_n 1, 1) := by decide +kernel
theorem dX10_flows_27 : decode cX10_flows 27 = .ok (.iaload, 1) := by decide +kernel
theorem dX10_flows_28 : decode cX10_flows 28 = .ok (.istore_n 2, 1) := by decide +kernel
theorem dX10_flows_29 : decode cX10_flows 29 = .ok (.aload_n 0, 1) := by decide +kernel
theorem dX10_flows_30 : decode cX10_flows 30 = .ok (.getfield 46, 3) := by decide +kernel
theorem dX10_flows_33 : decode cX10_flows 33 = .ok (.aload_n 0, 1) := by decide +kernel
theorem dX10_flows_34 : decode cX10_flows 34 = .ok (.iload_n 1, 1) := by decide +kernel
theorem dX10_flows_35 : decode cX10_flows 35 = .ok (.invokevirtual 129, 3) := by decide +kernel
theorem dX10_flows_38 : decode cX10_flows 38 = .ok (.ifCond .eq 12, 3) := by decide +kernel
theorem dX10_flows_41 : decode cX10_flows 41 = .ok (.aload_n 0, 1) := by decide +kernel
theorem dX10_flows_42 : decode cX10_flows 42 = .ok (.getfield 16, 3) := by decide +kernel
theorem dX10_flows_45 : decode cX10_flows 45 = .ok (.iload_n 1, 1) := by decide +kernel
theorem dX10_flows_46 : decode cX10_flows 46 = .ok (.iaload, 1) := by decide +kernel
theorem dX10_flows_47 : decode cX10_flows 47 = .ok (.goto 9, 3) := by decide +kernel
theorem dX10_flows_50 : decode cX10_flows 50 = .ok (.aload_n 0, 1) := by decide +kernel
theorem dX10_flows_51 : decode cX10_flows 51 = .ok (.getfield 13, 3) := by decide +kernel
theorem dX10_flows_54 : decode cX10_flows 54 = .ok (.iload_n 1, 1) := by decide +kernel
theorem dX10_flows_55 : decode cX10_flows 55 = .ok (.iaload, 1) := by decide +kernel
theorem dX10_flows_56 : decode cX10_flows 56 = .ok (.iaload, 1) := by decide +kernel
theorem dX10_flows_57 : decode cX10_flows 57 = .ok (.istore_n 3, 1) := by decide +kernel
theorem dX10_flows_58 : decode cX10_flows 58 = .ok (.aload_n 0, 1) := by decide +kernel
theorem dX10_flows_59 : decode cX10_flows 59 = .ok (.getfield 22, 3) := by decide +kernel
theorem dX10_flows_62 : decode cX10_flows 62 = .ok (.iload_n 1, 1) := by decide +kernel
theorem dX10_flows_63 : decode cX10_flows 63 = .ok (.iaload, 1) := by decide +kernel
theorem dX10_flows_64 : decode cX10_flows 64 = .ok (.aload_n 0, 1) := by decide +kernel
theorem dX10_flows_65 : decode cX10_flows 65 = .ok (.iload_n 2, 1) := by decide +kernel
theorem dX10_flows_66 : decode cX10_flows 66 = .ok (.iload_n 3, 1) := by decide +kernel
theorem dX10_flows_67 : decode cX10_flows 67 = .ok (.isub, 1) := by decide +kernel
theorem dX10_flows_68 : decode cX10_flows 68 = .ok (.invokestatic 132, 3) := by decide +kernel
theorem dX10_flows_71 : decode cX10_flows 71 = .ok (.invokevirtual 135, 3) := by decide +kernel
theorem dX10_flows_74 : decode cX10_flows 74 = .ok (.imul, 1) := by decide +kernel
theorem dX10_flows_75 : decode cX10_flows 75 = .ok (.istore 4, 2) := by decide +kernel
theorem dX10_flows_77 : decode cX10_flows 77 = .ok (.iload_n 2, 1) := by decide +kernel
theorem dX10_flows_78 : decode cX10_flows 78 = .ok (.iload_n 3, 1) := by decide +kernel
theorem dX10_flows_79 : decode cX10_flows 79 = .ok (.if_icmp .ge 9, 3) := by decide +kernel
theorem dX10_flows_82 : decode cX10_flows 82 = .ok (.iload 4, 2) := by decide +kernel
theorem dX10_flows_84 : decode cX10_flows 84 = .ok (.ineg, 1) := by decide +kernel
theorem dX10_flows_85 : decode cX10_flows 85 = .ok (.goto 5, 3) := by decide +kernel
theorem dX10_flows_88 : decode cX10_flows 88 = .ok (.iload 4, 2) := by decide +kernel
theorem dX10_flows_90 : decode cX10_flows 90 = .ok (.ireturn, 1) := by decide +kernel
theorem dX10_settle_0 : decode cX10_settle 0 = .ok (.iconst 0, 1) := by decide +kernel
theorem dX10_settle_1 : decode cX10_settle 1 = .ok (.istore_n 1, 1) := by decide +kernel
theorem dX10_settle_2 : decode cX10_settle 2 = .ok (.iload_n 1, 1) := by decide +kernel
theorem dX10_settle_3 : decode cX10_settle 3 = .ok (.aload_n 0, 1) := by decide +kernel
theorem dX10_settle_4 : decode cX10_settle 4 = .ok (.getfield 65, 3) := by decide +kernel
theorem dX10_settle_7 : decode cX10_settle 7 = .ok (.if_icmp .ge 32, 3) := by decide +kernel
theorem dX10_settle_10 : decode cX10_settle 10 = .ok (.aload_n 0, 1) := by decide +kernel
theorem dX10_settle_11 : decode cX10_settle 11 = .ok (.getfield 49, 3) := by decide +kernel
theorem dX10_settle_14 : decode cX10_settle 14 = .ok (.iload_n 1, 1) := by decide +kernel
theorem dX10_settle_15 : decode cX10_settle 15 = .ok (.aload_n 0, 1) := by decide +kernel
theorem dX10_settle_16 : decode cX10_settle 16 = .ok (.iload_n 1, 1) := by decide +kernel
theorem dX10_settle_17 : decode cX10_settle 17 = .ok (.invokevirtual 129, 3) := by decide +kernel
theorem dX10_settle_20 : decode cX10_settle 20 = .ok (.ifCond .eq 7, 3) := by decide +kernel
theorem dX10_settle_23 : decode cX10_settle 23 = .ok (.iconst 0, 1) := by decide +kernel
theorem dX10_settle_24 : decode cX10_settle 24 = .ok (.goto 8, 3) := by decide +kernel
theorem dX10_settle_27 : decode cX10_settle 27 = .ok (.aload_n 0, 1) := by decide +kernel
theorem dX10_settle_28 : decode cX10_settle 28 = .ok (.iload_n 1, 1) := by decide +kernel
theorem dX10_settle_29 : decode cX10_settle 29 = .ok (.invokevirtual 138, 3) := by decide +kernel
theorem dX10_settle_32 : decode cX10_settle 32 = .ok (.iastore, 1) := by decide +kernel
theorem dX10_settle_33 : decode cX10_settle 33 = .ok (.iinc 1 1, 3) := by decide +kernel
theorem dX10_settle_36 : decode cX10_settle 36 = .ok (.goto (-34), 3) := by decide +kernel
theorem dX10_settle_39 : decode cX10_settle 39 = .ok (.iconst 0, 1) := by decide +kernel
theorem dX10_settle_40 : decode cX10_settle 40 = .ok (.istore_n 1, 1) := by decide +kernel
theorem dX10_settle_41 : decode cX10_settle 41 = .ok (.iload_n 1, 1) := by decide +kernel
theorem dX10_settle_42 : decode cX10_settle 42 = .ok (.bipush 6, 2) := by decide +kernel
theorem dX10_settle_44 : decode cX10_settle 44 = .ok (.if_icmp .ge 16, 3) := by decide +kernel
theorem dX10_settle_47 : decode cX10_settle 47 = .ok (.aload_n 0, 1) := by decide +kernel
theorem dX10_settle_48 : decode cX10_settle 48 = .ok (.getfield 46, 3) := by decide +kernel
theorem dX10_settle_51 : decode cX10_settle 51 = .ok (.iload_n 1, 1) := by decide +kernel
theorem dX10_settle_52 : decode cX10_settle 52 = .ok (.iconst 0, 1) := by decide +kernel
theorem dX10_settle_53 : decode cX10_settle 53 = .ok (.iastore, 1) := by decide +kernel
theorem dX10_settle_54 : decode cX10_settle 54 = .ok (.iinc 1 1, 3) := by decide +kernel
theorem dX10_settle_57 : decode cX10_settle 57 = .ok (.goto (-16), 3) := by decide +kernel
theorem dX10_settle_60 : decode cX10_settle 60 = .ok (.iconst 0, 1) := by decide +kernel
theorem dX10_settle_61 : decode cX10_settle 61 = .ok (.istore_n 1, 1) := by decide +kernel
theorem dX10_settle_62 : decode cX10_settle 62 = .ok (.iload_n 1, 1) := by decide +kernel
theorem dX10_settle_63 : decode cX10_settle 63 = .ok (.sipush 200, 3) := by decide +kernel
theorem dX10_settle_66 : decode cX10_settle 66 = .ok (.if_icmp .ge 158, 3) := by decide +kernel
theorem dX10_settle_69 : decode cX10_settle 69 = .ok (.iconst 1, 1) := by decide +kernel
theorem dX10_settle_70 : decode cX10_settle 70 = .ok (.istore_n 2, 1) := by decide +kernel
theorem dX10_settle_71 : decode cX10_settle 71 = .ok (.iconst 0, 1) := by decide +kernel
theorem dX10_settle_72 : decode cX10_settle 72 = .ok (.istore_n 3, 1) := by decide +kernel
theorem dX10_settle_73 : decode cX10_settle 73 = .ok (.iload_n 3, 1) := by decide +kernel
theorem dX10_settle_74 : decode cX10_settle 74 = .ok (.aload_n 0, 1) := by decide +kernel
theorem dX10_settle_75 : decode cX10_settle 75 = .ok (.getfield 61, 3) := by decide +kernel
theorem dX10_settle_78 : decode cX10_settle 78 = .ok (.if_icmp .ge 135, 3) := by decide +kernel
theorem dX10_settle_81 : decode cX10_settle 81 = .ok (.iconst 0, 1) := by decide +kernel
theorem dX10_settle_82 : decode cX10_settle 82 = .ok (.istore 4, 2) := by decide +kernel
theorem dX10_settle_84 : decode cX10_settle 84 = .ok (.iconst 0, 1) := by decide +kernel
theorem dX10_settle_85 : decode cX10_settle 85 = .ok (.istore 5, 2) := by decide +kernel
theorem dX10_settle_87 : decode cX10_settle 87 = .ok (.iload 5, 2) := by decide +kernel
theorem dX10_settle_89 : decode cX10_settle 89 = .ok (.aload_n 0, 1) := by decide +kernel
theorem dX10_settle_90 : decode cX10_settle 90 = .ok (.getfield 65, 3) := by decide +kernel
theorem dX10_settle_93 : decode cX10_settle 93 = .ok (.if_icmp .ge 85, 3) := by decide +kernel
theorem dX10_settle_96 : decode cX10_settle 96 = .ok (.aload_n 0, 1) := by decide +kernel
theorem dX10_settle_97 : decode cX10_settle 97 = .ok (.getfield 22, 3) := by decide +kernel
theorem dX10_settle_100 : decode cX10_settle 100 = .ok (.iload 5, 2) := by decide +kernel
theorem dX10_settle_102 : decode cX10_settle 102 = .ok (.iaload, 1) := by decide +kernel
theorem dX10_settle_103 : decode cX10_settle 103 = .ok (.ifCond .eq 69, 3) := by decide +kernel
theorem dX10_settle_106 : decode cX10_settle 106 = .ok (.aload_n 0, 1) := by decide +kernel
theorem dX10_settle_107 : decode cX10_settle 107 = .ok (.getfield 13, 3) := by decide +kernel
theorem dX10_settle_110 : decode cX10_settle 110 = .ok (.iload 5, 2) := by decide +kernel
theorem dX10_settle_112 : decode cX10_settle 112 = .ok (.iaload, 1) := by decide +kernel
theorem dX10_settle_113 : decode cX10_settle 113 = .ok (.iload_n 3, 1) := by decide +kernel
theorem dX10_settle_114 : decode cX10_settle 114 = .ok (.if_icmp .eq 17, 3) := by decide +kernel
theorem dX10_settle_117 : decode cX10_settle 117 = .ok (.aload_n 0, 1) := by decide +kernel
theorem dX10_settle_118 : decode cX10_settle 118 = .ok (.getfield 16, 3) := by decide +kernel
theorem dX10_settle_121 : decode cX10_settle 121 = .ok (.iload 5, 2) := by decide +kernel
theorem dX10_settle_123 : decode cX10_settle 123 = .ok (.iaload, 1) := by decide +kernel
theorem dX10_settle_124 : decode cX10_settle 124 = .ok (.iload_n 3, 1) := by decide +kernel
theorem dX10_settle_125 : decode cX10_settle 125 = .ok (.if_icmp .eq 6, 3) := by decide +kernel
theorem dX10_settle_128 : decode cX10_settle 128 = .ok (.goto 44, 3) := by decide +kernel
theorem dX10_settle_131 : decode cX10_settle 131 = .ok (.iload 4, 2) := by decide +kernel
theorem dX10_settle_133 : decode cX10_settle 133 = .ok (.aload_n 0, 1) := by decide +kernel
theorem dX10_settle_134 : decode cX10_settle 134 = .ok (.iload 5, 2) := by decide +kernel
theorem dX10_settle_136 : decode cX10_settle 136 = .ok (.invokevirtual 129, 3) := by decide +kernel
theorem dX10_settle_139 : decode cX10_settle 139 = .ok (.ifCond .eq 24, 3) := by decide +kernel
theorem dX10_settle_142 : decode cX10_settle 142 = .ok (.aload_n 0, 1) := by decide +kernel
theorem dX10_settle_143 : decode cX10_settle 143 = .ok (.getfield 13, 3) := by decide +kernel
theorem dX10_settle_146 : decode cX10_settle 146 = .ok (.iload 5, 2) := by decide +kernel
theorem dX10_settle_148 : decode cX10_settle 148 = .ok (.iaload, 1) := by decide +kernel
theorem dX10_settle_149 : decode cX10_settle 149 = .ok (.iload_n 3, 1) := by decide +kernel
theorem dX10_settle_150 : decode cX10_settle 150 = .ok (.if_icmp .ne 13, 3) := by decide +kernel
theorem dX10_settle_153 : decode cX10_settle 153 = .ok (.aload_n 0, 1) := by decide +kernel
theorem dX10_settle_154 : decode cX10_settle 154 = .ok (.iload 5, 2) := by decide +kernel
theorem dX10_settle_156 : decode cX10_settle 156 = .ok (.invokevirtual 141, 3) := by decide +kernel
theorem dX10_settle_159 : decode cX10_settle 159 = .ok (.ineg, 1) := by decide +kernel
theorem dX10_settle_160 : decode cX10_settle 160 = .ok (.goto 9, 3) := by decide +kernel
theorem dX10_settle_163 : decode cX10_settle 163 = .ok (.aload_n 0, 1) := by decide +kernel
theorem dX10_settle_164 : decode cX10_settle 164 = .ok (.iload 5, 2) := by decide +kernel
theorem dX10_settle_166 : decode cX10_settle 166 = .ok (.invokevirtual 141, 3) := by decide +kernel
theorem dX10_settle_169 : decode cX10_settle 169 = .ok (.iadd, 1) := by decide +kernel
theorem dX10_settle_170 : decode cX10_settle 170 = .ok (.istore 4, 2) := by decide +kernel
theorem dX10_settle_172 : decode cX10_settle 172 = .ok (.iinc 5 1, 3) := by decide +kernel
theorem dX10_settle_175 : decode cX10_settle 175 = .ok (.goto (-88), 3) := by decide +kernel
theorem dX10_settle_178 : decode cX10_settle 178 = .ok (.iload 4, 2) := by decide +kernel
theorem dX10_settle_180 : decode cX10_settle 180 = .ok (.ifCond .ne 6, 3) := by decide +kernel
theorem dX10_settle_183 : decode cX10_settle 183 = .ok (.goto 24, 3) := by decide +kernel
theorem dX10_settle_186 : decode cX10_settle 186 = .ok (.aload_n 0, 1) := by decide +kernel
theorem dX10_settle_187 : decode cX10_settle 187 = .ok (.getfield 46, 3) := by decide +kernel
theorem dX10_settle_190 : decode cX10_settle 190 = .ok (.iload_n 3, 1) := by decide +kernel
theorem dX10_settle_191 : decode cX10_settle 191 = .ok (.dup2, 1) := by decide +kernel
theorem dX10_settle_192 : decode cX10_settle 192 = .ok (.iaload, 1) := by decide +kernel
theorem dX10_settle_193 : decode cX10_settle 193 = .ok (.iload 4, 2) := by decide +kernel
theorem dX10_settle_195 : decode cX10_settle 195 = .ok (.ifCond .le 7, 3) := by decide +kernel
theorem dX10_settle_198 : decode cX10_settle 198 = .ok (.iconst 1, 1) := by decide +kernel
theorem dX10_settle_199 : decode cX10_settle 199 = .ok (.goto 4, 3) := by decide +kernel
theorem dX10_settle_202 : decode cX10_settle 202 = .ok (.iconst (-1), 1) := by decide +kernel
theorem dX10_settle_203 : decode cX10_settle 203 = .ok (.iadd, 1) := by decide +kernel
theorem dX10_settle_204 : decode cX10_settle 204 = .ok (.iastore, 1) := by decide +kernel
theorem dX10_settle_205 : decode cX10_settle 205 = .ok (.iconst 0, 1) := by decide +kernel
theorem dX10_settle_206 : decode cX10_settle 206 = .ok (.istore_n 2, 1) := by decide +kernel
theorem dX10_settle_207 : decode cX10_settle 207 = .ok (.iinc 3 1, 3) := by decide +kernel
theorem dX10_settle_210 : decode cX10_settle 210 = .ok (.goto (-137), 3) := by decide +kernel
theorem dX10_settle_213 : decode cX10_settle 213 = .ok (.iload_n 2, 1) := by decide +kernel
theorem dX10_settle_214 : decode cX10_settle 214 = .ok (.ifCond .eq 4, 3) := by decide +kernel
theorem dX10_settle_217 : decode cX10_settle 217 = .ok (.return_, 1) := by decide +kernel
theorem dX10_settle_218 : decode cX10_settle 218 = .ok (.iinc 1 1, 3) := by decide +kernel
theorem dX10_settle_221 : decode cX10_settle 221 = .ok (.goto (-159), 3) := by decide +kernel
theorem dX10_settle_224 : decode cX10_settle 224 = .ok (.return_, 1) := by decide +kernel
theorem dX10_flowsIn_0 : decode cX10_flowsIn 0 = .ok (.aload_n 0, 1) := by decide +kernel
theorem dX10_flowsIn_1 : decode cX10_flowsIn 1 = .ok (.invokevirtual 144, 3) := by decide +kernel
theorem dX10_flowsIn_4 : decode cX10_flowsIn 4 = .ok (.iconst 0, 1) := by decide +kernel
theorem dX10_flowsIn_5 : decode cX10_flowsIn 5 = .ok (.istore_n 1, 1) := by decide +kernel
theorem dX10_flowsIn_6 : decode cX10_flowsIn 6 = .ok (.iconst 0, 1) := by decide +kernel
theorem dX10_flowsIn_7 : decode cX10_flowsIn 7 = .ok (.istore_n 2, 1) := by decide +kernel
theorem dX10_flowsIn_8 : decode cX10_flowsIn 8 = .ok (.iload_n 2, 1) := by decide +kernel
theorem dX10_flowsIn_9 : decode cX10_flowsIn 9 = .ok (.aload_n 0, 1) := by decide +kernel
theorem dX10_flowsIn_10 : decode cX10_flowsIn 10 = .ok (.getfield 65, 3) := by decide +kernel
theorem dX10_flowsIn_13 : decode cX10_flowsIn 13 = .ok (.if_icmp .ge 29, 3) := by decide +kernel
theorem dX10_flowsIn_16 : decode cX10_flowsIn 16 = .ok (.aload_n 0, 1) := by decide +kernel
theorem dX10_flowsIn_17 : decode cX10_flowsIn 17 = .ok (.iload_n 2, 1) := by decide +kernel
theorem dX10_flowsIn_18 : decode cX10_flowsIn 18 = .ok (.invokevirtual 129, 3) := by decide +kernel
theorem dX10_flowsIn_21 : decode cX10_flowsIn 21 = .ok (.ifCond .ne 15, 3) := by decide +kernel
theorem dX10_flowsIn_24 : decode cX10_flowsIn 24 = .ok (.iload_n 1, 1) := by decide +kernel
theorem dX10_flowsIn_25 : decode cX10_flowsIn 25 = .ok (.iconst 0, 1) := by decide +kernel
theorem dX10_flowsIn_26 : decode cX10_flowsIn 26 = .ok (.aload_n 0, 1) := by decide +kernel
theorem dX10_flowsIn_27 : decode cX10_flowsIn 27 = .ok (.iload_n 2, 1) := by decide +kernel
theorem dX10_flowsIn_28 : decode cX10_flowsIn 28 = .ok (.invokevirtual 141, 3) := by decide +kernel
theorem dX10_flowsIn_31 : decode cX10_flowsIn 31 = .ok (.invokestatic 100, 3) := by decide +kernel
theorem dX10_flowsIn_34 : decode cX10_flowsIn 34 = .ok (.iadd, 1) := by decide +kernel
theorem dX10_flowsIn_35 : decode cX10_flowsIn 35 = .ok (.istore_n 1, 1) := by decide +kernel
theorem dX10_flowsIn_36 : decode cX10_flowsIn 36 = .ok (.iinc 2 1, 3) := by decide +kernel
theorem dX10_flowsIn_39 : decode cX10_flowsIn 39 = .ok (.goto (-31), 3) := by decide +kernel
theorem dX10_flowsIn_42 : decode cX10_flowsIn 42 = .ok (.iload_n 1, 1) := by decide +kernel
theorem dX10_flowsIn_43 : decode cX10_flowsIn 43 = .ok (.ireturn, 1) := by decide +kernel
theorem dX10_outside_0 : decode cX10_outside 0 = .ok (.aload_n 0, 1) := by decide +kernel
theorem dX10_outside_1 : decode cX10_outside 1 = .ok (.iload_n 1, 1) := by decide +kernel
theorem dX10_outside_2 : decode cX10_outside 2 = .ok (.invokevirtual 122, 3) := by decide +kernel
theorem dX10_outside_5 : decode cX10_outside 5 = .ok (.ifCond .ne 12, 3) := by decide +kernel
theorem dX10_outside_8 : decode cX10_outside 8 = .ok (.ldc 128, 2) := by decide +kernel
theorem dX10_outside_10 : decode cX10_outside 10 = .ok (.aload_n 0, 1) := by decide +kernel
theorem dX10_outside_11 : decode cX10_outside 11 = .ok (.iconst (-1), 1) := by decide +kernel
theorem dX10_outside_12 : decode cX10_outside 12 = .ok (.invokevirtual 68, 3) := by decide +kernel
theorem dX10_outside_15 : decode cX10_outside 15 = .ok (.isub, 1) := by decide +kernel
theorem dX10_outside_16 : decode cX10_outside 16 = .ok (.ireturn, 1) := by decide +kernel
theorem dX10_outside_17 : decode cX10_outside 17 = .ok (.aload_n 0, 1) := by decide +kernel
theorem dX10_outside_18 : decode cX10_outside 18 = .ok (.iload_n 1, 1) := by decide +kernel
theorem dX10_outside_19 : decode cX10_outside 19 = .ok (.invokevirtual 129, 3) := by decide +kernel
theorem dX10_outside_22 : decode cX10_outside 22 = .ok (.ifCond .eq 15, 3) := by decide +kernel
theorem dX10_outside_25 : decode cX10_outside 25 = .ok (.ldc 128, 2) := by decide +kernel
theorem dX10_outside_27 : decode cX10_outside 27 = .ok (.aload_n 0, 1) := by decide +kernel
theorem dX10_outside_28 : decode cX10_outside 28 = .ok (.bipush (-3), 2) := by decide +kernel
theorem dX10_outside_30 : decode cX10_outside 30 = .ok (.invokevirtual 68, 3) := by decide +kernel
theorem dX10_outside_33 : decode cX10_outside 33 = .ok (.isub, 1) := by decide +kernel
theorem dX10_outside_34 : decode cX10_outside 34 = .ok (.goto 8, 3) := by decide +kernel
theorem dX10_outside_37 : decode cX10_outside 37 = .ok (.aload_n 0, 1) := by decide +kernel
theorem dX10_outside_38 : decode cX10_outside 38 = .ok (.iload_n 1, 1) := by decide +kernel
theorem dX10_outside_39 : decode cX10_outside 39 = .ok (.invokevirtual 138, 3) := by decide +kernel
theorem dX10_outside_42 : decode cX10_outside 42 = .ok (.ireturn, 1) := by decide +kernel
theorem dX10_push_0 : decode cX10_push 0 = .ok (.iload_n 1, 1) := by decide +kernel
theorem dX10_push_1 : decode cX10_push 1 = .ok (.ifCond .lt 11, 3) := by decide +kernel
theorem dX10_push_4 : decode cX10_push 4 = .ok (.iload_n 1, 1) := by decide +kernel
theorem dX10_push_5 : decode cX10_push 5 = .ok (.aload_n 0, 1) := by decide +kernel
theorem dX10_push_6 : decode cX10_push 6 = .ok (.getfield 61, 3) := by decide +kernel
theorem dX10_push_9 : decode cX10_push 9 = .ok (.if_icmp .lt 12, 3) := by decide +kernel
theorem dX10_push_12 : decode cX10_push 12 = .ok (.ldc 128, 2) := by decide +kernel
theorem dX10_push_14 : decode cX10_push 14 = .ok (.aload_n 0, 1) := by decide +kernel
theorem dX10_push_15 : decode cX10_push 15 = .ok (.iconst (-1), 1) := by decide +kernel
theorem dX10_push_16 : decode cX10_push 16 = .ok (.invokevirtual 68, 3) := by decide +kernel
theorem dX10_push_19 : decode cX10_push 19 = .ok (.isub, 1) := by decide +kernel
theorem dX10_push_20 : decode cX10_push 20 = .ok (.ireturn, 1) := by decide +kernel
theorem dX10_push_21 : decode cX10_push 21 = .ok (.aload_n 0, 1) := by decide +kernel
theorem dX10_push_22 : decode cX10_push 22 = .ok (.invokevirtual 144, 3) := by decide +kernel
theorem dX10_push_25 : decode cX10_push 25 = .ok (.aload_n 0, 1) := by decide +kernel
theorem dX10_push_26 : decode cX10_push 26 = .ok (.getfield 46, 3) := by decide +kernel
theorem dX10_push_29 : decode cX10_push 29 = .ok (.iload_n 1, 1) := by decide +kernel
theorem dX10_push_30 : decode cX10_push 30 = .ok (.iaload, 1) := by decide +kernel
theorem dX10_push_31 : decode cX10_push 31 = .ok (.ireturn, 1) := by decide +kernel
theorem dX10_flow_0 : decode cX10_flow 0 = .ok (.aload_n 0, 1) := by decide +kernel
theorem dX10_flow_1 : decode cX10_flow 1 = .ok (.iload_n 1, 1) := by decide +kernel
theorem dX10_flow_2 : decode cX10_flow 2 = .ok (.invokevirtual 122, 3) := by decide +kernel
theorem dX10_flow_5 : decode cX10_flow 5 = .ok (.ifCond .ne 12, 3) := by decide +kernel
theorem dX10_flow_8 : decode cX10_flow 8 = .ok (.ldc 128, 2) := by decide +kernel
theorem dX10_flow_10 : decode cX10_flow 10 = .ok (.aload_n 0, 1) := by decide +kernel
theorem dX10_flow_11 : decode cX10_flow 11 = .ok (.iconst (-1), 1) := by decide +kernel
theorem dX10_flow_12 : decode cX10_flow 12 = .ok (.invokevirtual 68, 3) := by decide +kernel
theorem dX10_flow_15 : decode cX10_flow 15 = .ok (.isub, 1) := by decide +kernel
theorem dX10_flow_16 : decode cX10_flow 16 = .ok (.ireturn, 1) := by decide +kernel
theorem dX10_flow_17 : decode cX10_flow 17 = .ok (.aload_n 0, 1) := by decide +kernel
theorem dX10_flow_18 : decode cX10_flow 18 = .ok (.invokevirtual 144, 3) := by decide +kernel
theorem dX10_flow_21 : decode cX10_flow 21 = .ok (.aload_n 0, 1) := by decide +kernel
theorem dX10_flow_22 : decode cX10_flow 22 = .ok (.iload_n 1, 1) := by decide +kernel
theorem dX10_flow_23 : decode cX10_flow 23 = .ok (.invokevirtual 141, 3) := by decide +kernel
theorem dX10_flow_26 : decode cX10_flow 26 = .ok (.ireturn, 1) := by decide +kernel
theorem dX10_leans_0 : decode cX10_leans 0 = .ok (.aload_n 0, 1) := by decide +kernel
theorem dX10_leans_1 : decode cX10_leans 1 = .ok (.iload_n 1, 1) := by decide +kernel
theorem dX10_leans_2 : decode cX10_leans 2 = .ok (.invokevirtual 141, 3) := by decide +kernel
theorem dX10_leans_5 : decode cX10_leans 5 = .ok (.istore_n 2, 1) := by decide +kernel
theorem dX10_leans_6 : decode cX10_leans 6 = .ok (.iload_n 2, 1) := by decide +kernel
theorem dX10_leans_7 : decode cX10_leans 7 = .ok (.ifCond .le 7, 3) := by decide +kernel
theorem dX10_leans_10 : decode cX10_leans 10 = .ok (.iconst 1, 1) := by decide +kernel
theorem dX10_leans_11 : decode cX10_leans 11 = .ok (.goto 12, 3) := by decide +kernel
theorem dX10_leans_14 : decode cX10_leans 14 = .ok (.iload_n 2, 1) := by decide +kernel
theorem dX10_leans_15 : decode cX10_leans 15 = .ok (.ifCond .ge 7, 3) := by decide +kernel
theorem dX10_leans_18 : decode cX10_leans 18 = .ok (.iconst 2, 1) := by decide +kernel
theorem dX10_leans_19 : decode cX10_leans 19 = .ok (.goto 4, 3) := by decide +kernel
theorem dX10_leans_22 : decode cX10_leans 22 = .ok (.iconst 0, 1) := by decide +kernel
theorem dX10_leans_23 : decode cX10_leans 23 = .ok (.ireturn, 1) := by decide +kernel
theorem dX10_lean_0 : decode cX10_lean 0 = .ok (.aload_n 0, 1) := by decide +kernel
theorem dX10_lean_1 : decode cX10_lean 1 = .ok (.iload_n 1, 1) := by decide +kernel
theorem dX10_lean_2 : decode cX10_lean 2 = .ok (.invokevirtual 122, 3) := by decide +kernel
theorem dX10_lean_5 : decode cX10_lean 5 = .ok (.ifCond .ne 9, 3) := by decide +kernel
theorem dX10_lean_8 : decode cX10_lean 8 = .ok (.aload_n 0, 1) := by decide +kernel
theorem dX10_lean_9 : decode cX10_lean 9 = .ok (.iconst (-1), 1) := by decide +kernel
theorem dX10_lean_10 : decode cX10_lean 10 = .ok (.invokevirtual 68, 3) := by decide +kernel
theorem dX10_lean_13 : decode cX10_lean 13 = .ok (.ireturn, 1) := by decide +kernel
theorem dX10_lean_14 : decode cX10_lean 14 = .ok (.aload_n 0, 1) := by decide +kernel
theorem dX10_lean_15 : decode cX10_lean 15 = .ok (.invokevirtual 144, 3) := by decide +kernel
theorem dX10_lean_18 : decode cX10_lean 18 = .ok (.aload_n 0, 1) := by decide +kernel
theorem dX10_lean_19 : decode cX10_lean 19 = .ok (.iload_n 1, 1) := by decide +kernel
theorem dX10_lean_20 : decode cX10_lean 20 = .ok (.invokevirtual 147, 3) := by decide +kernel
theorem dX10_lean_23 : decode cX10_lean 23 = .ok (.ireturn, 1) := by decide +kernel
theorem dX10_coal_0 : decode cX10_coal 0 = .ok (.aload_n 0, 1) := by decide +kernel
theorem dX10_coal_1 : decode cX10_coal 1 = .ok (.invokevirtual 150, 3) := by decide +kernel
theorem dX10_coal_4 : decode cX10_coal 4 = .ok (.aload_n 0, 1) := by decide +kernel
theorem dX10_coal_5 : decode cX10_coal 5 = .ok (.getfield 37, 3) := by decide +kernel
theorem dX10_coal_8 : decode cX10_coal 8 = .ok (.iconst 0, 1) := by decide +kernel
theorem dX10_coal_9 : decode cX10_coal 9 = .ok (.iaload, 1) := by decide +kernel
theorem dX10_coal_10 : decode cX10_coal 10 = .ok (.imul, 1) := by decide +kernel
theorem dX10_coal_11 : decode cX10_coal 11 = .ok (.ireturn, 1) := by decide +kernel
theorem dX10_smoke_0 : decode cX10_smoke 0 = .ok (.iconst 0, 1) := by decide +kernel
theorem dX10_smoke_1 : decode cX10_smoke 1 = .ok (.istore_n 1, 1) := by decide +kernel
theorem dX10_smoke_2 : decode cX10_smoke 2 = .ok (.iload_n 1, 1) := by decide +kernel
theorem dX10_smoke_3 : decode cX10_smoke 3 = .ok (.aload_n 0, 1) := by decide +kernel
theorem dX10_smoke_4 : decode cX10_smoke 4 = .ok (.getfield 65, 3) := by decide +kernel
theorem dX10_smoke_7 : decode cX10_smoke 7 = .ok (.if_icmp .ge 39, 3) := by decide +kernel
theorem dX10_smoke_10 : decode cX10_smoke 10 = .ok (.aload_n 0, 1) := by decide +kernel
theorem dX10_smoke_11 : decode cX10_smoke 11 = .ok (.getfield 19, 3) := by decide +kernel
theorem dX10_smoke_14 : decode cX10_smoke 14 = .ok (.iload_n 1, 1) := by decide +kernel
theorem dX10_smoke_15 : decode cX10_smoke 15 = .ok (.iaload, 1) := by decide +kernel
theorem dX10_smoke_16 : decode cX10_smoke 16 = .ok (.bipush 6, 2) := by decide +kernel
theorem dX10_smoke_18 : decode cX10_smoke 18 = .ok (.if_icmp .ne 22, 3) := by decide +kernel
theorem dX10_smoke_21 : decode cX10_smoke 21 = .ok (.aload_n 0, 1) := by decide +kernel
theorem dX10_smoke_22 : decode cX10_smoke 22 = .ok (.getfield 22, 3) := by decide +kernel
theorem dX10_smoke_25 : decode cX10_smoke 25 = .ok (.iload_n 1, 1) := by decide +kernel
theorem dX10_smoke_26 : decode cX10_smoke 26 = .ok (.iaload, 1) := by decide +kernel
theorem dX10_smoke_27 : decode cX10_smoke 27 = .ok (.ifCond .le 13, 3) := by decide +kernel
theorem dX10_smoke_30 : decode cX10_smoke 30 = .ok (.aload_n 0, 1) := by decide +kernel
theorem dX10_smoke_31 : decode cX10_smoke 31 = .ok (.iload_n 1, 1) := by decide +kernel
theorem dX10_smoke_32 : decode cX10_smoke 32 = .ok (.invokevirtual 141, 3) := by decide +kernel
theorem dX10_smoke_35 : decode cX10_smoke 35 = .ok (.ifCond .lt 5, 3) := by decide +kernel
theorem dX10_smoke_38 : decode cX10_smoke 38 = .ok (.iconst 1, 1) := by decide +kernel
theorem dX10_smoke_39 : decode cX10_smoke 39 = .ok (.ireturn, 1) := by decide +kernel
theorem dX10_smoke_40 : decode cX10_smoke 40 = .ok (.iinc 1 1, 3) := by decide +kernel
theorem dX10_smoke_43 : decode cX10_smoke 43 = .ok (.goto (-41), 3) := by decide +kernel
theorem dX10_smoke_46 : decode cX10_smoke 46 = .ok (.iconst 0, 1) := by decide +kernel
theorem dX10_smoke_47 : decode cX10_smoke 47 = .ok (.ireturn, 1) := by decide +kernel
theorem dX10_smokes_0 : decode cX10_smokes 0 = .ok (.aload_n 0, 1) := by decide +kernel
theorem dX10_smokes_1 : decode cX10_smokes 1 = .ok (.invokevirtual 144, 3) := by decide +kernel
theorem dX10_smokes_4 : decode cX10_smokes 4 = .ok (.aload_n 0, 1) := by decide +kernel
theorem dX10_smokes_5 : decode cX10_smokes 5 = .ok (.invokevirtual 153, 3) := by decide +kernel
theorem dX10_smokes_8 : decode cX10_smokes 8 = .ok (.ifCond .eq 7, 3) := by decide +kernel
theorem dX10_smokes_11 : decode cX10_smokes 11 = .ok (.iconst 1, 1) := by decide +kernel
theorem dX10_smokes_12 : decode cX10_smokes 12 = .ok (.goto 4, 3) := by decide +kernel
theorem dX10_smokes_15 : decode cX10_smokes 15 = .ok (.iconst 0, 1) := by decide +kernel
theorem dX10_smokes_16 : decode cX10_smokes 16 = .ok (.ireturn, 1) := by decide +kernel
theorem dX10_stop_0 : decode cX10_stop 0 = .ok (.lconst 0, 1) := by decide +kernel
theorem dX10_stop_1 : decode cX10_stop 1 = .ok (.lstore_n 2, 1) := by decide +kernel
theorem dX10_stop_2 : decode cX10_stop 2 = .ok (.aload_n 0, 1) := by decide +kernel
theorem dX10_stop_3 : decode cX10_stop 3 = .ok (.getfield 65, 3) := by decide +kernel
theorem dX10_stop_6 : decode cX10_stop 6 = .ok (.iconst 1, 1) := by decide +kernel
theorem dX10_stop_7 : decode cX10_stop 7 = .ok (.isub, 1) := by decide +kernel
theorem dX10_stop_8 : decode cX10_stop 8 = .ok (.istore 4, 2) := by decide +kernel
theorem dX10_stop_10 : decode cX10_stop 10 = .ok (.iload 4, 2) := by decide +kernel
theorem dX10_stop_12 : decode cX10_stop 12 = .ok (.ifCond .lt 42, 3) := by decide +kernel
theorem dX10_stop_15 : decode cX10_stop 15 = .ok (.ldc2_w 157, 3) := by decide +kernel
theorem dX10_stop_18 : decode cX10_stop 18 = .ok (.lload_n 2, 1) := by decide +kernel
theorem dX10_stop_19 : decode cX10_stop 19 = .ok (.lmul, 1) := by decide +kernel
theorem dX10_stop_20 : decode cX10_stop 20 = .ok (.aload_n 0, 1) := by decide +kernel
theorem dX10_stop_21 : decode cX10_stop 21 = .ok (.getfield 22, 3) := by decide +kernel
theorem dX10_stop_24 : decode cX10_stop 24 = .ok (.iload 4, 2) := by decide +kernel
theorem dX10_stop_26 : decode cX10_stop 26 = .ok (.iaload, 1) := by decide +kernel
theorem dX10_stop_27 : decode cX10_stop 27 = .ok (.i2l, 1) := by decide +kernel
theorem dX10_stop_28 : decode cX10_stop 28 = .ok (.ladd, 1) := by decide +kernel
theorem dX10_stop_29 : decode cX10_stop 29 = .ok (.lstore_n 2, 1) := by decide +kernel
theorem dX10_stop_30 : decode cX10_stop 30 = .ok (.iload_n 1, 1) := by decide +kernel
theorem dX10_stop_31 : decode cX10_stop 31 = .ok (.iload 4, 2) := by decide +kernel
theorem dX10_stop_33 : decode cX10_stop 33 = .ok (.ishr, 1) := by decide +kernel
theorem dX10_stop_34 : decode cX10_stop 34 = .ok (.iconst 1, 1) := by decide +kernel
theorem dX10_stop_35 : decode cX10_stop 35 = .ok (.iand, 1) := by decide +kernel
theorem dX10_stop_36 : decode cX10_stop 36 = .ok (.iconst 1, 1) := by decide +kernel
theorem dX10_stop_37 : decode cX10_stop 37 = .ok (.if_icmp .ne 11, 3) := by decide +kernel
theorem dX10_stop_40 : decode cX10_stop 40 = .ok (.aload_n 0, 1) := by decide +kernel
theorem dX10_stop_41 : decode cX10_stop 41 = .ok (.getfield 22, 3) := by decide +kernel
theorem dX10_stop_44 : decode cX10_stop 44 = .ok (.iload 4, 2) := by decide +kernel
theorem dX10_stop_46 : decode cX10_stop 46 = .ok (.iconst 0, 1) := by decide +kernel
theorem dX10_stop_47 : decode cX10_stop 47 = .ok (.iastore, 1) := by decide +kernel
theorem dX10_stop_48 : decode cX10_stop 48 = .ok (.iinc 4 (-1), 3) := by decide +kernel
theorem dX10_stop_51 : decode cX10_stop 51 = .ok (.goto (-41), 3) := by decide +kernel
theorem dX10_stop_54 : decode cX10_stop 54 = .ok (.lload_n 2, 1) := by decide +kernel
theorem dX10_stop_55 : decode cX10_stop 55 = .ok (.lreturn, 1) := by decide +kernel
theorem dX10_open_0 : decode cX10_open 0 = .ok (.iconst 0, 1) := by decide +kernel
theorem dX10_open_1 : decode cX10_open 1 = .ok (.istore_n 3, 1) := by decide +kernel
theorem dX10_open_2 : decode cX10_open 2 = .ok (.iload_n 3, 1) := by decide +kernel
theorem dX10_open_3 : decode cX10_open 3 = .ok (.aload_n 0, 1) := by decide +kernel
theorem dX10_open_4 : decode cX10_open 4 = .ok (.getfield 65, 3) := by decide +kernel
theorem dX10_open_7 : decode cX10_open 7 = .ok (.if_icmp .ge 27, 3) := by decide +kernel
theorem dX10_open_10 : decode cX10_open 10 = .ok (.aload_n 0, 1) := by decide +kernel
theorem dX10_open_11 : decode cX10_open 11 = .ok (.getfield 22, 3) := by decide +kernel
theorem dX10_open_14 : decode cX10_open 14 = .ok (.iload_n 3, 1) := by decide +kernel
theorem dX10_open_15 : decode cX10_open 15 = .ok (.lload_n 1, 1) := by decide +kernel
theorem dX10_open_16 : decode cX10_open 16 = .ok (.ldc2_w 157, 3) := by decide +kernel
theorem dX10_open_19 : decode cX10_open 19 = .ok (.lrem, 1) := by decide +kernel
theorem dX10_open_20 : decode cX10_open 20 = .ok (.l2i, 1) := by decide +kernel
theorem dX10_open_21 : decode cX10_open 21 = .ok (.iastore, 1) := by decide +kernel
theorem dX10_open_22 : decode cX10_open 22 = .ok (.lload_n 1, 1) := by decide +kernel
theorem dX10_open_23 : decode cX10_open 23 = .ok (.ldc2_w 157, 3) := by decide +kernel
theorem dX10_open_26 : decode cX10_open 26 = .ok (.ldiv, 1) := by decide +kernel
theorem dX10_open_27 : decode cX10_open 27 = .ok (.lstore_n 1, 1) := by decide +kernel
theorem dX10_open_28 : decode cX10_open 28 = .ok (.iinc 3 1, 3) := by decide +kernel
theorem dX10_open_31 : decode cX10_open 31 = .ok (.goto (-29), 3) := by decide +kernel
theorem dX10_open_34 : decode cX10_open 34 = .ok (.return_, 1) := by decide +kernel
theorem dX10_stopped_0 : decode cX10_stopped 0 = .ok (.iload_n 1, 1) := by decide +kernel
theorem dX10_stopped_1 : decode cX10_stopped 1 = .ok (.ifCond .lt 13, 3) := by decide +kernel
theorem dX10_stopped_4 : decode cX10_stopped 4 = .ok (.iload_n 1, 1) := by decide +kernel
theorem dX10_stopped_5 : decode cX10_stopped 5 = .ok (.iconst 1, 1) := by decide +kernel
theorem dX10_stopped_6 : decode cX10_stopped 6 = .ok (.aload_n 0, 1) := by decide +kernel
theorem dX10_stopped_7 : decode cX10_stopped 7 = .ok (.getfield 65, 3) := by decide +kernel
theorem dX10_stopped_10 : decode cX10_stopped 10 = .ok (.ishl, 1) := by decide +kernel
theorem dX10_stopped_11 : decode cX10_stopped 11 = .ok (.if_icmp .lt 9, 3) := by decide +kernel
theorem dX10_stopped_14 : decode cX10_stopped 14 = .ok (.aload_n 0, 1) := by decide +kernel
theorem dX10_stopped_15 : decode cX10_stopped 15 = .ok (.iconst (-1), 1) := by decide +kernel
theorem dX10_stopped_16 : decode cX10_stopped 16 = .ok (.invokevirtual 68, 3) := by decide +kernel
theorem dX10_stopped_19 : decode cX10_stopped 19 = .ok (.ireturn, 1) := by decide +kernel
theorem dX10_stopped_20 : decode cX10_stopped 20 = .ok (.aload_n 0, 1) := by decide +kernel
theorem dX10_stopped_21 : decode cX10_stopped 21 = .ok (.iload_n 1, 1) := by decide +kernel
theorem dX10_stopped_22 : decode cX10_stopped 22 = .ok (.invokevirtual 159, 3) := by decide +kernel
theorem dX10_stopped_25 : decode cX10_stopped 25 = .ok (.lstore_n 2, 1) := by decide +kernel
theorem dX10_stopped_26 : decode cX10_stopped 26 = .ok (.aload_n 0, 1) := by decide +kernel
theorem dX10_stopped_27 : decode cX10_stopped 27 = .ok (.invokevirtual 163, 3) := by decide +kernel
theorem dX10_stopped_30 : decode cX10_stopped 30 = .ok (.istore 4, 2) := by decide +kernel
theorem dX10_stopped_32 : decode cX10_stopped 32 = .ok (.aload_n 0, 1) := by decide +kernel
theorem dX10_stopped_33 : decode cX10_stopped 33 = .ok (.lload_n 2, 1) := by decide +kernel
theorem dX10_stopped_34 : decode cX10_stopped 34 = .ok (.invokevirtual 166, 3) := by decide +kernel
theorem dX10_stopped_37 : decode cX10_stopped 37 = .ok (.iload 4, 2) := by decide +kernel
theorem dX10_stopped_39 : decode cX10_stopped 39 = .ok (.ireturn, 1) := by decide +kernel
theorem dX10_best_0 : decode cX10_best 0 = .ok (.iload_n 2, 1) := by decide +kernel
theorem dX10_best_1 : decode cX10_best 1 = .ok (.ifCond .lt 8, 3) := by decide +kernel
theorem dX10_best_4 : decode cX10_best 4 = .ok (.iload_n 2, 1) := by decide +kernel
theorem dX10_best_5 : decode cX10_best 5 = .ok (.iconst 1, 1) := by decide +kernel
theorem dX10_best_6 : decode cX10_best 6 = .ok (.if_icmp .le 10, 3) := by decide +kernel
theorem dX10_best_9 : decode cX10_best 9 = .ok (.aload_n 0, 1) := by decide +kernel
theorem dX10_best_10 : decode cX10_best 10 = .ok (.bipush (-2), 2) := by decide +kernel
theorem dX10_best_12 : decode cX10_best 12 = .ok (.invokevirtual 68, 3) := by decide +kernel
theorem dX10_best_15 : decode cX10_best 15 = .ok (.ireturn, 1) := by decide +kernel
theorem dX10_best_16 : decode cX10_best 16 = .ok (.iload_n 1, 1) := by decide +kernel
theorem dX10_best_17 : decode cX10_best 17 = .ok (.ifCond .ge 10, 3) := by decide +kernel
theorem dX10_best_20 : decode cX10_best 20 = .ok (.aload_n 0, 1) := by decide +kernel
theorem dX10_best_21 : decode cX10_best 21 = .ok (.bipush (-4), 2) := by decide +kernel
theorem dX10_best_23 : decode cX10_best 23 = .ok (.invokevirtual 68, 3) := by decide +kernel
theorem dX10_best_26 : decode cX10_best 26 = .ok (.ireturn, 1) := by decide +kernel
theorem dX10_best_27 : decode cX10_best 27 = .ok (.iload_n 1, 1) := by decide +kernel
theorem dX10_best_28 : decode cX10_best 28 = .ok (.bipush 99, 2) := by decide +kernel
theorem dX10_best_30 : decode cX10_best 30 = .ok (.if_icmp .le 10, 3) := by decide +kernel
theorem dX10_best_33 : decode cX10_best 33 = .ok (.aload_n 0, 1) := by decide +kernel
theorem dX10_best_34 : decode cX10_best 34 = .ok (.bipush (-6), 2) := by decide +kernel
theorem dX10_best_36 : decode cX10_best 36 = .ok (.invokevirtual 68, 3) := by decide +kernel
theorem dX10_best_39 : decode cX10_best 39 = .ok (.ireturn, 1) := by decide +kernel
theorem dX10_best_40 : decode cX10_best 40 = .ok (.bipush (-9), 2) := by decide +kernel
theorem dX10_best_42 : decode cX10_best 42 = .ok (.istore_n 3, 1) := by decide +kernel
theorem dX10_best_43 : decode cX10_best 43 = .ok (.bipush (-9), 2) := by decide +kernel
theorem dX10_best_45 : decode cX10_best 45 = .ok (.istore 4, 2) := by decide +kernel
theorem dX10_best_47 : decode cX10_best 47 = .ok (.iconst 0, 1) := by decide +kernel
theorem dX10_best_48 : decode cX10_best 48 = .ok (.istore 5, 2) := by decide +kernel
theorem dX10_best_50 : decode cX10_best 50 = .ok (.iload 5, 2) := by decide +kernel
theorem dX10_best_52 : decode cX10_best 52 = .ok (.iconst 1, 1) := by decide +kernel
theorem dX10_best_53 : decode cX10_best 53 = .ok (.aload_n 0, 1) := by decide +kernel
theorem dX10_best_54 : decode cX10_best 54 = .ok (.getfield 65, 3) := by decide +kernel
theorem dX10_best_57 : decode cX10_best 57 = .ok (.ishl, 1) := by decide +kernel
theorem dX10_best_58 : decode cX10_best 58 = .ok (.if_icmp .ge 148, 3) := by decide +kernel
theorem dX10_best_61 : decode cX10_best 61 = .ok (.iload 5, 2) := by decide +kernel
theorem dX10_best_63 : decode cX10_best 63 = .ok (.invokestatic 170, 3) := by decide +kernel
theorem dX10_best_66 : decode cX10_best 66 = .ok (.iconst 3, 1) := by decide +kernel
theorem dX10_best_67 : decode cX10_best 67 = .ok (.if_icmp .le 6, 3) := by decide +kernel
theorem dX10_best_70 : decode cX10_best 70 = .ok (.goto 130, 3) := by decide +kernel
theorem dX10_best_73 : decode cX10_best 73 = .ok (.iconst 0, 1) := by decide +kernel
theorem dX10_best_74 : decode cX10_best 74 = .ok (.istore 6, 2) := by decide +kernel
theorem dX10_best_76 : decode cX10_best 76 = .ok (.iconst 1, 1) := by decide +kernel
theorem dX10_best_77 : decode cX10_best 77 = .ok (.istore 7, 2) := by decide +kernel
theorem dX10_best_79 : decode cX10_best 79 = .ok (.iconst 0, 1) := by decide +kernel
theorem dX10_best_80 : decode cX10_best 80 = .ok (.istore 8, 2) := by decide +kernel
theorem dX10_best_82 : decode cX10_best 82 = .ok (.iload 8, 2) := by decide +kernel
theorem dX10_best_84 : decode cX10_best 84 = .ok (.aload_n 0, 1) := by decide +kernel
theorem dX10_best_85 : decode cX10_best 85 = .ok (.getfield 65, 3) := by decide +kernel
theorem dX10_best_88 : decode cX10_best 88 = .ok (.if_icmp .ge 46, 3) := by decide +kernel
theorem dX10_best_91 : decode cX10_best 91 = .ok (.iload 5, 2) := by decide +kernel
theorem dX10_best_93 : decode cX10_best 93 = .ok (.iload 8, 2) := by decide +kernel
theorem dX10_best_95 : decode cX10_best 95 = .ok (.ishr, 1) := by decide +kernel
theorem dX10_best_96 : decode cX10_best 96 = .ok (.iconst 1, 1) := by decide +kernel
theorem dX10_best_97 : decode cX10_best 97 = .ok (.iand, 1) := by decide +kernel
theorem dX10_best_98 : decode cX10_best 98 = .ok (.ifCond .ne 6, 3) := by decide +kernel
theorem dX10_best_101 : decode cX10_best 101 = .ok (.goto 27, 3) := by decide +kernel
theorem dX10_best_104 : decode cX10_best 104 = .ok (.iload 6, 2) := by decide +kernel
theorem dX10_best_106 : decode cX10_best 106 = .ok (.aload_n 0, 1) := by decide +kernel
theorem dX10_best_107 : decode cX10_best 107 = .ok (.getfield 31, 3) := by decide +kernel
theorem dX10_best_110 : decode cX10_best 110 = .ok (.iload 8, 2) := by decide +kernel
theorem dX10_best_112 : decode cX10_best 112 = .ok (.iaload, 1) := by decide +kernel
theorem dX10_best_113 : decode cX10_best 113 = .ok (.iadd, 1) := by decide +kernel
theorem dX10_best_114 : decode cX10_best 114 = .ok (.istore 6, 2) := by decide +kernel
theorem dX10_best_116 : decode cX10_best 116 = .ok (.aload_n 0, 1) := by decide +kernel
theorem dX10_best_117 : decode cX10_best 117 = .ok (.iload 8, 2) := by decide +kernel
theorem dX10_best_119 : decode cX10_best 119 = .ok (.invokevirtual 129, 3) := by decide +kernel
theorem dX10_best_122 : decode cX10_best 122 = .ok (.ifCond .eq 6, 3) := by decide +kernel
theorem dX10_best_125 : decode cX10_best 125 = .ok (.iconst 0, 1) := by decide +kernel
theorem dX10_best_126 : decode cX10_best 126 = .ok (.istore 7, 2) := by decide +kernel
theorem dX10_best_128 : decode cX10_best 128 = .ok (.iinc 8 1, 3) := by decide +kernel
theorem dX10_best_131 : decode cX10_best 131 = .ok (.goto (-49), 3) := by decide +kernel
theorem dX10_best_134 : decode cX10_best 134 = .ok (.iload 7, 2) := by decide +kernel
theorem dX10_best_136 : decode cX10_best 136 = .ok (.ifCond .eq 64, 3) := by decide +kernel
theorem dX10_best_139 : decode cX10_best 139 = .ok (.iload 6, 2) := by decide +kernel
theorem dX10_best_141 : decode cX10_best 141 = .ok (.iload_n 1, 1) := by decide +kernel
theorem dX10_best_142 : decode cX10_best 142 = .ok (.if_icmp .le 6, 3) := by decide +kernel
theorem dX10_best_145 : decode cX10_best 145 = .ok (.goto 55, 3) := by decide +kernel
theorem dX10_best_148 : decode cX10_best 148 = .ok (.aload_n 0, 1) := by decide +kernel
theorem dX10_best_149 : decode cX10_best 149 = .ok (.iload 5, 2) := by decide +kernel
theorem dX10_best_151 : decode cX10_best 151 = .ok (.invokevirtual 159, 3) := by decide +kernel
theorem dX10_best_154 : decode cX10_best 154 = .ok (.lstore 8, 2) := by decide +kernel
theorem dX10_best_156 : decode cX10_best 156 = .ok (.aload_n 0, 1) := by decide +kernel
theorem dX10_best_157 : decode cX10_best 157 = .ok (.invokevirtual 163, 3) := by decide +kernel
theorem dX10_best_160 : decode cX10_best 160 = .ok (.istore 10, 2) := by decide +kernel
theorem dX10_best_162 : decode cX10_best 162 = .ok (.aload_n 0, 1) := by decide +kernel
theorem dX10_best_163 : decode cX10_best 163 = .ok (.invokevirtual 153, 3) := by decide +kernel
theorem dX10_best_166 : decode cX10_best 166 = .ok (.istore 11, 2) := by decide +kernel
theorem dX10_best_168 : decode cX10_best 168 = .ok (.aload_n 0, 1) := by decide +kernel
theorem dX10_best_169 : decode cX10_best 169 = .ok (.lload 8, 2) := by decide +kernel
theorem dX10_best_171 : decode cX10_best 171 = .ok (.invokevirtual 166, 3) := by decide +kernel
theorem dX10_best_174 : decode cX10_best 174 = .ok (.iload 11, 2) := by decide +kernel
theorem dX10_best_176 : decode cX10_best 176 = .ok (.ifCond .ne 24, 3) := by decide +kernel
theorem dX10_best_179 : decode cX10_best 179 = .ok (.iload_n 3, 1) := by decide +kernel
theorem dX10_best_180 : decode cX10_best 180 = .ok (.ifCond .lt 13, 3) := by decide +kernel
theorem dX10_best_183 : decode cX10_best 183 = .ok (.iload 10, 2) := by decide +kernel
theorem dX10_best_185 : decode cX10_best 185 = .ok (.iload 4, 2) := by decide +kernel
theorem dX10_best_187 : decode cX10_best 187 = .ok (.if_icmp .lt 6, 3) := by decide +kernel
theorem dX10_best_190 : decode cX10_best 190 = .ok (.goto 10, 3) := by decide +kernel
theorem dX10_best_193 : decode cX10_best 193 = .ok (.iload 5, 2) := by decide +kernel
theorem dX10_best_195 : decode cX10_best 195 = .ok (.istore_n 3, 1) := by decide +kernel
theorem dX10_best_196 : decode cX10_best 196 = .ok (.iload 10, 2) := by decide +kernel
theorem dX10_best_198 : decode cX10_best 198 = .ok (.istore 4, 2) := by decide +kernel
theorem dX10_best_200 : decode cX10_best 200 = .ok (.iinc 5 1, 3) := by decide +kernel
theorem dX10_best_203 : decode cX10_best 203 = .ok (.goto (-153), 3) := by decide +kernel
theorem dX10_best_206 : decode cX10_best 206 = .ok (.iload_n 2, 1) := by decide +kernel
theorem dX10_best_207 : decode cX10_best 207 = .ok (.ifCond .ne 7, 3) := by decide +kernel
theorem dX10_best_210 : decode cX10_best 210 = .ok (.iload_n 3, 1) := by decide +kernel
theorem dX10_best_211 : decode cX10_best 211 = .ok (.goto 5, 3) := by decide +kernel
theorem dX10_best_214 : decode cX10_best 214 = .ok (.iload 4, 2) := by decide +kernel
theorem dX10_best_216 : decode cX10_best 216 = .ok (.ireturn, 1) := by decide +kernel
theorem dX10_pairs_0 : decode cX10_pairs 0 = .ok (.iload_n 1, 1) := by decide +kernel
theorem dX10_pairs_1 : decode cX10_pairs 1 = .ok (.ifCond .lt 8, 3) := by decide +kernel
theorem dX10_pairs_4 : decode cX10_pairs 4 = .ok (.iload_n 1, 1) := by decide +kernel
theorem dX10_pairs_5 : decode cX10_pairs 5 = .ok (.iconst 1, 1) := by decide +kernel
theorem dX10_pairs_6 : decode cX10_pairs 6 = .ok (.if_icmp .le 10, 3) := by decide +kernel
theorem dX10_pairs_9 : decode cX10_pairs 9 = .ok (.aload_n 0, 1) := by decide +kernel
theorem dX10_pairs_10 : decode cX10_pairs 10 = .ok (.bipush (-2), 2) := by decide +kernel
theorem dX10_pairs_12 : decode cX10_pairs 12 = .ok (.invokevirtual 68, 3) := by decide +kernel
theorem dX10_pairs_15 : decode cX10_pairs 15 = .ok (.ireturn, 1) := by decide +kernel
theorem dX10_pairs_16 : decode cX10_pairs 16 = .ok (.aload_n 0, 1) := by decide +kernel
theorem dX10_pairs_17 : decode cX10_pairs 17 = .ok (.invokevirtual 163, 3) := by decide +kernel
theorem dX10_pairs_20 : decode cX10_pairs 20 = .ok (.istore_n 2, 1) := by decide +kernel
theorem dX10_pairs_21 : decode cX10_pairs 21 = .ok (.iconst 0, 1) := by decide +kernel
theorem dX10_pairs_22 : decode cX10_pairs 22 = .ok (.istore_n 3, 1) := by decide +kernel
theorem dX10_pairs_23 : decode cX10_pairs 23 = .ok (.bipush (-9), 2) := by decide +kernel
theorem dX10_pairs_25 : decode cX10_pairs 25 = .ok (.istore 4, 2) := by decide +kernel
theorem dX10_pairs_27 : decode cX10_pairs 27 = .ok (.iconst 0, 1) := by decide +kernel
theorem dX10_pairs_28 : decode cX10_pairs 28 = .ok (.istore 5, 2) := by decide +kernel
theorem dX10_pairs_30 : decode cX10_pairs 30 = .ok (.iload 5, 2) := by decide +kernel
theorem dX10_pairs_32 : decode cX10_pairs 32 = .ok (.aload_n 0, 1) := by decide +kernel
theorem dX10_pairs_33 : decode cX10_pairs 33 = .ok (.getfield 65, 3) := by decide +kernel
theorem dX10_pairs_36 : decode cX10_pairs 36 = .ok (.if_icmp .ge 113, 3) := by decide +kernel
theorem dX10_pairs_39 : decode cX10_pairs 39 = .ok (.aload_n 0, 1) := by decide +kernel
theorem dX10_pairs_40 : decode cX10_pairs 40 = .ok (.iload 5, 2) := by decide +kernel
theorem dX10_pairs_42 : decode cX10_pairs 42 = .ok (.invokevirtual 129, 3) := by decide +kernel
theorem dX10_pairs_45 : decode cX10_pairs 45 = .ok (.ifCond .ne 98, 3) := by decide +kernel
theorem dX10_pairs_48 : decode cX10_pairs 48 = .ok (.aload_n 0, 1) := by decide +kernel
theorem dX10_pairs_49 : decode cX10_pairs 49 = .ok (.iconst 1, 1) := by decide +kernel
theorem dX10_pairs_50 : decode cX10_pairs 50 = .ok (.iload 5, 2) := by decide +kernel
theorem dX10_pairs_52 : decode cX10_pairs 52 = .ok (.ishl, 1) := by decide +kernel
theorem dX10_pairs_53 : decode cX10_pairs 53 = .ok (.invokevirtual 175, 3) := by decide +kernel
theorem dX10_pairs_56 : decode cX10_pairs 56 = .ok (.iload_n 2, 1) := by decide +kernel
theorem dX10_pairs_57 : decode cX10_pairs 57 = .ok (.if_icmp .ge 6, 3) := by decide +kernel
theorem dX10_pairs_60 : decode cX10_pairs 60 = .ok (.goto 83, 3) := by decide +kernel
theorem dX10_pairs_63 : decode cX10_pairs 63 = .ok (.iload 5, 2) := by decide +kernel
theorem dX10_pairs_65 : decode cX10_pairs 65 = .ok (.iconst 1, 1) := by decide +kernel
theorem dX10_pairs_66 : decode cX10_pairs 66 = .ok (.iadd, 1) := by decide +kernel
theorem dX10_pairs_67 : decode cX10_pairs 67 = .ok (.istore 6, 2) := by decide +kernel
theorem dX10_pairs_69 : decode cX10_pairs 69 = .ok (.iload 6, 2) := by decide +kernel
theorem dX10_pairs_71 : decode cX10_pairs 71 = .ok (.aload_n 0, 1) := by decide +kernel
theorem dX10_pairs_72 : decode cX10_pairs 72 = .ok (.getfield 65, 3) := by decide +kernel
theorem dX10_pairs_75 : decode cX10_pairs 75 = .ok (.if_icmp .ge 68, 3) := by decide +kernel
theorem dX10_pairs_78 : decode cX10_pairs 78 = .ok (.aload_n 0, 1) := by decide +kernel
theorem dX10_pairs_79 : decode cX10_pairs 79 = .ok (.iload 6, 2) := by decide +kernel
theorem dX10_pairs_81 : decode cX10_pairs 81 = .ok (.invokevirtual 129, 3) := by decide +kernel
theorem dX10_pairs_84 : decode cX10_pairs 84 = .ok (.ifCond .ne 53, 3) := by decide +kernel
theorem dX10_pairs_87 : decode cX10_pairs 87 = .ok (.aload_n 0, 1) := by decide +kernel
theorem dX10_pairs_88 : decode cX10_pairs 88 = .ok (.iconst 1, 1) := by decide +kernel
theorem dX10_pairs_89 : decode cX10_pairs 89 = .ok (.iload 6, 2) := by decide +kernel
theorem dX10_pairs_91 : decode cX10_pairs 91 = .ok (.ishl, 1) := by decide +kernel
theorem dX10_pairs_92 : decode cX10_pairs 92 = .ok (.invokevirtual 175, 3) := by decide +kernel
theorem dX10_pairs_95 : decode cX10_pairs 95 = .ok (.iload_n 2, 1) := by decide +kernel
theorem dX10_pairs_96 : decode cX10_pairs 96 = .ok (.if_icmp .lt 41, 3) := by decide +kernel
theorem dX10_pairs_99 : decode cX10_pairs 99 = .ok (.aload_n 0, 1) := by decide +kernel
theorem dX10_pairs_100 : decode cX10_pairs 100 = .ok (.iconst 1, 1) := by decide +kernel
theorem dX10_pairs_101 : decode cX10_pairs 101 = .ok (.iload 5, 2) := by decide +kernel
theorem dX10_pairs_103 : decode cX10_pairs 103 = .ok (.ishl, 1) := by decide +kernel
theorem dX10_pairs_104 : decode cX10_pairs 104 = .ok (.iconst 1, 1) := by decide +kernel
theorem dX10_pairs_105 : decode cX10_pairs 105 = .ok (.iload 6, 2) := by decide +kernel
theorem dX10_pairs_107 : decode cX10_pairs 107 = .ok (.ishl, 1) := by decide +kernel
theorem dX10_pairs_108 : decode cX10_pairs 108 = .ok (.ior, 1) := by decide +kernel
theorem dX10_pairs_109 : decode cX10_pairs 109 = .ok (.invokevirtual 175, 3) := by decide +kernel
theorem dX10_pairs_112 : decode cX10_pairs 112 = .ok (.iload_n 2, 1) := by decide +kernel
theorem dX10_pairs_113 : decode cX10_pairs 113 = .ok (.if_icmp .lt 6, 3) := by decide +kernel
theorem dX10_pairs_116 : decode cX10_pairs 116 = .ok (.goto 21, 3) := by decide +kernel
theorem dX10_pairs_119 : decode cX10_pairs 119 = .ok (.iinc 3 1, 3) := by decide +kernel
theorem dX10_pairs_122 : decode cX10_pairs 122 = .ok (.iload 4, 2) := by decide +kernel
theorem dX10_pairs_124 : decode cX10_pairs 124 = .ok (.ifCond .ge 13, 3) := by decide +kernel
theorem dX10_pairs_127 : decode cX10_pairs 127 = .ok (.bipush 10, 2) := by decide +kernel
theorem dX10_pairs_129 : decode cX10_pairs 129 = .ok (.iload 5, 2) := by decide +kernel
theorem dX10_pairs_131 : decode cX10_pairs 131 = .ok (.imul, 1) := by decide +kernel
theorem dX10_pairs_132 : decode cX10_pairs 132 = .ok (.iload 6, 2) := by decide +kernel
theorem dX10_pairs_134 : decode cX10_pairs 134 = .ok (.iadd, 1) := by decide +kernel
theorem dX10_pairs_135 : decode cX10_pairs 135 = .ok (.istore 4, 2) := by decide +kernel
theorem dX10_pairs_137 : decode cX10_pairs 137 = .ok (.iinc 6 1, 3) := by decide +kernel
theorem dX10_pairs_140 : decode cX10_pairs 140 = .ok (.goto (-71), 3) := by decide +kernel
theorem dX10_pairs_143 : decode cX10_pairs 143 = .ok (.iinc 5 1, 3) := by decide +kernel
theorem dX10_pairs_146 : decode cX10_pairs 146 = .ok (.goto (-116), 3) := by decide +kernel
theorem dX10_pairs_149 : decode cX10_pairs 149 = .ok (.iload_n 1, 1) := by decide +kernel
theorem dX10_pairs_150 : decode cX10_pairs 150 = .ok (.ifCond .ne 7, 3) := by decide +kernel
theorem dX10_pairs_153 : decode cX10_pairs 153 = .ok (.iload_n 3, 1) := by decide +kernel
theorem dX10_pairs_154 : decode cX10_pairs 154 = .ok (.goto 5, 3) := by decide +kernel
theorem dX10_pairs_157 : decode cX10_pairs 157 = .ok (.iload 4, 2) := by decide +kernel
theorem dX10_pairs_159 : decode cX10_pairs 159 = .ok (.ireturn, 1) := by decide +kernel
theorem dX10_shut_0 : decode cX10_shut 0 = .ok (.aload_n 0, 1) := by decide +kernel
theorem dX10_shut_1 : decode cX10_shut 1 = .ok (.iload_n 1, 1) := by decide +kernel
theorem dX10_shut_2 : decode cX10_shut 2 = .ok (.invokevirtual 122, 3) := by decide +kernel
theorem dX10_shut_5 : decode cX10_shut 5 = .ok (.ifCond .eq 11, 3) := by decide +kernel
theorem dX10_shut_8 : decode cX10_shut 8 = .ok (.aload_n 0, 1) := by decide +kernel
theorem dX10_shut_9 : decode cX10_shut 9 = .ok (.iload_n 2, 1) := by decide +kernel
theorem dX10_shut_10 : decode cX10_shut 10 = .ok (.invokevirtual 122, 3) := by decide +kernel
theorem dX10_shut_13 : decode cX10_shut 13 = .ok (.ifCond .ne 12, 3) := by decide +kernel
theorem dX10_shut_16 : decode cX10_shut 16 = .ok (.ldc 128, 2) := by decide +kernel
theorem dX10_shut_18 : decode cX10_shut 18 = .ok (.aload_n 0, 1) := by decide +kernel
theorem dX10_shut_19 : decode cX10_shut 19 = .ok (.iconst (-1), 1) := by decide +kernel
theorem dX10_shut_20 : decode cX10_shut 20 = .ok (.invokevirtual 68, 3) := by decide +kernel
theorem dX10_shut_23 : decode cX10_shut 23 = .ok (.isub, 1) := by decide +kernel
theorem dX10_shut_24 : decode cX10_shut 24 = .ok (.ireturn, 1) := by decide +kernel
theorem dX10_shut_25 : decode cX10_shut 25 = .ok (.aload_n 0, 1) := by decide +kernel
theorem dX10_shut_26 : decode cX10_shut 26 = .ok (.iload_n 1, 1) := by decide +kernel
theorem dX10_shut_27 : decode cX10_shut 27 = .ok (.invokevirtual 129, 3) := by decide +kernel
theorem dX10_shut_30 : decode cX10_shut 30 = .ok (.ifCond .ne 13, 3) := by decide +kernel
theorem dX10_shut_33 : decode cX10_shut 33 = .ok (.ldc 128, 2) := by decide +kernel
theorem dX10_shut_35 : decode cX10_shut 35 = .ok (.aload_n 0, 1) := by decide +kernel
theorem dX10_shut_36 : decode cX10_shut 36 = .ok (.bipush (-3), 2) := by decide +kernel
theorem dX10_shut_38 : decode cX10_shut 38 = .ok (.invokevirtual 68, 3) := by decide +kernel
theorem dX10_shut_41 : decode cX10_shut 41 = .ok (.isub, 1) := by decide +kernel
theorem dX10_shut_42 : decode cX10_shut 42 = .ok (.ireturn, 1) := by decide +kernel
theorem dX10_shut_43 : decode cX10_shut 43 = .ok (.aload_n 0, 1) := by decide +kernel
theorem dX10_shut_44 : decode cX10_shut 44 = .ok (.invokevirtual 144, 3) := by decide +kernel
theorem dX10_shut_47 : decode cX10_shut 47 = .ok (.aload_n 0, 1) := by decide +kernel
theorem dX10_shut_48 : decode cX10_shut 48 = .ok (.iload_n 2, 1) := by decide +kernel
theorem dX10_shut_49 : decode cX10_shut 49 = .ok (.invokevirtual 141, 3) := by decide +kernel
theorem dX10_shut_52 : decode cX10_shut 52 = .ok (.invokestatic 132, 3) := by decide +kernel
theorem dX10_shut_55 : decode cX10_shut 55 = .ok (.istore_n 3, 1) := by decide +kernel
theorem dX10_shut_56 : decode cX10_shut 56 = .ok (.aload_n 0, 1) := by decide +kernel
theorem dX10_shut_57 : decode cX10_shut 57 = .ok (.iconst 1, 1) := by decide +kernel
theorem dX10_shut_58 : decode cX10_shut 58 = .ok (.iload_n 1, 1) := by decide +kernel
theorem dX10_shut_59 : decode cX10_shut 59 = .ok (.ishl, 1) := by decide +kernel
theorem dX10_shut_60 : decode cX10_shut 60 = .ok (.invokevirtual 159, 3) := by decide +kernel
theorem dX10_shut_63 : decode cX10_shut 63 = .ok (.lstore 4, 2) := by decide +kernel
theorem dX10_shut_65 : decode cX10_shut 65 = .ok (.aload_n 0, 1) := by decide +kernel
theorem dX10_shut_66 : decode cX10_shut 66 = .ok (.invokevirtual 144, 3) := by decide +kernel
theorem dX10_shut_69 : decode cX10_shut 69 = .ok (.aload_n 0, 1) := by decide +kernel
theorem dX10_shut_70 : decode cX10_shut 70 = .ok (.iload_n 2, 1) := by decide +kernel
theorem dX10_shut_71 : decode cX10_shut 71 = .ok (.invokevirtual 141, 3) := by decide +kernel
theorem dX10_shut_74 : decode cX10_shut 74 = .ok (.invokestatic 132, 3) := by decide +kernel
theorem dX10_shut_77 : decode cX10_shut 77 = .ok (.istore 6, 2) := by decide +kernel
theorem dX10_shut_79 : decode cX10_shut 79 = .ok (.aload_n 0, 1) := by decide +kernel
theorem dX10_shut_80 : decode cX10_shut 80 = .ok (.lload 4, 2) := by decide +kernel
theorem dX10_shut_82 : decode cX10_shut 82 = .ok (.invokevirtual 166, 3) := by decide +kernel
theorem dX10_shut_85 : decode cX10_shut 85 = .ok (.iload 6, 2) := by decide +kernel
theorem dX10_shut_87 : decode cX10_shut 87 = .ok (.iload_n 3, 1) := by decide +kernel
theorem dX10_shut_88 : decode cX10_shut 88 = .ok (.isub, 1) := by decide +kernel
theorem dX10_shut_89 : decode cX10_shut 89 = .ok (.ireturn, 1) := by decide +kernel
theorem dX10_chair_0 : decode cX10_chair 0 = .ok (.aload_n 0, 1) := by decide +kernel
theorem dX10_chair_1 : decode cX10_chair 1 = .ok (.invokevirtual 144, 3) := by decide +kernel
theorem dX10_chair_4 : decode cX10_chair 4 = .ok (.iconst 0, 1) := by decide +kernel
theorem dX10_chair_5 : decode cX10_chair 5 = .ok (.istore_n 1, 1) := by decide +kernel
theorem dX10_chair_6 : decode cX10_chair 6 = .ok (.iconst (-1), 1) := by decide +kernel
theorem dX10_chair_7 : decode cX10_chair 7 = .ok (.istore_n 2, 1) := by decide +kernel
theorem dX10_chair_8 : decode cX10_chair 8 = .ok (.iconst 0, 1) := by decide +kernel
theorem dX10_chair_9 : decode cX10_chair 9 = .ok (.istore_n 3, 1) := by decide +kernel
theorem dX10_chair_10 : decode cX10_chair 10 = .ok (.iload_n 3, 1) := by decide +kernel
theorem dX10_chair_11 : decode cX10_chair 11 = .ok (.aload_n 0, 1) := by decide +kernel
theorem dX10_chair_12 : decode cX10_chair 12 = .ok (.getfield 61, 3) := by decide +kernel
theorem dX10_chair_15 : decode cX10_chair 15 = .ok (.if_icmp .ge 84, 3) := by decide +kernel
theorem dX10_chair_18 : decode cX10_chair 18 = .ok (.iconst 0, 1) := by decide +kernel
theorem dX10_chair_19 : decode cX10_chair 19 = .ok (.istore 4, 2) := by decide +kernel
theorem dX10_chair_21 : decode cX10_chair 21 = .ok (.iconst 0, 1) := by decide +kernel
theorem dX10_chair_22 : decode cX10_chair 22 = .ok (.istore 5, 2) := by decide +kernel
theorem dX10_chair_24 : decode cX10_chair 24 = .ok (.iload 5, 2) := by decide +kernel
theorem dX10_chair_26 : decode cX10_chair 26 = .ok (.aload_n 0, 1) := by decide +kernel
theorem dX10_chair_27 : decode cX10_chair 27 = .ok (.getfield 65, 3) := by decide +kernel
theorem dX10_chair_30 : decode cX10_chair 30 = .ok (.if_icmp .ge 45, 3) := by decide +kernel
theorem dX10_chair_33 : decode cX10_chair 33 = .ok (.aload_n 0, 1) := by decide +kernel
theorem dX10_chair_34 : decode cX10_chair 34 = .ok (.getfield 13, 3) := by decide +kernel
theorem dX10_chair_37 : decode cX10_chair 37 = .ok (.iload 5, 2) := by decide +kernel
theorem dX10_chair_39 : decode cX10_chair 39 = .ok (.iaload, 1) := by decide +kernel
theorem dX10_chair_40 : decode cX10_chair 40 = .ok (.iload_n 3, 1) := by decide +kernel
theorem dX10_chair_41 : decode cX10_chair 41 = .ok (.if_icmp .eq 14, 3) := by decide +kernel
theorem dX10_chair_44 : decode cX10_chair 44 = .ok (.aload_n 0, 1) := by decide +kernel
theorem dX10_chair_45 : decode cX10_chair 45 = .ok (.getfield 16, 3) := by decide +kernel
theorem dX10_chair_48 : decode cX10_chair 48 = .ok (.iload 5, 2) := by decide +kernel
theorem dX10_chair_50 : decode cX10_chair 50 = .ok (.iaload, 1) := by decide +kernel
theorem dX10_chair_51 : decode cX10_chair 51 = .ok (.iload_n 3, 1) := by decide +kernel
theorem dX10_chair_52 : decode cX10_chair 52 = .ok (.if_icmp .ne 17, 3) := by decide +kernel
theorem dX10_chair_55 : decode cX10_chair 55 = .ok (.iload 4, 2) := by decide +kernel
theorem dX10_chair_57 : decode cX10_chair 57 = .ok (.aload_n 0, 1) := by decide +kernel
theorem dX10_chair_58 : decode cX10_chair 58 = .ok (.iload 5, 2) := by decide +kernel
theorem dX10_chair_60 : decode cX10_chair 60 = .ok (.invokevirtual 141, 3) := by decide +kernel
theorem dX10_chair_63 : decode cX10_chair 63 = .ok (.invokestatic 132, 3) := by decide +kernel
theorem dX10_chair_66 : decode cX10_chair 66 = .ok (.iadd, 1) := by decide +kernel
theorem dX10_chair_67 : decode cX10_chair 67 = .ok (.istore 4, 2) := by decide +kernel
theorem dX10_chair_69 : decode cX10_chair 69 = .ok (.iinc 5 1, 3) := by decide +kernel
theorem dX10_chair_72 : decode cX10_chair 72 = .ok (.goto (-48), 3) := by decide +kernel
theorem dX10_chair_75 : decode cX10_chair 75 = .ok (.iload_n 2, 1) := by decide +kernel
theorem dX10_chair_76 : decode cX10_chair 76 = .ok (.ifCond .lt 12, 3) := by decide +kernel
theorem dX10_chair_79 : decode cX10_chair 79 = .ok (.iload 4, 2) := by decide +kernel
theorem dX10_chair_81 : decode cX10_chair 81 = .ok (.iload_n 2, 1) := by decide +kernel
theorem dX10_chair_82 : decode cX10_chair 82 = .ok (.if_icmp .lt 6, 3) := by decide +kernel
theorem dX10_chair_85 : decode cX10_chair 85 = .ok (.goto 8, 3) := by decide +kernel
theorem dX10_chair_88 : decode cX10_chair 88 = .ok (.iload 4, 2) := by decide +kernel
theorem dX10_chair_90 : decode cX10_chair 90 = .ok (.istore_n 2, 1) := by decide +kernel
theorem dX10_chair_91 : decode cX10_chair 91 = .ok (.iload_n 3, 1) := by decide +kernel
theorem dX10_chair_92 : decode cX10_chair 92 = .ok (.istore_n 1, 1) := by decide +kernel
theorem dX10_chair_93 : decode cX10_chair 93 = .ok (.iinc 3 1, 3) := by decide +kernel
theorem dX10_chair_96 : decode cX10_chair 96 = .ok (.goto (-86), 3) := by decide +kernel
theorem dX10_chair_99 : decode cX10_chair 99 = .ok (.iload_n 1, 1) := by decide +kernel
theorem dX10_chair_100 : decode cX10_chair 100 = .ok (.ireturn, 1) := by decide +kernel
theorem dX10_finger_0 : decode cX10_finger 0 = .ok (.bipush (-9), 2) := by decide +kernel
theorem dX10_finger_2 : decode cX10_finger 2 = .ok (.istore_n 1, 1) := by decide +kernel
theorem dX10_finger_3 : decode cX10_finger 3 = .ok (.iconst 0, 1) := by decide +kernel
theorem dX10_finger_4 : decode cX10_finger 4 = .ok (.istore_n 2, 1) := by decide +kernel
theorem dX10_finger_5 : decode cX10_finger 5 = .ok (.iconst 0, 1) := by decide +kernel
theorem dX10_finger_6 : decode cX10_finger 6 = .ok (.istore_n 3, 1) := by decide +kernel
theorem dX10_finger_7 : decode cX10_finger 7 = .ok (.iload_n 3, 1) := by decide +kernel
theorem dX10_finger_8 : decode cX10_finger 8 = .ok (.aload_n 0, 1) := by decide +kernel
theorem dX10_finger_9 : decode cX10_finger 9 = .ok (.getfield 65, 3) := by decide +kernel
theorem dX10_finger_12 : decode cX10_finger 12 = .ok (.if_icmp .ge 101, 3) := by decide +kernel
theorem dX10_finger_15 : decode cX10_finger 15 = .ok (.aload_n 0, 1) := by decide +kernel
theorem dX10_finger_16 : decode cX10_finger 16 = .ok (.iload_n 3, 1) := by decide +kernel
theorem dX10_finger_17 : decode cX10_finger 17 = .ok (.invokevirtual 129, 3) := by decide +kernel
theorem dX10_finger_20 : decode cX10_finger 20 = .ok (.ifCond .ne 87, 3) := by decide +kernel
theorem dX10_finger_23 : decode cX10_finger 23 = .ok (.aload_n 0, 1) := by decide +kernel
theorem dX10_finger_24 : decode cX10_finger 24 = .ok (.getfield 22, 3) := by decide +kernel
theorem dX10_finger_27 : decode cX10_finger 27 = .ok (.iload_n 3, 1) := by decide +kernel
theorem dX10_finger_28 : decode cX10_finger 28 = .ok (.iaload, 1) := by decide +kernel
theorem dX10_finger_29 : decode cX10_finger 29 = .ok (.bipush 9, 2) := by decide +kernel
theorem dX10_finger_31 : decode cX10_finger 31 = .ok (.if_icmp .ne 6, 3) := by decide +kernel
theorem dX10_finger_34 : decode cX10_finger 34 = .ok (.goto 73, 3) := by decide +kernel
theorem dX10_finger_37 : decode cX10_finger 37 = .ok (.aload_n 0, 1) := by decide +kernel
theorem dX10_finger_38 : decode cX10_finger 38 = .ok (.getfield 22, 3) := by decide +kernel
theorem dX10_finger_41 : decode cX10_finger 41 = .ok (.iload_n 3, 1) := by decide +kernel
theorem dX10_finger_42 : decode cX10_finger 42 = .ok (.iaload, 1) := by decide +kernel
theorem dX10_finger_43 : decode cX10_finger 43 = .ok (.istore 4, 2) := by decide +kernel
theorem dX10_finger_45 : decode cX10_finger 45 = .ok (.aload_n 0, 1) := by decide +kernel
theorem dX10_finger_46 : decode cX10_finger 46 = .ok (.getfield 22, 3) := by decide +kernel
theorem dX10_finger_49 : decode cX10_finger 49 = .ok (.iload_n 3, 1) := by decide +kernel
theorem dX10_finger_50 : decode cX10_finger 50 = .ok (.iload 4, 2) := by decide +kernel
theorem dX10_finger_52 : decode cX10_finger 52 = .ok (.iconst 1, 1) := by decide +kernel
theorem dX10_finger_53 : decode cX10_finger 53 = .ok (.iadd, 1) := by decide +kernel
theorem dX10_finger_54 : decode cX10_finger 54 = .ok (.iastore, 1) := by decide +kernel
theorem dX10_finger_55 : decode cX10_finger 55 = .ok (.aload_n 0, 1) := by decide +kernel
theorem dX10_finger_56 : decode cX10_finger 56 = .ok (.invokevirtual 163, 3) := by decide +kernel
theorem dX10_finger_59 : decode cX10_finger 59 = .ok (.istore 5, 2) := by decide +kernel
theorem dX10_finger_61 : decode cX10_finger 61 = .ok (.aload_n 0, 1) := by decide +kernel
theorem dX10_finger_62 : decode cX10_finger 62 = .ok (.iload_n 3, 1) := by decide +kernel
theorem dX10_finger_63 : decode cX10_finger 63 = .ok (.invokevirtual 141, 3) := by decide +kernel
theorem dX10_finger_66 : decode cX10_finger 66 = .ok (.ifCond .le 7, 3) := by decide +kernel
theorem dX10_finger_69 : decode cX10_finger 69 = .ok (.iconst 1, 1) := by decide +kernel
theorem dX10_finger_70 : decode cX10_finger 70 = .ok (.goto 4, 3) := by decide +kernel
theorem dX10_finger_73 : decode cX10_finger 73 = .ok (.iconst 0, 1) := by decide +kernel
theorem dX10_finger_74 : decode cX10_finger 74 = .ok (.istore 6, 2) := by decide +kernel
theorem dX10_finger_76 : decode cX10_finger 76 = .ok (.aload_n 0, 1) := by decide +kernel
theorem dX10_finger_77 : decode cX10_finger 77 = .ok (.getfield 22, 3) := by decide +kernel
theorem dX10_finger_80 : decode cX10_finger 80 = .ok (.iload_n 3, 1) := by decide +kernel
theorem dX10_finger_81 : decode cX10_finger 81 = .ok (.iload 4, 2) := by decide +kernel
theorem dX10_finger_83 : decode cX10_finger 83 = .ok (.iastore, 1) := by decide +kernel
theorem dX10_finger_84 : decode cX10_finger 84 = .ok (.iload 6, 2) := by decide +kernel
theorem dX10_finger_86 : decode cX10_finger 86 = .ok (.ifCond .eq 21, 3) := by decide +kernel
theorem dX10_finger_89 : decode cX10_finger 89 = .ok (.iload_n 1, 1) := by decide +kernel
theorem dX10_finger_90 : decode cX10_finger 90 = .ok (.ifCond .lt 12, 3) := by decide +kernel
theorem dX10_finger_93 : decode cX10_finger 93 = .ok (.iload 5, 2) := by decide +kernel
theorem dX10_finger_95 : decode cX10_finger 95 = .ok (.iload_n 2, 1) := by decide +kernel
theorem dX10_finger_96 : decode cX10_finger 96 = .ok (.if_icmp .lt 6, 3) := by decide +kernel
theorem dX10_finger_99 : decode cX10_finger 99 = .ok (.goto 8, 3) := by decide +kernel
theorem dX10_finger_102 : decode cX10_finger 102 = .ok (.iload_n 3, 1) := by decide +kernel
theorem dX10_finger_103 : decode cX10_finger 103 = .ok (.istore_n 1, 1) := by decide +kernel
theorem dX10_finger_104 : decode cX10_finger 104 = .ok (.iload 5, 2) := by decide +kernel
theorem dX10_finger_106 : decode cX10_finger 106 = .ok (.istore_n 2, 1) := by decide +kernel
theorem dX10_finger_107 : decode cX10_finger 107 = .ok (.iinc 3 1, 3) := by decide +kernel
theorem dX10_finger_110 : decode cX10_finger 110 = .ok (.goto (-103), 3) := by decide +kernel
theorem dX10_finger_113 : decode cX10_finger 113 = .ok (.iload_n 1, 1) := by decide +kernel
theorem dX10_finger_114 : decode cX10_finger 114 = .ok (.ireturn, 1) := by decide +kernel
theorem dX10_by_0 : decode cX10_by 0 = .ok (.aload_n 0, 1) := by decide +kernel
theorem dX10_by_1 : decode cX10_by 1 = .ok (.getfield 37, 3) := by decide +kernel
theorem dX10_by_4 : decode cX10_by 4 = .ok (.iconst 0, 1) := by decide +kernel
theorem dX10_by_5 : decode cX10_by 5 = .ok (.iaload, 1) := by decide +kernel
theorem dX10_by_6 : decode cX10_by 6 = .ok (.istore 5, 2) := by decide +kernel
theorem dX10_by_8 : decode cX10_by 8 = .ok (.aload_n 0, 1) := by decide +kernel
theorem dX10_by_9 : decode cX10_by 9 = .ok (.getfield 37, 3) := by decide +kernel
theorem dX10_by_12 : decode cX10_by 12 = .ok (.iconst 1, 1) := by decide +kernel
theorem dX10_by_13 : decode cX10_by 13 = .ok (.iaload, 1) := by decide +kernel
theorem dX10_by_14 : decode cX10_by 14 = .ok (.istore 6, 2) := by decide +kernel
theorem dX10_by_16 : decode cX10_by 16 = .ok (.aload_n 0, 1) := by decide +kernel
theorem dX10_by_17 : decode cX10_by 17 = .ok (.getfield 37, 3) := by decide +kernel
theorem dX10_by_20 : decode cX10_by 20 = .ok (.iconst 2, 1) := by decide +kernel
theorem dX10_by_21 : decode cX10_by 21 = .ok (.iaload, 1) := by decide +kernel
theorem dX10_by_22 : decode cX10_by 22 = .ok (.istore 7, 2) := by decide +kernel
theorem dX10_by_24 : decode cX10_by 24 = .ok (.aload_n 0, 1) := by decide +kernel
theorem dX10_by_25 : decode cX10_by 25 = .ok (.getfield 125, 3) := by decide +kernel
theorem dX10_by_28 : decode cX10_by 28 = .ok (.istore 8, 2) := by decide +kernel
theorem dX10_by_30 : decode cX10_by 30 = .ok (.aload_n 0, 1) := by decide +kernel
theorem dX10_by_31 : decode cX10_by 31 = .ok (.getfield 37, 3) := by decide +kernel
theorem dX10_by_34 : decode cX10_by 34 = .ok (.iconst 0, 1) := by decide +kernel
theorem dX10_by_35 : decode cX10_by 35 = .ok (.iload_n 1, 1) := by decide +kernel
theorem dX10_by_36 : decode cX10_by 36 = .ok (.iastore, 1) := by decide +kernel
theorem dX10_by_37 : decode cX10_by 37 = .ok (.aload_n 0, 1) := by decide +kernel
theorem dX10_by_38 : decode cX10_by 38 = .ok (.getfield 37, 3) := by decide +kernel
theorem dX10_by_41 : decode cX10_by 41 = .ok (.iconst 1, 1) := by decide +kernel
theorem dX10_by_42 : decode cX10_by 42 = .ok (.iload_n 2, 1) := by decide +kernel
theorem dX10_by_43 : decode cX10_by 43 = .ok (.iastore, 1) := by decide +kernel
theorem dX10_by_44 : decode cX10_by 44 = .ok (.aload_n 0, 1) := by decide +kernel
theorem dX10_by_45 : decode cX10_by 45 = .ok (.getfield 37, 3) := by decide +kernel
theorem dX10_by_48 : decode cX10_by 48 = .ok (.iconst 2, 1) := by decide +kernel
theorem dX10_by_49 : decode cX10_by 49 = .ok (.iload_n 3, 1) := by decide +kernel
theorem dX10_by_50 : decode cX10_by 50 = .ok (.iastore, 1) := by decide +kernel
theorem dX10_by_51 : decode cX10_by 51 = .ok (.aload_n 0, 1) := by decide +kernel
theorem dX10_by_52 : decode cX10_by 52 = .ok (.iload 4, 2) := by decide +kernel
theorem dX10_by_54 : decode cX10_by 54 = .ok (.putfield 125, 3) := by decide +kernel
theorem dX10_by_57 : decode cX10_by 57 = .ok (.aload_n 0, 1) := by decide +kernel
theorem dX10_by_58 : decode cX10_by 58 = .ok (.invokevirtual 150, 3) := by decide +kernel
theorem dX10_by_61 : decode cX10_by 61 = .ok (.istore 9, 2) := by decide +kernel
theorem dX10_by_63 : decode cX10_by 63 = .ok (.aload_n 0, 1) := by decide +kernel
theorem dX10_by_64 : decode cX10_by 64 = .ok (.getfield 37, 3) := by decide +kernel
theorem dX10_by_67 : decode cX10_by 67 = .ok (.iconst 0, 1) := by decide +kernel
theorem dX10_by_68 : decode cX10_by 68 = .ok (.iload 5, 2) := by decide +kernel
theorem dX10_by_70 : decode cX10_by 70 = .ok (.iastore, 1) := by decide +kernel
theorem dX10_by_71 : decode cX10_by 71 = .ok (.aload_n 0, 1) := by decide +kernel
theorem dX10_by_72 : decode cX10_by 72 = .ok (.getfield 37, 3) := by decide +kernel
theorem dX10_by_75 : decode cX10_by 75 = .ok (.iconst 1, 1) := by decide +kernel
theorem dX10_by_76 : decode cX10_by 76 = .ok (.iload 6, 2) := by decide +kernel
theorem dX10_by_78 : decode cX10_by 78 = .ok (.iastore, 1) := by decide +kernel
theorem dX10_by_79 : decode cX10_by 79 = .ok (.aload_n 0, 1) := by decide +kernel
theorem dX10_by_80 : decode cX10_by 80 = .ok (.getfield 37, 3) := by decide +kernel
theorem dX10_by_83 : decode cX10_by 83 = .ok (.iconst 2, 1) := by decide +kernel
theorem dX10_by_84 : decode cX10_by 84 = .ok (.iload 7, 2) := by decide +kernel
theorem dX10_by_86 : decode cX10_by 86 = .ok (.iastore, 1) := by decide +kernel
theorem dX10_by_87 : decode cX10_by 87 = .ok (.aload_n 0, 1) := by decide +kernel
theorem dX10_by_88 : decode cX10_by 88 = .ok (.iload 8, 2) := by decide +kernel
theorem dX10_by_90 : decode cX10_by 90 = .ok (.putfield 125, 3) := by decide +kernel
theorem dX10_by_93 : decode cX10_by 93 = .ok (.iload 9, 2) := by decide +kernel
theorem dX10_by_95 : decode cX10_by 95 = .ok (.ireturn, 1) := by decide +kernel
theorem dX10_number__0 : decode cX10_number_ 0 = .ok (.iload_n 1, 1) := by decide +kernel
theorem dX10_number__1 : decode cX10_number_ 1 = .ok (.bipush (-50), 2) := by decide +kernel
theorem dX10_number__3 : decode cX10_number_ 3 = .ok (.if_icmp .ge 10, 3) := by decide +kernel
theorem dX10_number__6 : decode cX10_number_ 6 = .ok (.aload_n 0, 1) := by decide +kernel
theorem dX10_number__7 : decode cX10_number_ 7 = .ok (.bipush (-4), 2) := by decide +kernel
theorem dX10_number__9 : decode cX10_number_ 9 = .ok (.invokevirtual 68, 3) := by decide +kernel
theorem dX10_number__12 : decode cX10_number_ 12 = .ok (.ireturn, 1) := by decide +kernel
theorem dX10_number__13 : decode cX10_number_ 13 = .ok (.iload_n 1, 1) := by decide +kernel
theorem dX10_number__14 : decode cX10_number_ 14 = .ok (.bipush 50, 2) := by decide +kernel
theorem dX10_number__16 : decode cX10_number_ 16 = .ok (.if_icmp .le 10, 3) := by decide +kernel
theorem dX10_number__19 : decode cX10_number_ 19 = .ok (.aload_n 0, 1) := by decide +kernel
theorem dX10_number__20 : decode cX10_number_ 20 = .ok (.bipush (-6), 2) := by decide +kernel
theorem dX10_number__22 : decode cX10_number_ 22 = .ok (.invokevirtual 68, 3) := by decide +kernel
theorem dX10_number__25 : decode cX10_number_ 25 = .ok (.ireturn, 1) := by decide +kernel
theorem dX10_number__26 : decode cX10_number_ 26 = .ok (.aload_n 0, 1) := by decide +kernel
theorem dX10_number__27 : decode cX10_number_ 27 = .ok (.iconst 0, 1) := by decide +kernel
theorem dX10_number__28 : decode cX10_number_ 28 = .ok (.iconst 0, 1) := by decide +kernel
theorem dX10_number__29 : decode cX10_number_ 29 = .ok (.aload_n 0, 1) := by decide +kernel
theorem dX10_number__30 : decode cX10_number_ 30 = .ok (.getfield 37, 3) := by decide +kernel
theorem dX10_number__33 : decode cX10_number_ 33 = .ok (.iconst 2, 1) := by decide +kernel
theorem dX10_number__34 : decode cX10_number_ 34 = .ok (.iaload, 1) := by decide +kernel
theorem dX10_number__35 : decode cX10_number_ 35 = .ok (.iload_n 1, 1) := by decide +kernel
theorem dX10_number__36 : decode cX10_number_ 36 = .ok (.invokevirtual 178, 3) := by decide +kernel
theorem dX10_number__39 : decode cX10_number_ 39 = .ok (.ireturn, 1) := by decide +kernel
theorem dX10_winter_0 : decode cX10_winter 0 = .ok (.iconst 0, 1) := by decide +kernel
theorem dX10_winter_1 : decode cX10_winter 1 = .ok (.istore_n 1, 1) := by decide +kernel
theorem dX10_winter_2 : decode cX10_winter 2 = .ok (.iconst 0, 1) := by decide +kernel
theorem dX10_winter_3 : decode cX10_winter 3 = .ok (.istore_n 2, 1) := by decide +kernel
theorem dX10_winter_4 : decode cX10_winter 4 = .ok (.iload_n 2, 1) := by decide +kernel
theorem dX10_winter_5 : decode cX10_winter 5 = .ok (.aload_n 0, 1) := by decide +kernel
theorem dX10_winter_6 : decode cX10_winter 6 = .ok (.getfield 113, 3) := by decide +kernel
theorem dX10_winter_9 : decode cX10_winter 9 = .ok (.if_icmp .ge 57, 3) := by decide +kernel
theorem dX10_winter_12 : decode cX10_winter 12 = .ok (.iload_n 1, 1) := by decide +kernel
theorem dX10_winter_13 : decode cX10_winter 13 = .ok (.aload_n 0, 1) := by decide +kernel
theorem dX10_winter_14 : decode cX10_winter 14 = .ok (.getfield 34, 3) := by decide +kernel
theorem dX10_winter_17 : decode cX10_winter 17 = .ok (.iconst 3, 1) := by decide +kernel
theorem dX10_winter_18 : decode cX10_winter 18 = .ok (.iload_n 2, 1) := by decide +kernel
theorem dX10_winter_19 : decode cX10_winter 19 = .ok (.imul, 1) := by decide +kernel
theorem dX10_winter_20 : decode cX10_winter 20 = .ok (.iaload, 1) := by decide +kernel
theorem dX10_winter_21 : decode cX10_winter 21 = .ok (.aload_n 0, 1) := by decide +kernel
theorem dX10_winter_22 : decode cX10_winter 22 = .ok (.aload_n 0, 1) := by decide +kernel
theorem dX10_winter_23 : decode cX10_winter 23 = .ok (.getfield 34, 3) := by decide +kernel
theorem dX10_winter_26 : decode cX10_winter 26 = .ok (.iconst 3, 1) := by decide +kernel
theorem dX10_winter_27 : decode cX10_winter 27 = .ok (.iload_n 2, 1) := by decide +kernel
theorem dX10_winter_28 : decode cX10_winter 28 = .ok (.imul, 1) := by decide +kernel
theorem dX10_winter_29 : decode cX10_winter 29 = .ok (.iaload, 1) := by decide +kernel
theorem dX10_winter_30 : decode cX10_winter 30 = .ok (.aload_n 0, 1) := by decide +kernel
theorem dX10_winter_31 : decode cX10_winter 31 = .ok (.getfield 34, 3) := by decide +kernel
theorem dX10_winter_34 : decode cX10_winter 34 = .ok (.iconst 3, 1) := by decide +kernel
theorem dX10_winter_35 : decode cX10_winter 35 = .ok (.iload_n 2, 1) := by decide +kernel
theorem dX10_winter_36 : decode cX10_winter 36 = .ok (.imul, 1) := by decide +kernel
theorem dX10_winter_37 : decode cX10_winter 37 = .ok (.iconst 1, 1) := by decide +kernel
theorem dX10_winter_38 : decode cX10_winter 38 = .ok (.iadd, 1) := by decide +kernel
theorem dX10_winter_39 : decode cX10_winter 39 = .ok (.iaload, 1) := by decide +kernel
theorem dX10_winter_40 : decode cX10_winter 40 = .ok (.aload_n 0, 1) := by decide +kernel
theorem dX10_winter_41 : decode cX10_winter 41 = .ok (.getfield 34, 3) := by decide +kernel
theorem dX10_winter_44 : decode cX10_winter 44 = .ok (.iconst 3, 1) := by decide +kernel
theorem dX10_winter_45 : decode cX10_winter 45 = .ok (.iload_n 2, 1) := by decide +kernel
theorem dX10_winter_46 : decode cX10_winter 46 = .ok (.imul, 1) := by decide +kernel
theorem dX10_winter_47 : decode cX10_winter 47 = .ok (.iconst 2, 1) := by decide +kernel
theorem dX10_winter_48 : decode cX10_winter 48 = .ok (.iadd, 1) := by decide +kernel
theorem dX10_winter_49 : decode cX10_winter 49 = .ok (.iaload, 1) := by decide +kernel
theorem dX10_winter_50 : decode cX10_winter 50 = .ok (.aload_n 0, 1) := by decide +kernel
theorem dX10_winter_51 : decode cX10_winter 51 = .ok (.getfield 125, 3) := by decide +kernel
theorem dX10_winter_54 : decode cX10_winter 54 = .ok (.invokevirtual 178, 3) := by decide +kernel
theorem dX10_winter_57 : decode cX10_winter 57 = .ok (.imul, 1) := by decide +kernel
theorem dX10_winter_58 : decode cX10_winter 58 = .ok (.iadd, 1) := by decide +kernel
theorem dX10_winter_59 : decode cX10_winter 59 = .ok (.istore_n 1, 1) := by decide +kernel
theorem dX10_winter_60 : decode cX10_winter 60 = .ok (.iinc 2 1, 3) := by decide +kernel
theorem dX10_winter_63 : decode cX10_winter 63 = .ok (.goto (-59), 3) := by decide +kernel
theorem dX10_winter_66 : decode cX10_winter 66 = .ok (.iload_n 1, 1) := by decide +kernel
theorem dX10_winter_67 : decode cX10_winter 67 = .ok (.ireturn, 1) := by decide +kernel
theorem dX10_turnsAbout_0 : decode cX10_turnsAbout 0 = .ok (.iconst 0, 1) := by decide +kernel
theorem dX10_turnsAbout_1 : decode cX10_turnsAbout 1 = .ok (.istore_n 1, 1) := by decide +kernel
theorem dX10_turnsAbout_2 : decode cX10_turnsAbout 2 = .ok (.iconst 0, 1) := by decide +kernel
theorem dX10_turnsAbout_3 : decode cX10_turnsAbout 3 = .ok (.istore_n 2, 1) := by decide +kernel
theorem dX10_turnsAbout_4 : decode cX10_turnsAbout 4 = .ok (.iconst 0, 1) := by decide +kernel
theorem dX10_turnsAbout_5 : decode cX10_turnsAbout 5 = .ok (.istore_n 3, 1) := by decide +kernel
theorem dX10_turnsAbout_6 : decode cX10_turnsAbout 6 = .ok (.iload_n 3, 1) := by decide +kernel
theorem dX10_turnsAbout_7 : decode cX10_turnsAbout 7 = .ok (.aload_n 0, 1) := by decide +kernel
theorem dX10_turnsAbout_8 : decode cX10_turnsAbout 8 = .ok (.getfield 113, 3) := by decide +kernel
theorem dX10_turnsAbout_11 : decode cX10_turnsAbout 11 = .ok (.if_icmp .ge 98, 3) := by decide +kernel
theorem dX10_turnsAbout_14 : decode cX10_turnsAbout 14 = .ok (.aload_n 0, 1) := by decide +kernel
theorem dX10_turnsAbout_15 : decode cX10_turnsAbout 15 = .ok (.aload_n 0, 1) := by decide +kernel
theorem dX10_turnsAbout_16 : decode cX10_turnsAbout 16 = .ok (.getfield 34, 3) := by decide +kernel
theorem dX10_turnsAbout_19 : decode cX10_turnsAbout 19 = .ok (.iconst 3, 1) := by decide +kernel
theorem dX10_turnsAbout_20 : decode cX10_turnsAbout 20 = .ok (.iload_n 3, 1) := by decide +kernel
theorem dX10_turnsAbout_21 : decode cX10_turnsAbout 21 = .ok (.imul, 1) := by decide +kernel
theorem dX10_turnsAbout_22 : decode cX10_turnsAbout 22 = .ok (.iaload, 1) := by decide +kernel
theorem dX10_turnsAbout_23 : decode cX10_turnsAbout 23 = .ok (.aload_n 0, 1) := by decide +kernel
theorem dX10_turnsAbout_24 : decode cX10_turnsAbout 24 = .ok (.getfield 34, 3) := by decide +kernel
theorem dX10_turnsAbout_27 : decode cX10_turnsAbout 27 = .ok (.iconst 3, 1) := by decide +kernel
theorem dX10_turnsAbout_28 : decode cX10_turnsAbout 28 = .ok (.iload_n 3, 1) := by decide +kernel
theorem dX10_turnsAbout_29 : decode cX10_turnsAbout 29 = .ok (.imul, 1) := by decide +kernel
theorem dX10_turnsAbout_30 : decode cX10_turnsAbout 30 = .ok (.iconst 1, 1) := by decide +kernel
theorem dX10_turnsAbout_31 : decode cX10_turnsAbout 31 = .ok (.iadd, 1) := by decide +kernel
theorem dX10_turnsAbout_32 : decode cX10_turnsAbout 32 = .ok (.iaload, 1) := by decide +kernel
theorem dX10_turnsAbout_33 : decode cX10_turnsAbout 33 = .ok (.aload_n 0, 1) := by decide +kernel
theorem dX10_turnsAbout_34 : decode cX10_turnsAbout 34 = .ok (.getfield 34, 3) := by decide +kernel
theorem dX10_turnsAbout_37 : decode cX10_turnsAbout 37 = .ok (.iconst 3, 1) := by decide +kernel
theorem dX10_turnsAbout_38 : decode cX10_turnsAbout 38 = .ok (.iload_n 3, 1) := by decide +kernel
theorem dX10_turnsAbout_39 : decode cX10_turnsAbout 39 = .ok (.imul, 1) := by decide +kernel
theorem dX10_turnsAbout_40 : decode cX10_turnsAbout 40 = .ok (.iconst 2, 1) := by decide +kernel
theorem dX10_turnsAbout_41 : decode cX10_turnsAbout 41 = .ok (.iadd, 1) := by decide +kernel
theorem dX10_turnsAbout_42 : decode cX10_turnsAbout 42 = .ok (.iaload, 1) := by decide +kernel
theorem dX10_turnsAbout_43 : decode cX10_turnsAbout 43 = .ok (.aload_n 0, 1) := by decide +kernel
theorem dX10_turnsAbout_44 : decode cX10_turnsAbout 44 = .ok (.getfield 125, 3) := by decide +kernel
theorem dX10_turnsAbout_47 : decode cX10_turnsAbout 47 = .ok (.invokevirtual 178, 3) := by decide +kernel
theorem dX10_turnsAbout_50 : decode cX10_turnsAbout 50 = .ok (.pop, 1) := by decide +kernel
theorem dX10_turnsAbout_51 : decode cX10_turnsAbout 51 = .ok (.iconst 0, 1) := by decide +kernel
theorem dX10_turnsAbout_52 : decode cX10_turnsAbout 52 = .ok (.istore 4, 2) := by decide +kernel
theorem dX10_turnsAbout_54 : decode cX10_turnsAbout 54 = .ok (.iload 4, 2) := by decide +kernel
theorem dX10_turnsAbout_56 : decode cX10_turnsAbout 56 = .ok (.aload_n 0, 1) := by decide +kernel
theorem dX10_turnsAbout_57 : decode cX10_turnsAbout 57 = .ok (.getfield 65, 3) := by decide +kernel
theorem dX10_turnsAbout_60 : decode cX10_turnsAbout 60 = .ok (.if_icmp .ge 43, 3) := by decide +kernel
theorem dX10_turnsAbout_63 : decode cX10_turnsAbout 63 = .ok (.aload_n 0, 1) := by decide +kernel
theorem dX10_turnsAbout_64 : decode cX10_turnsAbout 64 = .ok (.iload 4, 2) := by decide +kernel
theorem dX10_turnsAbout_66 : decode cX10_turnsAbout 66 = .ok (.invokevirtual 147, 3) := by decide +kernel
theorem dX10_turnsAbout_69 : decode cX10_turnsAbout 69 = .ok (.istore 5, 2) := by decide +kernel
theorem dX10_turnsAbout_71 : decode cX10_turnsAbout 71 = .ok (.iload 5, 2) := by decide +kernel
theorem dX10_turnsAbout_73 : decode cX10_turnsAbout 73 = .ok (.iconst 1, 1) := by decide +kernel
theorem dX10_turnsAbout_74 : decode cX10_turnsAbout 74 = .ok (.if_icmp .ne 10, 3) := by decide +kernel
theorem dX10_turnsAbout_77 : decode cX10_turnsAbout 77 = .ok (.iload_n 1, 1) := by decide +kernel
theorem dX10_turnsAbout_78 : decode cX10_turnsAbout 78 = .ok (.iconst 1, 1) := by decide +kernel
theorem dX10_turnsAbout_79 : decode cX10_turnsAbout 79 = .ok (.iload 4, 2) := by decide +kernel
theorem dX10_turnsAbout_81 : decode cX10_turnsAbout 81 = .ok (.ishl, 1) := by decide +kernel
theorem dX10_turnsAbout_82 : decode cX10_turnsAbout 82 = .ok (.ior, 1) := by decide +kernel
theorem dX10_turnsAbout_83 : decode cX10_turnsAbout 83 = .ok (.istore_n 1, 1) := by decide +kernel
theorem dX10_turnsAbout_84 : decode cX10_turnsAbout 84 = .ok (.iload 5, 2) := by decide +kernel
theorem dX10_turnsAbout_86 : decode cX10_turnsAbout 86 = .ok (.iconst 2, 1) := by decide +kernel
theorem dX10_turnsAbout_87 : decode cX10_turnsAbout 87 = .ok (.if_icmp .ne 10, 3) := by decide +kernel
theorem dX10_turnsAbout_90 : decode cX10_turnsAbout 90 = .ok (.iload_n 2, 1) := by decide +kernel
theorem dX10_turnsAbout_91 : decode cX10_turnsAbout 91 = .ok (.iconst 1, 1) := by decide +kernel
theorem dX10_turnsAbout_92 : decode cX10_turnsAbout 92 = .ok (.iload 4, 2) := by decide +kernel
theorem dX10_turnsAbout_94 : decode cX10_turnsAbout 94 = .ok (.ishl, 1) := by decide +kernel
theorem dX10_turnsAbout_95 : decode cX10_turnsAbout 95 = .ok (.ior, 1) := by decide +kernel
theorem dX10_turnsAbout_96 : decode cX10_turnsAbout 96 = .ok (.istore_n 2, 1) := by decide +kernel
theorem dX10_turnsAbout_97 : decode cX10_turnsAbout 97 = .ok (.iinc 4 1, 3) := by decide +kernel
theorem dX10_turnsAbout_100 : decode cX10_turnsAbout 100 = .ok (.goto (-46), 3) := by decide +kernel
theorem dX10_turnsAbout_103 : decode cX10_turnsAbout 103 = .ok (.iinc 3 1, 3) := by decide +kernel
theorem dX10_turnsAbout_106 : decode cX10_turnsAbout 106 = .ok (.goto (-100), 3) := by decide +kernel
theorem dX10_turnsAbout_109 : decode cX10_turnsAbout 109 = .ok (.iload_n 1, 1) := by decide +kernel
theorem dX10_turnsAbout_110 : decode cX10_turnsAbout 110 = .ok (.iload_n 2, 1) := by decide +kernel
theorem dX10_turnsAbout_111 : decode cX10_turnsAbout 111 = .ok (.iand, 1) := by decide +kernel
theorem dX10_turnsAbout_112 : decode cX10_turnsAbout 112 = .ok (.ireturn, 1) := by decide +kernel
theorem dX10_sizes_0 : decode cX10_sizes 0 = .ok (.aload_n 0, 1) := by decide +kernel
theorem dX10_sizes_1 : decode cX10_sizes 1 = .ok (.iload_n 1, 1) := by decide +kernel
theorem dX10_sizes_2 : decode cX10_sizes 2 = .ok (.invokevirtual 122, 3) := by decide +kernel
theorem dX10_sizes_5 : decode cX10_sizes 5 = .ok (.ifCond .ne 9, 3) := by decide +kernel
theorem dX10_sizes_8 : decode cX10_sizes 8 = .ok (.aload_n 0, 1) := by decide +kernel
theorem dX10_sizes_9 : decode cX10_sizes 9 = .ok (.iconst (-1), 1) := by decide +kernel
theorem dX10_sizes_10 : decode cX10_sizes 10 = .ok (.invokevirtual 68, 3) := by decide +kernel
theorem dX10_sizes_13 : decode cX10_sizes 13 = .ok (.ireturn, 1) := by decide +kernel
theorem dX10_sizes_14 : decode cX10_sizes 14 = .ok (.iload_n 3, 1) := by decide +kernel
theorem dX10_sizes_15 : decode cX10_sizes 15 = .ok (.ifCond .lt 8, 3) := by decide +kernel
theorem dX10_sizes_18 : decode cX10_sizes 18 = .ok (.iload_n 3, 1) := by decide +kernel
theorem dX10_sizes_19 : decode cX10_sizes 19 = .ok (.iconst 2, 1) := by decide +kernel
theorem dX10_sizes_20 : decode cX10_sizes 20 = .ok (.if_icmp .le 10, 3) := by decide +kernel
theorem dX10_sizes_23 : decode cX10_sizes 23 = .ok (.aload_n 0, 1) := by decide +kernel
theorem dX10_sizes_24 : decode cX10_sizes 24 = .ok (.bipush (-2), 2) := by decide +kernel
theorem dX10_sizes_26 : decode cX10_sizes 26 = .ok (.invokevirtual 68, 3) := by decide +kernel
theorem dX10_sizes_29 : decode cX10_sizes 29 = .ok (.ireturn, 1) := by decide +kernel
theorem dX10_sizes_30 : decode cX10_sizes 30 = .ok (.aload_n 0, 1) := by decide +kernel
theorem dX10_sizes_31 : decode cX10_sizes 31 = .ok (.getfield 22, 3) := by decide +kernel
theorem dX10_sizes_34 : decode cX10_sizes 34 = .ok (.iload_n 1, 1) := by decide +kernel
theorem dX10_sizes_35 : decode cX10_sizes 35 = .ok (.iaload, 1) := by decide +kernel
theorem dX10_sizes_36 : decode cX10_sizes 36 = .ok (.istore 4, 2) := by decide +kernel
theorem dX10_sizes_38 : decode cX10_sizes 38 = .ok (.bipush (-9), 2) := by decide +kernel
theorem dX10_sizes_40 : decode cX10_sizes 40 = .ok (.istore 5, 2) := by decide +kernel
theorem dX10_sizes_42 : decode cX10_sizes 42 = .ok (.bipush (-9), 2) := by decide +kernel
theorem dX10_sizes_44 : decode cX10_sizes 44 = .ok (.istore 6, 2) := by decide +kernel
theorem dX10_sizes_46 : decode cX10_sizes 46 = .ok (.iconst 0, 1) := by decide +kernel
theorem dX10_sizes_47 : decode cX10_sizes 47 = .ok (.istore 7, 2) := by decide +kernel
theorem dX10_sizes_49 : decode cX10_sizes 49 = .ok (.iconst 0, 1) := by decide +kernel
theorem dX10_sizes_50 : decode cX10_sizes 50 = .ok (.istore 8, 2) := by decide +kernel
theorem dX10_sizes_52 : decode cX10_sizes 52 = .ok (.iload 8, 2) := by decide +kernel
theorem dX10_sizes_54 : decode cX10_sizes 54 = .ok (.bipush 10, 2) := by decide +kernel
theorem dX10_sizes_56 : decode cX10_sizes 56 = .ok (.if_icmp .ge 49, 3) := by decide +kernel
theorem dX10_sizes_59 : decode cX10_sizes 59 = .ok (.aload_n 0, 1) := by decide +kernel
theorem dX10_sizes_60 : decode cX10_sizes 60 = .ok (.getfield 22, 3) := by decide +kernel
theorem dX10_sizes_63 : decode cX10_sizes 63 = .ok (.iload_n 1, 1) := by decide +kernel
theorem dX10_sizes_64 : decode cX10_sizes 64 = .ok (.iload 8, 2) := by decide +kernel
theorem dX10_sizes_66 : decode cX10_sizes 66 = .ok (.iastore, 1) := by decide +kernel
theorem dX10_sizes_67 : decode cX10_sizes 67 = .ok (.aload_n 0, 1) := by decide +kernel
theorem dX10_sizes_68 : decode cX10_sizes 68 = .ok (.invokevirtual 144, 3) := by decide +kernel
theorem dX10_sizes_71 : decode cX10_sizes 71 = .ok (.aload_n 0, 1) := by decide +kernel
theorem dX10_sizes_72 : decode cX10_sizes 72 = .ok (.iload_n 1, 1) := by decide +kernel
theorem dX10_sizes_73 : decode cX10_sizes 73 = .ok (.invokevirtual 141, 3) := by decide +kernel
theorem dX10_sizes_76 : decode cX10_sizes 76 = .ok (.iload_n 2, 1) := by decide +kernel
theorem dX10_sizes_77 : decode cX10_sizes 77 = .ok (.if_icmp .eq 6, 3) := by decide +kernel
theorem dX10_sizes_80 : decode cX10_sizes 80 = .ok (.goto 19, 3) := by decide +kernel
theorem dX10_sizes_83 : decode cX10_sizes 83 = .ok (.iinc 7 1, 3) := by decide +kernel
theorem dX10_sizes_86 : decode cX10_sizes 86 = .ok (.iload 8, 2) := by decide +kernel
theorem dX10_sizes_88 : decode cX10_sizes 88 = .ok (.istore 6, 2) := by decide +kernel
theorem dX10_sizes_90 : decode cX10_sizes 90 = .ok (.iload 5, 2) := by decide +kernel
theorem dX10_sizes_92 : decode cX10_sizes 92 = .ok (.ifCond .ge 7, 3) := by decide +kernel
theorem dX10_sizes_95 : decode cX10_sizes 95 = .ok (.iload 8, 2) := by decide +kernel
theorem dX10_sizes_97 : decode cX10_sizes 97 = .ok (.istore 5, 2) := by decide +kernel
theorem dX10_sizes_99 : decode cX10_sizes 99 = .ok (.iinc 8 1, 3) := by decide +kernel
theorem dX10_sizes_102 : decode cX10_sizes 102 = .ok (.goto (-50), 3) := by decide +kernel
theorem dX10_sizes_105 : decode cX10_sizes 105 = .ok (.aload_n 0, 1) := by decide +kernel
theorem dX10_sizes_106 : decode cX10_sizes 106 = .ok (.getfield 22, 3) := by decide +kernel
theorem dX10_sizes_109 : decode cX10_sizes 109 = .ok (.iload_n 1, 1) := by decide +kernel
theorem dX10_sizes_110 : decode cX10_sizes 110 = .ok (.iload 4, 2) := by decide +kernel
theorem dX10_sizes_112 : decode cX10_sizes 112 = .ok (.iastore, 1) := by decide +kernel
theorem dX10_sizes_113 : decode cX10_sizes 113 = .ok (.iload_n 3, 1) := by decide +kernel
theorem dX10_sizes_114 : decode cX10_sizes 114 = .ok (.ifCond .ne 8, 3) := by decide +kernel
theorem dX10_sizes_117 : decode cX10_sizes 117 = .ok (.iload 5, 2) := by decide +kernel
theorem dX10_sizes_119 : decode cX10_sizes 119 = .ok (.goto 15, 3) := by decide +kernel
theorem dX10_sizes_122 : decode cX10_sizes 122 = .ok (.iload_n 3, 1) := by decide +kernel
theorem dX10_sizes_123 : decode cX10_sizes 123 = .ok (.iconst 1, 1) := by decide +kernel
theorem dX10_sizes_124 : decode cX10_sizes 124 = .ok (.if_icmp .ne 8, 3) := by decide +kernel
theorem dX10_sizes_127 : decode cX10_sizes 127 = .ok (.iload 6, 2) := by decide +kernel
theorem dX10_sizes_129 : decode cX10_sizes 129 = .ok (.goto 5, 3) := by decide +kernel
theorem dX10_sizes_132 : decode cX10_sizes 132 = .ok (.iload 7, 2) := by decide +kernel
theorem dX10_sizes_134 : decode cX10_sizes 134 = .ok (.ireturn, 1) := by decide +kernel
theorem dX10_hidden_0 : decode cX10_hidden 0 = .ok (.iload_n 1, 1) := by decide +kernel
theorem dX10_hidden_1 : decode cX10_hidden 1 = .ok (.ifCond .lt 7, 3) := by decide +kernel
theorem dX10_hidden_4 : decode cX10_hidden 4 = .ok (.iload_n 2, 1) := by decide +kernel
theorem dX10_hidden_5 : decode cX10_hidden 5 = .ok (.ifCond .ge 10, 3) := by decide +kernel
theorem dX10_hidden_8 : decode cX10_hidden 8 = .ok (.aload_n 0, 1) := by decide +kernel
theorem dX10_hidden_9 : decode cX10_hidden 9 = .ok (.bipush (-4), 2) := by decide +kernel
theorem dX10_hidden_11 : decode cX10_hidden 11 = .ok (.invokevirtual 68, 3) := by decide +kernel
theorem dX10_hidden_14 : decode cX10_hidden 14 = .ok (.ireturn, 1) := by decide +kernel
theorem dX10_hidden_15 : decode cX10_hidden 15 = .ok (.iload_n 1, 1) := by decide +kernel
theorem dX10_hidden_16 : decode cX10_hidden 16 = .ok (.bipush 9, 2) := by decide +kernel
theorem dX10_hidden_18 : decode cX10_hidden 18 = .ok (.if_icmp .gt 12, 3) := by decide +kernel
theorem dX10_hidden_21 : decode cX10_hidden 21 = .ok (.aload_n 0, 1) := by decide +kernel
theorem dX10_hidden_22 : decode cX10_hidden 22 = .ok (.getfield 65, 3) := by decide +kernel
theorem dX10_hidden_25 : decode cX10_hidden 25 = .ok (.bipush 10, 2) := by decide +kernel
theorem dX10_hidden_27 : decode cX10_hidden 27 = .ok (.if_icmp .ne 10, 3) := by decide +kernel
theorem dX10_hidden_30 : decode cX10_hidden 30 = .ok (.aload_n 0, 1) := by decide +kernel
theorem dX10_hidden_31 : decode cX10_hidden 31 = .ok (.bipush (-6), 2) := by decide +kernel
theorem dX10_hidden_33 : decode cX10_hidden 33 = .ok (.invokevirtual 68, 3) := by decide +kernel
theorem dX10_hidden_36 : decode cX10_hidden 36 = .ok (.ireturn, 1) := by decide +kernel
theorem dX10_hidden_37 : decode cX10_hidden 37 = .ok (.bipush (-9), 2) := by decide +kernel
theorem dX10_hidden_39 : decode cX10_hidden 39 = .ok (.istore_n 3, 1) := by decide +kernel
theorem dX10_hidden_40 : decode cX10_hidden 40 = .ok (.iconst 0, 1) := by decide +kernel
theorem dX10_hidden_41 : decode cX10_hidden 41 = .ok (.istore 4, 2) := by decide +kernel
theorem dX10_hidden_43 : decode cX10_hidden 43 = .ok (.iload 4, 2) := by decide +kernel
theorem dX10_hidden_45 : decode cX10_hidden 45 = .ok (.aload_n 0, 1) := by decide +kernel
theorem dX10_hidden_46 : decode cX10_hidden 46 = .ok (.getfield 61, 3) := by decide +kernel
theorem dX10_hidden_49 : decode cX10_hidden 49 = .ok (.if_icmp .ge 47, 3) := by decide +kernel
theorem dX10_hidden_52 : decode cX10_hidden 52 = .ok (.iload_n 3, 1) := by decide +kernel
theorem dX10_hidden_53 : decode cX10_hidden 53 = .ok (.ifCond .ge 43, 3) := by decide +kernel
theorem dX10_hidden_56 : decode cX10_hidden 56 = .ok (.aload_n 0, 1) := by decide +kernel
theorem dX10_hidden_57 : decode cX10_hidden 57 = .ok (.iload 4, 2) := by decide +kernel
theorem dX10_hidden_59 : decode cX10_hidden 59 = .ok (.bipush (-9), 2) := by decide +kernel
theorem dX10_hidden_61 : decode cX10_hidden 61 = .ok (.iconst 0, 1) := by decide +kernel
theorem dX10_hidden_62 : decode cX10_hidden 62 = .ok (.iload_n 1, 1) := by decide +kernel
theorem dX10_hidden_63 : decode cX10_hidden 63 = .ok (.iconst 5, 1) := by decide +kernel
theorem dX10_hidden_64 : decode cX10_hidden 64 = .ok (.iconst 0, 1) := by decide +kernel
theorem dX10_hidden_65 : decode cX10_hidden 65 = .ok (.iconst 0, 1) := by decide +kernel
theorem dX10_hidden_66 : decode cX10_hidden 66 = .ok (.invokevirtual 109, 3) := by decide +kernel
theorem dX10_hidden_69 : decode cX10_hidden 69 = .ok (.aload_n 0, 1) := by decide +kernel
theorem dX10_hidden_70 : decode cX10_hidden 70 = .ok (.invokevirtual 163, 3) := by decide +kernel
theorem dX10_hidden_73 : decode cX10_hidden 73 = .ok (.iload_n 2, 1) := by decide +kernel
theorem dX10_hidden_74 : decode cX10_hidden 74 = .ok (.if_icmp .ne 6, 3) := by decide +kernel
theorem dX10_hidden_77 : decode cX10_hidden 77 = .ok (.iload 4, 2) := by decide +kernel
theorem dX10_hidden_79 : decode cX10_hidden 79 = .ok (.istore_n 3, 1) := by decide +kernel
theorem dX10_hidden_80 : decode cX10_hidden 80 = .ok (.aload_n 0, 1) := by decide +kernel
theorem dX10_hidden_81 : decode cX10_hidden 81 = .ok (.dup, 1) := by decide +kernel
theorem dX10_hidden_82 : decode cX10_hidden 82 = .ok (.getfield 65, 3) := by decide +kernel
theorem dX10_hidden_85 : decode cX10_hidden 85 = .ok (.iconst 1, 1) := by decide +kernel
theorem dX10_hidden_86 : decode cX10_hidden 86 = .ok (.isub, 1) := by decide +kernel
theorem dX10_hidden_87 : decode cX10_hidden 87 = .ok (.putfield 65, 3) := by decide +kernel
theorem dX10_hidden_90 : decode cX10_hidden 90 = .ok (.iinc 4 1, 3) := by decide +kernel
theorem dX10_hidden_93 : decode cX10_hidden 93 = .ok (.goto (-50), 3) := by decide +kernel
theorem dX10_hidden_96 : decode cX10_hidden 96 = .ok (.iload_n 3, 1) := by decide +kernel
theorem dX10_hidden_97 : decode cX10_hidden 97 = .ok (.ireturn, 1) := by decide +kernel
theorem dX10_draw_0 : decode cX10_draw 0 = .ok (.aload_n 0, 1) := by decide +kernel
theorem dX10_draw_1 : decode cX10_draw 1 = .ok (.aload_n 0, 1) := by decide +kernel
theorem dX10_draw_2 : decode cX10_draw 2 = .ok (.getfield 182, 3) := by decide +kernel
theorem dX10_draw_5 : decode cX10_draw 5 = .ok (.ldc 185, 2) := by decide +kernel
theorem dX10_draw_7 : decode cX10_draw 7 = .ok (.imul, 1) := by decide +kernel
theorem dX10_draw_8 : decode cX10_draw 8 = .ok (.ldc 186, 2) := by decide +kernel
theorem dX10_draw_10 : decode cX10_draw 10 = .ok (.iadd, 1) := by decide +kernel
theorem dX10_draw_11 : decode cX10_draw 11 = .ok (.putfield 182, 3) := by decide +kernel
theorem dX10_draw_14 : decode cX10_draw 14 = .ok (.aload_n 0, 1) := by decide +kernel
theorem dX10_draw_15 : decode cX10_draw 15 = .ok (.getfield 182, 3) := by decide +kernel
theorem dX10_draw_18 : decode cX10_draw 18 = .ok (.ldc 187, 2) := by decide +kernel
theorem dX10_draw_20 : decode cX10_draw 20 = .ok (.iand, 1) := by decide +kernel
theorem dX10_draw_21 : decode cX10_draw 21 = .ok (.sipush 256, 3) := by decide +kernel
theorem dX10_draw_24 : decode cX10_draw 24 = .ok (.idiv, 1) := by decide +kernel
theorem dX10_draw_25 : decode cX10_draw 25 = .ok (.iload_n 1, 1) := by decide +kernel
theorem dX10_draw_26 : decode cX10_draw 26 = .ok (.irem, 1) := by decide +kernel
theorem dX10_draw_27 : decode cX10_draw 27 = .ok (.ireturn, 1) := by decide +kernel
theorem dX10_days_0 : decode cX10_days 0 = .ok (.iload_n 1, 1) := by decide +kernel
theorem dX10_days_1 : decode cX10_days 1 = .ok (.iconst 1, 1) := by decide +kernel
theorem dX10_days_2 : decode cX10_days 2 = .ok (.if_icmp .ge 10, 3) := by decide +kernel
theorem dX10_days_5 : decode cX10_days 5 = .ok (.aload_n 0, 1) := by decide +kernel
theorem dX10_days_6 : decode cX10_days 6 = .ok (.bipush (-4), 2) := by decide +kernel
theorem dX10_days_8 : decode cX10_days 8 = .ok (.invokevirtual 68, 3) := by decide +kernel
theorem dX10_days_11 : decode cX10_days 11 = .ok (.ireturn, 1) := by decide +kernel
theorem dX10_days_12 : decode cX10_days 12 = .ok (.iload_n 1, 1) := by decide +kernel
theorem dX10_days_13 : decode cX10_days 13 = .ok (.bipush 30, 2) := by decide +kernel
theorem dX10_days_15 : decode cX10_days 15 = .ok (.if_icmp .le 10, 3) := by decide +kernel
theorem dX10_days_18 : decode cX10_days 18 = .ok (.aload_n 0, 1) := by decide +kernel
theorem dX10_days_19 : decode cX10_days 19 = .ok (.bipush (-6), 2) := by decide +kernel
theorem dX10_days_21 : decode cX10_days 21 = .ok (.invokevirtual 68, 3) := by decide +kernel
theorem dX10_days_24 : decode cX10_days 24 = .ok (.ireturn, 1) := by decide +kernel
theorem dX10_days_25 : decode cX10_days 25 = .ok (.aload_n 0, 1) := by decide +kernel
theorem dX10_days_26 : decode cX10_days 26 = .ok (.iload_n 2, 1) := by decide +kernel
theorem dX10_days_27 : decode cX10_days 27 = .ok (.putfield 182, 3) := by decide +kernel
theorem dX10_days_30 : decode cX10_days 30 = .ok (.iconst 0, 1) := by decide +kernel
theorem dX10_days_31 : decode cX10_days 31 = .ok (.istore_n 3, 1) := by decide +kernel
theorem dX10_days_32 : decode cX10_days 32 = .ok (.iconst 0, 1) := by decide +kernel
theorem dX10_days_33 : decode cX10_days 33 = .ok (.istore 4, 2) := by decide +kernel
theorem dX10_days_35 : decode cX10_days 35 = .ok (.iload 4, 2) := by decide +kernel
theorem dX10_days_37 : decode cX10_days 37 = .ok (.iload_n 1, 1) := by decide +kernel
theorem dX10_days_38 : decode cX10_days 38 = .ok (.if_icmp .ge 53, 3) := by decide +kernel
theorem dX10_days_41 : decode cX10_days 41 = .ok (.aload_n 0, 1) := by decide +kernel
theorem dX10_days_42 : decode cX10_days 42 = .ok (.bipush 41, 2) := by decide +kernel
theorem dX10_days_44 : decode cX10_days 44 = .ok (.invokevirtual 188, 3) := by decide +kernel
theorem dX10_days_47 : decode cX10_days 47 = .ok (.istore 5, 2) := by decide +kernel
theorem dX10_days_49 : decode cX10_days 49 = .ok (.aload_n 0, 1) := by decide +kernel
theorem dX10_days_50 : decode cX10_days 50 = .ok (.bipush 21, 2) := by decide +kernel
theorem dX10_days_52 : decode cX10_days 52 = .ok (.invokevirtual 188, 3) := by decide +kernel
theorem dX10_days_55 : decode cX10_days 55 = .ok (.istore 6, 2) := by decide +kernel
theorem dX10_days_57 : decode cX10_days 57 = .ok (.aload_n 0, 1) := by decide +kernel
theorem dX10_days_58 : decode cX10_days 58 = .ok (.iload 5, 2) := by decide +kernel
theorem dX10_days_60 : decode cX10_days 60 = .ok (.iload 6, 2) := by decide +kernel
theorem dX10_days_62 : decode cX10_days 62 = .ok (.aload_n 0, 1) := by decide +kernel
theorem dX10_days_63 : decode cX10_days 63 = .ok (.iconst 4, 1) := by decide +kernel
theorem dX10_days_64 : decode cX10_days 64 = .ok (.invokevirtual 188, 3) := by decide +kernel
theorem dX10_days_67 : decode cX10_days 67 = .ok (.aload_n 0, 1) := by decide +kernel
theorem dX10_days_68 : decode cX10_days 68 = .ok (.getfield 125, 3) := by decide +kernel
theorem dX10_days_71 : decode cX10_days 71 = .ok (.invokevirtual 178, 3) := by decide +kernel
theorem dX10_days_74 : decode cX10_days 74 = .ok (.pop, 1) := by decide +kernel
theorem dX10_days_75 : decode cX10_days 75 = .ok (.aload_n 0, 1) := by decide +kernel
theorem dX10_days_76 : decode cX10_days 76 = .ok (.invokevirtual 153, 3) := by decide +kernel
theorem dX10_days_79 : decode cX10_days 79 = .ok (.ifCond .eq 6, 3) := by decide +kernel
theorem dX10_days_82 : decode cX10_days 82 = .ok (.iinc 3 1, 3) := by decide +kernel
theorem dX10_days_85 : decode cX10_days 85 = .ok (.iinc 4 1, 3) := by decide +kernel
theorem dX10_days_88 : decode cX10_days 88 = .ok (.goto (-53), 3) := by decide +kernel
theorem dX10_days_91 : decode cX10_days 91 = .ok (.iload_n 3, 1) := by decide +kernel
theorem dX10_days_92 : decode cX10_days 92 = .ok (.ireturn, 1) := by decide +kernel
theorem dX10_row_0 : decode cX10_row 0 = .ok (.iload_n 1, 1) := by decide +kernel
theorem dX10_row_1 : decode cX10_row 1 = .ok (.ifCond .ge 10, 3) := by decide +kernel
theorem dX10_row_4 : decode cX10_row 4 = .ok (.aload_n 0, 1) := by decide +kernel
theorem dX10_row_5 : decode cX10_row 5 = .ok (.bipush (-4), 2) := by decide +kernel
theorem dX10_row_7 : decode cX10_row 7 = .ok (.invokevirtual 68, 3) := by decide +kernel
theorem dX10_row_10 : decode cX10_row 10 = .ok (.ireturn, 1) := by decide +kernel
theorem dX10_row_11 : decode cX10_row 11 = .ok (.iload_n 1, 1) := by decide +kernel
theorem dX10_row_12 : decode cX10_row 12 = .ok (.iconst 2, 1) := by decide +kernel
theorem dX10_row_13 : decode cX10_row 13 = .ok (.if_icmp .gt 12, 3) := by decide +kernel
theorem dX10_row_16 : decode cX10_row 16 = .ok (.aload_n 0, 1) := by decide +kernel
theorem dX10_row_17 : decode cX10_row 17 = .ok (.getfield 191, 3) := by decide +kernel
theorem dX10_row_20 : decode cX10_row 20 = .ok (.bipush 10, 2) := by decide +kernel
theorem dX10_row_22 : decode cX10_row 22 = .ok (.if_icmp .ne 10, 3) := by decide +kernel
theorem dX10_row_25 : decode cX10_row 25 = .ok (.aload_n 0, 1) := by decide +kernel
theorem dX10_row_26 : decode cX10_row 26 = .ok (.bipush (-6), 2) := by decide +kernel
theorem dX10_row_28 : decode cX10_row 28 = .ok (.invokevirtual 68, 3) := by decide +kernel
theorem dX10_row_31 : decode cX10_row 31 = .ok (.ireturn, 1) := by decide +kernel
theorem dX10_row_32 : decode cX10_row 32 = .ok (.aload_n 0, 1) := by decide +kernel
theorem dX10_row_33 : decode cX10_row 33 = .ok (.getfield 40, 3) := by decide +kernel
theorem dX10_row_36 : decode cX10_row 36 = .ok (.aload_n 0, 1) := by decide +kernel
theorem dX10_row_37 : decode cX10_row 37 = .ok (.getfield 191, 3) := by decide +kernel
theorem dX10_row_40 : decode cX10_row 40 = .ok (.iload_n 1, 1) := by decide +kernel
theorem dX10_row_41 : decode cX10_row 41 = .ok (.iastore, 1) := by decide +kernel
theorem dX10_row_42 : decode cX10_row 42 = .ok (.aload_n 0, 1) := by decide +kernel
theorem dX10_row_43 : decode cX10_row 43 = .ok (.dup, 1) := by decide +kernel
theorem dX10_row_44 : decode cX10_row 44 = .ok (.getfield 191, 3) := by decide +kernel
theorem dX10_row_47 : decode cX10_row 47 = .ok (.iconst 1, 1) := by decide +kernel
theorem dX10_row_48 : decode cX10_row 48 = .ok (.iadd, 1) := by decide +kernel
theorem dX10_row_49 : decode cX10_row 49 = .ok (.dup_x1, 1) := by decide +kernel
theorem dX10_row_50 : decode cX10_row 50 = .ok (.putfield 191, 3) := by decide +kernel
theorem dX10_row_53 : decode cX10_row 53 = .ok (.ireturn, 1) := by decide +kernel
theorem dX10_judge_0 : decode cX10_judge 0 = .ok (.aload_n 0, 1) := by decide +kernel
theorem dX10_judge_1 : decode cX10_judge 1 = .ok (.invokevirtual 144, 3) := by decide +kernel
theorem dX10_judge_4 : decode cX10_judge 4 = .ok (.bipush (-9), 2) := by decide +kernel
theorem dX10_judge_6 : decode cX10_judge 6 = .ok (.istore_n 1, 1) := by decide +kernel
theorem dX10_judge_7 : decode cX10_judge 7 = .ok (.iconst 0, 1) := by decide +kernel
theorem dX10_judge_8 : decode cX10_judge 8 = .ok (.istore_n 2, 1) := by decide +kernel
theorem dX10_judge_9 : decode cX10_judge 9 = .ok (.iload_n 2, 1) := by decide +kernel
theorem dX10_judge_10 : decode cX10_judge 10 = .ok (.aload_n 0, 1) := by decide +kernel
theorem dX10_judge_11 : decode cX10_judge 11 = .ok (.getfield 65, 3) := by decide +kernel
theorem dX10_judge_14 : decode cX10_judge 14 = .ok (.if_icmp .ge 37, 3) := by decide +kernel
theorem dX10_judge_17 : decode cX10_judge 17 = .ok (.iload_n 2, 1) := by decide +kernel
theorem dX10_judge_18 : decode cX10_judge 18 = .ok (.aload_n 0, 1) := by decide +kernel
theorem dX10_judge_19 : decode cX10_judge 19 = .ok (.getfield 191, 3) := by decide +kernel
theorem dX10_judge_22 : decode cX10_judge 22 = .ok (.if_icmp .ge 29, 3) := by decide +kernel
theorem dX10_judge_25 : decode cX10_judge 25 = .ok (.iload_n 1, 1) := by decide +kernel
theorem dX10_judge_26 : decode cX10_judge 26 = .ok (.ifCond .ge 25, 3) := by decide +kernel
theorem dX10_judge_29 : decode cX10_judge 29 = .ok (.aload_n 0, 1) := by decide +kernel
theorem dX10_judge_30 : decode cX10_judge 30 = .ok (.getfield 40, 3) := by decide +kernel
theorem dX10_judge_33 : decode cX10_judge 33 = .ok (.iload_n 2, 1) := by decide +kernel
theorem dX10_judge_34 : decode cX10_judge 34 = .ok (.iaload, 1) := by decide +kernel
theorem dX10_judge_35 : decode cX10_judge 35 = .ok (.aload_n 0, 1) := by decide +kernel
theorem dX10_judge_36 : decode cX10_judge 36 = .ok (.iload_n 2, 1) := by decide +kernel
theorem dX10_judge_37 : decode cX10_judge 37 = .ok (.invokevirtual 147, 3) := by decide +kernel
theorem dX10_judge_40 : decode cX10_judge 40 = .ok (.if_icmp .eq 5, 3) := by decide +kernel
theorem dX10_judge_43 : decode cX10_judge 43 = .ok (.iload_n 2, 1) := by decide +kernel
theorem dX10_judge_44 : decode cX10_judge 44 = .ok (.istore_n 1, 1) := by decide +kernel
theorem dX10_judge_45 : decode cX10_judge 45 = .ok (.iinc 2 1, 3) := by decide +kernel
theorem dX10_judge_48 : decode cX10_judge 48 = .ok (.goto (-39), 3) := by decide +kernel
theorem dX10_judge_51 : decode cX10_judge 51 = .ok (.iload_n 1, 1) := by decide +kernel
theorem dX10_judge_52 : decode cX10_judge 52 = .ok (.ifCond .ge 19, 3) := by decide +kernel
theorem dX10_judge_55 : decode cX10_judge 55 = .ok (.aload_n 0, 1) := by decide +kernel
theorem dX10_judge_56 : decode cX10_judge 56 = .ok (.getfield 191, 3) := by decide +kernel
theorem dX10_judge_59 : decode cX10_judge 59 = .ok (.aload_n 0, 1) := by decide +kernel
theorem dX10_judge_60 : decode cX10_judge 60 = .ok (.getfield 65, 3) := by decide +kernel
theorem dX10_judge_63 : decode cX10_judge 63 = .ok (.if_icmp .ge 8, 3) := by decide +kernel
theorem dX10_judge_66 : decode cX10_judge 66 = .ok (.aload_n 0, 1) := by decide +kernel
theorem dX10_judge_67 : decode cX10_judge 67 = .ok (.getfield 191, 3) := by decide +kernel
theorem dX10_judge_70 : decode cX10_judge 70 = .ok (.istore_n 1, 1) := by decide +kernel
theorem dX10_judge_71 : decode cX10_judge 71 = .ok (.iload_n 1, 1) := by decide +kernel
theorem dX10_judge_72 : decode cX10_judge 72 = .ok (.ifCond .ge 19, 3) := by decide +kernel
theorem dX10_judge_75 : decode cX10_judge 75 = .ok (.aload_n 0, 1) := by decide +kernel
theorem dX10_judge_76 : decode cX10_judge 76 = .ok (.getfield 191, 3) := by decide +kernel
theorem dX10_judge_79 : decode cX10_judge 79 = .ok (.aload_n 0, 1) := by decide +kernel
theorem dX10_judge_80 : decode cX10_judge 80 = .ok (.getfield 65, 3) := by decide +kernel
theorem dX10_judge_83 : decode cX10_judge 83 = .ok (.if_icmp .le 8, 3) := by decide +kernel
theorem dX10_judge_86 : decode cX10_judge 86 = .ok (.aload_n 0, 1) := by decide +kernel
theorem dX10_judge_87 : decode cX10_judge 87 = .ok (.getfield 65, 3) := by decide +kernel
theorem dX10_judge_90 : decode cX10_judge 90 = .ok (.istore_n 1, 1) := by decide +kernel
theorem dX10_judge_91 : decode cX10_judge 91 = .ok (.aload_n 0, 1) := by decide +kernel
theorem dX10_judge_92 : decode cX10_judge 92 = .ok (.iconst 0, 1) := by decide +kernel
theorem dX10_judge_93 : decode cX10_judge 93 = .ok (.putfield 191, 3) := by decide +kernel
theorem dX10_judge_96 : decode cX10_judge 96 = .ok (.iload_n 1, 1) := by decide +kernel
theorem dX10_judge_97 : decode cX10_judge 97 = .ok (.ireturn, 1) := by decide +kernel
theorem dX10_image_0 : decode cX10_image 0 = .ok (.aload_n 0, 1) := by decide +kernel
theorem dX10_image_1 : decode cX10_image 1 = .ok (.iconst 1, 1) := by decide +kernel
theorem dX10_image_2 : decode cX10_image 2 = .ok (.putfield 194, 3) := by decide +kernel
theorem dX10_image_5 : decode cX10_image 5 = .ok (.iconst 0, 1) := by decide +kernel
theorem dX10_image_6 : decode cX10_image 6 = .ok (.istore_n 1, 1) := by decide +kernel
theorem dX10_image_7 : decode cX10_image 7 = .ok (.iload_n 1, 1) := by decide +kernel
theorem dX10_image_8 : decode cX10_image 8 = .ok (.bipush 10, 2) := by decide +kernel
theorem dX10_image_10 : decode cX10_image 10 = .ok (.if_icmp .ge 127, 3) := by decide +kernel
theorem dX10_image_13 : decode cX10_image 13 = .ok (.aload_n 0, 1) := by decide +kernel
theorem dX10_image_14 : decode cX10_image 14 = .ok (.getfield 58, 3) := by decide +kernel
theorem dX10_image_17 : decode cX10_image 17 = .ok (.bipush 7, 2) := by decide +kernel
theorem dX10_image_19 : decode cX10_image 19 = .ok (.iload_n 1, 1) := by decide +kernel
theorem dX10_image_20 : decode cX10_image 20 = .ok (.imul, 1) := by decide +kernel
theorem dX10_image_21 : decode cX10_image 21 = .ok (.aload_n 0, 1) := by decide +kernel
theorem dX10_image_22 : decode cX10_image 22 = .ok (.getfield 13, 3) := by decide +kernel
theorem dX10_image_25 : decode cX10_image 25 = .ok (.iload_n 1, 1) := by decide +kernel
theorem dX10_image_26 : decode cX10_image 26 = .ok (.iaload, 1) := by decide +kernel
theorem dX10_image_27 : decode cX10_image 27 = .ok (.iastore, 1) := by decide +kernel
theorem dX10_image_28 : decode cX10_image 28 = .ok (.aload_n 0, 1) := by decide +kernel
theorem dX10_image_29 : decode cX10_image 29 = .ok (.getfield 58, 3) := by decide +kernel
theorem dX10_image_32 : decode cX10_image 32 = .ok (.bipush 7, 2) := by decide +kernel
theorem dX10_image_34 : decode cX10_image 34 = .ok (.iload_n 1, 1) := by decide +kernel
theorem dX10_image_35 : decode cX10_image 35 = .ok (.imul, 1) := by decide +kernel
theorem dX10_image_36 : decode cX10_image 36 = .ok (.iconst 1, 1) := by decide +kernel
theorem dX10_image_37 : decode cX10_image 37 = .ok (.iadd, 1) := by decide +kernel
theorem dX10_image_38 : decode cX10_image 38 = .ok (.aload_n 0, 1) := by decide +kernel
theorem dX10_image_39 : decode cX10_image 39 = .ok (.getfield 16, 3) := by decide +kernel
theorem dX10_image_42 : decode cX10_image 42 = .ok (.iload_n 1, 1) := by decide +kernel
theorem dX10_image_43 : decode cX10_image 43 = .ok (.iaload, 1) := by decide +kernel
theorem dX10_image_44 : decode cX10_image 44 = .ok (.iastore, 1) := by decide +kernel
theorem dX10_image_45 : decode cX10_image 45 = .ok (.aload_n 0, 1) := by decide +kernel
theorem dX10_image_46 : decode cX10_image 46 = .ok (.getfield 58, 3) := by decide +kernel
theorem dX10_image_49 : decode cX10_image 49 = .ok (.bipush 7, 2) := by decide +kernel
theorem dX10_image_51 : decode cX10_image 51 = .ok (.iload_n 1, 1) := by decide +kernel
theorem dX10_image_52 : decode cX10_image 52 = .ok (.imul, 1) := by decide +kernel
theorem dX10_image_53 : decode cX10_image 53 = .ok (.iconst 2, 1) := by decide +kernel
theorem dX10_image_54 : decode cX10_image 54 = .ok (.iadd, 1) := by decide +kernel
theorem dX10_image_55 : decode cX10_image 55 = .ok (.aload_n 0, 1) := by decide +kernel
theorem dX10_image_56 : decode cX10_image 56 = .ok (.getfield 19, 3) := by decide +kernel
theorem dX10_image_59 : decode cX10_image 59 = .ok (.iload_n 1, 1) := by decide +kernel
theorem dX10_image_60 : decode cX10_image 60 = .ok (.iaload, 1) := by decide +kernel
theorem dX10_image_61 : decode cX10_image 61 = .ok (.iastore, 1) := by decide +kernel
theorem dX10_image_62 : decode cX10_image 62 = .ok (.aload_n 0, 1) := by decide +kernel
theorem dX10_image_63 : decode cX10_image 63 = .ok (.getfield 58, 3) := by decide +kernel
theorem dX10_image_66 : decode cX10_image 66 = .ok (.bipush 7, 2) := by decide +kernel
theorem dX10_image_68 : decode cX10_image 68 = .ok (.iload_n 1, 1) := by decide +kernel
theorem dX10_image_69 : decode cX10_image 69 = .ok (.imul, 1) := by decide +kernel
theorem dX10_image_70 : decode cX10_image 70 = .ok (.iconst 3, 1) := by decide +kernel
theorem dX10_image_71 : decode cX10_image 71 = .ok (.iadd, 1) := by decide +kernel
theorem dX10_image_72 : decode cX10_image 72 = .ok (.aload_n 0, 1) := by decide +kernel
theorem dX10_image_73 : decode cX10_image 73 = .ok (.getfield 22, 3) := by decide +kernel
theorem dX10_image_76 : decode cX10_image 76 = .ok (.iload_n 1, 1) := by decide +kernel
theorem dX10_image_77 : decode cX10_image 77 = .ok (.iaload, 1) := by decide +kernel
theorem dX10_image_78 : decode cX10_image 78 = .ok (.iastore, 1) := by decide +kernel
theorem dX10_image_79 : decode cX10_image 79 = .ok (.aload_n 0, 1) := by decide +kernel
theorem dX10_image_80 : decode cX10_image 80 = .ok (.getfield 58, 3) := by decide +kernel
theorem dX10_image_83 : decode cX10_image 83 = .ok (.bipush 7, 2) := by decide +kernel
theorem dX10_image_85 : decode cX10_image 85 = .ok (.iload_n 1, 1) := by decide +kernel
theorem dX10_image_86 : decode cX10_image 86 = .ok (.imul, 1) := by decide +kernel
theorem dX10_image_87 : decode cX10_image 87 = .ok (.iconst 4, 1) := by decide +kernel
theorem dX10_image_88 : decode cX10_image 88 = .ok (.iadd, 1) := by decide +kernel
theorem dX10_image_89 : decode cX10_image 89 = .ok (.aload_n 0, 1) := by decide +kernel
theorem dX10_image_90 : decode cX10_image 90 = .ok (.getfield 25, 3) := by decide +kernel
theorem dX10_image_93 : decode cX10_image 93 = .ok (.iload_n 1, 1) := by decide +kernel
theorem dX10_image_94 : decode cX10_image 94 = .ok (.iaload, 1) := by decide +kernel
theorem dX10_image_95 : decode cX10_image 95 = .ok (.iastore, 1) := by decide +kernel
theorem dX10_image_96 : decode cX10_image 96 = .ok (.aload_n 0, 1) := by decide +kernel
theorem dX10_image_97 : decode cX10_image 97 = .ok (.getfield 58, 3) := by decide +kernel
theorem dX10_image_100 : decode cX10_image 100 = .ok (.bipush 7, 2) := by decide +kernel
theorem dX10_image_102 : decode cX10_image 102 = .ok (.iload_n 1, 1) := by decide +kernel
theorem dX10_image_103 : decode cX10_image 103 = .ok (.imul, 1) := by decide +kernel
theorem dX10_image_104 : decode cX10_image 104 = .ok (.iconst 5, 1) := by decide +kernel
theorem dX10_image_105 : decode cX10_image 105 = .ok (.iadd, 1) := by decide +kernel
theorem dX10_image_106 : decode cX10_image 106 = .ok (.aload_n 0, 1) := by decide +kernel
theorem dX10_image_107 : decode cX10_image 107 = .ok (.getfield 28, 3) := by decide +kernel
theorem dX10_image_110 : decode cX10_image 110 = .ok (.iload_n 1, 1) := by decide +kernel
theorem dX10_image_111 : decode cX10_image 111 = .ok (.iaload, 1) := by decide +kernel
theorem dX10_image_112 : decode cX10_image 112 = .ok (.iastore, 1) := by decide +kernel
theorem dX10_image_113 : decode cX10_image 113 = .ok (.aload_n 0, 1) := by decide +kernel
theorem dX10_image_114 : decode cX10_image 114 = .ok (.getfield 58, 3) := by decide +kernel
theorem dX10_image_117 : decode cX10_image 117 = .ok (.bipush 7, 2) := by decide +kernel
theorem dX10_image_119 : decode cX10_image 119 = .ok (.iload_n 1, 1) := by decide +kernel
theorem dX10_image_120 : decode cX10_image 120 = .ok (.imul, 1) := by decide +kernel
theorem dX10_image_121 : decode cX10_image 121 = .ok (.bipush 6, 2) := by decide +kernel
theorem dX10_image_123 : decode cX10_image 123 = .ok (.iadd, 1) := by decide +kernel
theorem dX10_image_124 : decode cX10_image 124 = .ok (.aload_n 0, 1) := by decide +kernel
theorem dX10_image_125 : decode cX10_image 125 = .ok (.getfield 31, 3) := by decide +kernel
theorem dX10_image_128 : decode cX10_image 128 = .ok (.iload_n 1, 1) := by decide +kernel
theorem dX10_image_129 : decode cX10_image 129 = .ok (.iaload, 1) := by decide +kernel
theorem dX10_image_130 : decode cX10_image 130 = .ok (.iastore, 1) := by decide +kernel
theorem dX10_image_131 : decode cX10_image 131 = .ok (.iinc 1 1, 3) := by decide +kernel
theorem dX10_image_134 : decode cX10_image 134 = .ok (.goto (-127), 3) := by decide +kernel
theorem dX10_image_137 : decode cX10_image 137 = .ok (.iconst 0, 1) := by decide +kernel
theorem dX10_image_138 : decode cX10_image 138 = .ok (.istore_n 1, 1) := by decide +kernel
theorem dX10_image_139 : decode cX10_image 139 = .ok (.iload_n 1, 1) := by decide +kernel
theorem dX10_image_140 : decode cX10_image 140 = .ok (.bipush 12, 2) := by decide +kernel
theorem dX10_image_142 : decode cX10_image 142 = .ok (.if_icmp .ge 24, 3) := by decide +kernel
theorem dX10_image_145 : decode cX10_image 145 = .ok (.aload_n 0, 1) := by decide +kernel
theorem dX10_image_146 : decode cX10_image 146 = .ok (.getfield 58, 3) := by decide +kernel
theorem dX10_image_149 : decode cX10_image 149 = .ok (.bipush 70, 2) := by decide +kernel
theorem dX10_image_151 : decode cX10_image 151 = .ok (.iload_n 1, 1) := by decide +kernel
theorem dX10_image_152 : decode cX10_image 152 = .ok (.iadd, 1) := by decide +kernel
theorem dX10_image_153 : decode cX10_image 153 = .ok (.aload_n 0, 1) := by decide +kernel
theorem dX10_image_154 : decode cX10_image 154 = .ok (.getfield 34, 3) := by decide +kernel
theorem dX10_image_157 : decode cX10_image 157 = .ok (.iload_n 1, 1) := by decide +kernel
theorem dX10_image_158 : decode cX10_image 158 = .ok (.iaload, 1) := by decide +kernel
theorem dX10_image_159 : decode cX10_image 159 = .ok (.iastore, 1) := by decide +kernel
theorem dX10_image_160 : decode cX10_image 160 = .ok (.iinc 1 1, 3) := by decide +kernel
theorem dX10_image_163 : decode cX10_image 163 = .ok (.goto (-24), 3) := by decide +kernel
theorem dX10_image_166 : decode cX10_image 166 = .ok (.aload_n 0, 1) := by decide +kernel
theorem dX10_image_167 : decode cX10_image 167 = .ok (.getfield 58, 3) := by decide +kernel
theorem dX10_image_170 : decode cX10_image 170 = .ok (.bipush 82, 2) := by decide +kernel
theorem dX10_image_172 : decode cX10_image 172 = .ok (.aload_n 0, 1) := by decide +kernel
theorem dX10_image_173 : decode cX10_image 173 = .ok (.getfield 61, 3) := by decide +kernel
theorem dX10_image_176 : decode cX10_image 176 = .ok (.iastore, 1) := by decide +kernel
theorem dX10_image_177 : decode cX10_image 177 = .ok (.aload_n 0, 1) := by decide +kernel
theorem dX10_image_178 : decode cX10_image 178 = .ok (.getfield 58, 3) := by decide +kernel
theorem dX10_image_181 : decode cX10_image 181 = .ok (.bipush 83, 2) := by decide +kernel
theorem dX10_image_183 : decode cX10_image 183 = .ok (.aload_n 0, 1) := by decide +kernel
theorem dX10_image_184 : decode cX10_image 184 = .ok (.getfield 65, 3) := by decide +kernel
theorem dX10_image_187 : decode cX10_image 187 = .ok (.iastore, 1) := by decide +kernel
theorem dX10_image_188 : decode cX10_image 188 = .ok (.aload_n 0, 1) := by decide +kernel
theorem dX10_image_189 : decode cX10_image 189 = .ok (.getfield 58, 3) := by decide +kernel
theorem dX10_image_192 : decode cX10_image 192 = .ok (.bipush 84, 2) := by decide +kernel
theorem dX10_image_194 : decode cX10_image 194 = .ok (.aload_n 0, 1) := by decide +kernel
theorem dX10_image_195 : decode cX10_image 195 = .ok (.getfield 113, 3) := by decide +kernel
theorem dX10_image_198 : decode cX10_image 198 = .ok (.iastore, 1) := by decide +kernel
theorem dX10_image_199 : decode cX10_image 199 = .ok (.iconst 0, 1) := by decide +kernel
theorem dX10_image_200 : decode cX10_image 200 = .ok (.istore_n 1, 1) := by decide +kernel
theorem dX10_image_201 : decode cX10_image 201 = .ok (.iload_n 1, 1) := by decide +kernel
theorem dX10_image_202 : decode cX10_image 202 = .ok (.iconst 3, 1) := by decide +kernel
theorem dX10_image_203 : decode cX10_image 203 = .ok (.if_icmp .ge 24, 3) := by decide +kernel
theorem dX10_image_206 : decode cX10_image 206 = .ok (.aload_n 0, 1) := by decide +kernel
theorem dX10_image_207 : decode cX10_image 207 = .ok (.getfield 58, 3) := by decide +kernel
theorem dX10_image_210 : decode cX10_image 210 = .ok (.bipush 85, 2) := by decide +kernel
theorem dX10_image_212 : decode cX10_image 212 = .ok (.iload_n 1, 1) := by decide +kernel
theorem dX10_image_213 : decode cX10_image 213 = .ok (.iadd, 1) := by decide +kernel
theorem dX10_image_214 : decode cX10_image 214 = .ok (.aload_n 0, 1) := by decide +kernel
theorem dX10_image_215 : decode cX10_image 215 = .ok (.getfield 37, 3) := by decide +kernel
theorem dX10_image_218 : decode cX10_image 218 = .ok (.iload_n 1, 1) := by decide +kernel
theorem dX10_image_219 : decode cX10_image 219 = .ok (.iaload, 1) := by decide +kernel
theorem dX10_image_220 : decode cX10_image 220 = .ok (.iastore, 1) := by decide +kernel
theorem dX10_image_221 : decode cX10_image 221 = .ok (.iinc 1 1, 3) := by decide +kernel
theorem dX10_image_224 : decode cX10_image 224 = .ok (.goto (-23), 3) := by decide +kernel
theorem dX10_image_227 : decode cX10_image 227 = .ok (.aload_n 0, 1) := by decide +kernel
theorem dX10_image_228 : decode cX10_image 228 = .ok (.getfield 58, 3) := by decide +kernel
theorem dX10_image_231 : decode cX10_image 231 = .ok (.bipush 88, 2) := by decide +kernel
theorem dX10_image_233 : decode cX10_image 233 = .ok (.aload_n 0, 1) := by decide +kernel
theorem dX10_image_234 : decode cX10_image 234 = .ok (.getfield 125, 3) := by decide +kernel
theorem dX10_image_237 : decode cX10_image 237 = .ok (.iastore, 1) := by decide +kernel
theorem dX10_image_238 : decode cX10_image 238 = .ok (.aload_n 0, 1) := by decide +kernel
theorem dX10_image_239 : decode cX10_image 239 = .ok (.getfield 65, 3) := by decide +kernel
theorem dX10_image_242 : decode cX10_image 242 = .ok (.ireturn, 1) := by decide +kernel
theorem dX10_on_0 : decode cX10_on 0 = .ok (.aload_n 0, 1) := by decide +kernel
theorem dX10_on_1 : decode cX10_on 1 = .ok (.getfield 194, 3) := by decide +kernel
theorem dX10_on_4 : decode cX10_on 4 = .ok (.ifCond .ne 10, 3) := by decide +kernel
theorem dX10_on_7 : decode cX10_on 7 = .ok (.aload_n 0, 1) := by decide +kernel
theorem dX10_on_8 : decode cX10_on 8 = .ok (.bipush (-3), 2) := by decide +kernel
theorem dX10_on_10 : decode cX10_on 10 = .ok (.invokevirtual 68, 3) := by decide +kernel
theorem dX10_on_13 : decode cX10_on 13 = .ok (.ireturn, 1) := by decide +kernel
theorem dX10_on_14 : decode cX10_on 14 = .ok (.iconst 0, 1) := by decide +kernel
theorem dX10_on_15 : decode cX10_on 15 = .ok (.istore_n 1, 1) := by decide +kernel
theorem dX10_on_16 : decode cX10_on 16 = .ok (.iload_n 1, 1) := by decide +kernel
theorem dX10_on_17 : decode cX10_on 17 = .ok (.bipush 10, 2) := by decide +kernel
theorem dX10_on_19 : decode cX10_on 19 = .ok (.if_icmp .ge 127, 3) := by decide +kernel
theorem dX10_on_22 : decode cX10_on 22 = .ok (.aload_n 0, 1) := by decide +kernel
theorem dX10_on_23 : decode cX10_on 23 = .ok (.getfield 13, 3) := by decide +kernel
theorem dX10_on_26 : decode cX10_on 26 = .ok (.iload_n 1, 1) := by decide +kernel
theorem dX10_on_27 : decode cX10_on 27 = .ok (.aload_n 0, 1) := by decide +kernel
theorem dX10_on_28 : decode cX10_on 28 = .ok (.getfield 58, 3) := by decide +kernel
theorem dX10_on_31 : decode cX10_on 31 = .ok (.bipush 7, 2) := by decide +kernel
theorem dX10_on_33 : decode cX10_on 33 = .ok (.iload_n 1, 1) := by decide +kernel
theorem dX10_on_34 : decode cX10_on 34 = .ok (.imul, 1) := by decide +kernel
theorem dX10_on_35 : decode cX10_on 35 = .ok (.iaload, 1) := by decide +kernel
theorem dX10_on_36 : decode cX10_on 36 = .ok (.iastore, 1) := by decide +kernel
theorem dX10_on_37 : decode cX10_on 37 = .ok (.aload_n 0, 1) := by decide +kernel
theorem dX10_on_38 : decode cX10_on 38 = .ok (.getfield 16, 3) := by decide +kernel
theorem dX10_on_41 : decode cX10_on 41 = .ok (.iload_n 1, 1) := by decide +kernel
theorem dX10_on_42 : decode cX10_on 42 = .ok (.aload_n 0, 1) := by decide +kernel
theorem dX10_on_43 : decode cX10_on 43 = .ok (.getfield 58, 3) := by decide +kernel
theorem dX10_on_46 : decode cX10_on 46 = .ok (.bipush 7, 2) := by decide +kernel
theorem dX10_on_48 : decode cX10_on 48 = .ok (.iload_n 1, 1) := by decide +kernel
theorem dX10_on_49 : decode cX10_on 49 = .ok (.imul, 1) := by decide +kernel
theorem dX10_on_50 : decode cX10_on 50 = .ok (.iconst 1, 1) := by decide +kernel
theorem dX10_on_51 : decode cX10_on 51 = .ok (.iadd, 1) := by decide +kernel
theorem dX10_on_52 : decode cX10_on 52 = .ok (.iaload, 1) := by decide +kernel
theorem dX10_on_53 : decode cX10_on 53 = .ok (.iastore, 1) := by decide +kernel
theorem dX10_on_54 : decode cX10_on 54 = .ok (.aload_n 0, 1) := by decide +kernel
theorem dX10_on_55 : decode cX10_on 55 = .ok (.getfield 19, 3) := by decide +kernel
theorem dX10_on_58 : decode cX10_on 58 = .ok (.iload_n 1, 1) := by decide +kernel
theorem dX10_on_59 : decode cX10_on 59 = .ok (.aload_n 0, 1) := by decide +kernel
theorem dX10_on_60 : decode cX10_on 60 = .ok (.getfield 58, 3) := by decide +kernel
theorem dX10_on_63 : decode cX10_on 63 = .ok (.bipush 7, 2) := by decide +kernel
theorem dX10_on_65 : decode cX10_on 65 = .ok (.iload_n 1, 1) := by decide +kernel
theorem dX10_on_66 : decode cX10_on 66 = .ok (.imul, 1) := by decide +kernel
theorem dX10_on_67 : decode cX10_on 67 = .ok (.iconst 2, 1) := by decide +kernel
theorem dX10_on_68 : decode cX10_on 68 = .ok (.iadd, 1) := by decide +kernel
theorem dX10_on_69 : decode cX10_on 69 = .ok (.iaload, 1) := by decide +kernel
theorem dX10_on_70 : decode cX10_on 70 = .ok (.iastore, 1) := by decide +kernel
theorem dX10_on_71 : decode cX10_on 71 = .ok (.aload_n 0, 1) := by decide +kernel
theorem dX10_on_72 : decode cX10_on 72 = .ok (.getfield 22, 3) := by decide +kernel
theorem dX10_on_75 : decode cX10_on 75 = .ok (.iload_n 1, 1) := by decide +kernel
theorem dX10_on_76 : decode cX10_on 76 = .ok (.aload_n 0, 1) := by decide +kernel
theorem dX10_on_77 : decode cX10_on 77 = .ok (.getfield 58, 3) := by decide +kernel
theorem dX10_on_80 : decode cX10_on 80 = .ok (.bipush 7, 2) := by decide +kernel
theorem dX10_on_82 : decode cX10_on 82 = .ok (.iload_n 1, 1) := by decide +kernel
theorem dX10_on_83 : decode cX10_on 83 = .ok (.imul, 1) := by decide +kernel
theorem dX10_on_84 : decode cX10_on 84 = .ok (.iconst 3, 1) := by decide +kernel
theorem dX10_on_85 : decode cX10_on 85 = .ok (.iadd, 1) := by decide +kernel
theorem dX10_on_86 : decode cX10_on 86 = .ok (.iaload, 1) := by decide +kernel
theorem dX10_on_87 : decode cX10_on 87 = .ok (.iastore, 1) := by decide +kernel
theorem dX10_on_88 : decode cX10_on 88 = .ok (.aload_n 0, 1) := by decide +kernel
theorem dX10_on_89 : decode cX10_on 89 = .ok (.getfield 25, 3) := by decide +kernel
theorem dX10_on_92 : decode cX10_on 92 = .ok (.iload_n 1, 1) := by decide +kernel
theorem dX10_on_93 : decode cX10_on 93 = .ok (.aload_n 0, 1) := by decide +kernel
theorem dX10_on_94 : decode cX10_on 94 = .ok (.getfield 58, 3) := by decide +kernel
theorem dX10_on_97 : decode cX10_on 97 = .ok (.bipush 7, 2) := by decide +kernel
theorem dX10_on_99 : decode cX10_on 99 = .ok (.iload_n 1, 1) := by decide +kernel
theorem dX10_on_100 : decode cX10_on 100 = .ok (.imul, 1) := by decide +kernel
theorem dX10_on_101 : decode cX10_on 101 = .ok (.iconst 4, 1) := by decide +kernel
theorem dX10_on_102 : decode cX10_on 102 = .ok (.iadd, 1) := by decide +kernel
theorem dX10_on_103 : decode cX10_on 103 = .ok (.iaload, 1) := by decide +kernel
theorem dX10_on_104 : decode cX10_on 104 = .ok (.iastore, 1) := by decide +kernel
theorem dX10_on_105 : decode cX10_on 105 = .ok (.aload_n 0, 1) := by decide +kernel
theorem dX10_on_106 : decode cX10_on 106 = .ok (.getfield 28, 3) := by decide +kernel
theorem dX10_on_109 : decode cX10_on 109 = .ok (.iload_n 1, 1) := by decide +kernel
theorem dX10_on_110 : decode cX10_on 110 = .ok (.aload_n 0, 1) := by decide +kernel
theorem dX10_on_111 : decode cX10_on 111 = .ok (.getfield 58, 3) := by decide +kernel
theorem dX10_on_114 : decode cX10_on 114 = .ok (.bipush 7, 2) := by decide +kernel
theorem dX10_on_116 : decode cX10_on 116 = .ok (.iload_n 1, 1) := by decide +kernel
theorem dX10_on_117 : decode cX10_on 117 = .ok (.imul, 1) := by decide +kernel
theorem dX10_on_118 : decode cX10_on 118 = .ok (.iconst 5, 1) := by decide +kernel
theorem dX10_on_119 : decode cX10_on 119 = .ok (.iadd, 1) := by decide +kernel
theorem dX10_on_120 : decode cX10_on 120 = .ok (.iaload, 1) := by decide +kernel
theorem dX10_on_121 : decode cX10_on 121 = .ok (.iastore, 1) := by decide +kernel
theorem dX10_on_122 : decode cX10_on 122 = .ok (.aload_n 0, 1) := by decide +kernel
theorem dX10_on_123 : decode cX10_on 123 = .ok (.getfield 31, 3) := by decide +kernel
theorem dX10_on_126 : decode cX10_on 126 = .ok (.iload_n 1, 1) := by decide +kernel
theorem dX10_on_127 : decode cX10_on 127 = .ok (.aload_n 0, 1) := by decide +kernel
theorem dX10_on_128 : decode cX10_on 128 = .ok (.getfield 58, 3) := by decide +kernel
theorem dX10_on_131 : decode cX10_on 131 = .ok (.bipush 7, 2) := by decide +kernel
theorem dX10_on_133 : decode cX10_on 133 = .ok (.iload_n 1, 1) := by decide +kernel
theorem dX10_on_134 : decode cX10_on 134 = .ok (.imul, 1) := by decide +kernel
theorem dX10_on_135 : decode cX10_on 135 = .ok (.bipush 6, 2) := by decide +kernel
theorem dX10_on_137 : decode cX10_on 137 = .ok (.iadd, 1) := by decide +kernel
theorem dX10_on_138 : decode cX10_on 138 = .ok (.iaload, 1) := by decide +kernel
theorem dX10_on_139 : decode cX10_on 139 = .ok (.iastore, 1) := by decide +kernel
theorem dX10_on_140 : decode cX10_on 140 = .ok (.iinc 1 1, 3) := by decide +kernel
theorem dX10_on_143 : decode cX10_on 143 = .ok (.goto (-127), 3) := by decide +kernel
theorem dX10_on_146 : decode cX10_on 146 = .ok (.iconst 0, 1) := by decide +kernel
theorem dX10_on_147 : decode cX10_on 147 = .ok (.istore_n 1, 1) := by decide +kernel
theorem dX10_on_148 : decode cX10_on 148 = .ok (.iload_n 1, 1) := by decide +kernel
theorem dX10_on_149 : decode cX10_on 149 = .ok (.bipush 12, 2) := by decide +kernel
theorem dX10_on_151 : decode cX10_on 151 = .ok (.if_icmp .ge 24, 3) := by decide +kernel
theorem dX10_on_154 : decode cX10_on 154 = .ok (.aload_n 0, 1) := by decide +kernel
theorem dX10_on_155 : decode cX10_on 155 = .ok (.getfield 34, 3) := by decide +kernel
theorem dX10_on_158 : decode cX10_on 158 = .ok (.iload_n 1, 1) := by decide +kernel
theorem dX10_on_159 : decode cX10_on 159 = .ok (.aload_n 0, 1) := by decide +kernel
theorem dX10_on_160 : decode cX10_on 160 = .ok (.getfield 58, 3) := by decide +kernel
theorem dX10_on_163 : decode cX10_on 163 = .ok (.bipush 70, 2) := by decide +kernel
theorem dX10_on_165 : decode cX10_on 165 = .ok (.iload_n 1, 1) := by decide +kernel
theorem dX10_on_166 : decode cX10_on 166 = .ok (.iadd, 1) := by decide +kernel
theorem dX10_on_167 : decode cX10_on 167 = .ok (.iaload, 1) := by decide +kernel
theorem dX10_on_168 : decode cX10_on 168 = .ok (.iastore, 1) := by decide +kernel
theorem dX10_on_169 : decode cX10_on 169 = .ok (.iinc 1 1, 3) := by decide +kernel
theorem dX10_on_172 : decode cX10_on 172 = .ok (.goto (-24), 3) := by decide +kernel
theorem dX10_on_175 : decode cX10_on 175 = .ok (.aload_n 0, 1) := by decide +kernel
theorem dX10_on_176 : decode cX10_on 176 = .ok (.aload_n 0, 1) := by decide +kernel
theorem dX10_on_177 : decode cX10_on 177 = .ok (.getfield 58, 3) := by decide +kernel
theorem dX10_on_180 : decode cX10_on 180 = .ok (.bipush 82, 2) := by decide +kernel
theorem dX10_on_182 : decode cX10_on 182 = .ok (.iaload, 1) := by decide +kernel
theorem dX10_on_183 : decode cX10_on 183 = .ok (.putfield 61, 3) := by decide +kernel
theorem dX10_on_186 : decode cX10_on 186 = .ok (.aload_n 0, 1) := by decide +kernel
theorem dX10_on_187 : decode cX10_on 187 = .ok (.aload_n 0, 1) := by decide +kernel
theorem dX10_on_188 : decode cX10_on 188 = .ok (.getfield 58, 3) := by decide +kernel
theorem dX10_on_191 : decode cX10_on 191 = .ok (.bipush 83, 2) := by decide +kernel
theorem dX10_on_193 : decode cX10_on 193 = .ok (.iaload, 1) := by decide +kernel
theorem dX10_on_194 : decode cX10_on 194 = .ok (.putfield 65, 3) := by decide +kernel
theorem dX10_on_197 : decode cX10_on 197 = .ok (.aload_n 0, 1) := by decide +kernel
theorem dX10_on_198 : decode cX10_on 198 = .ok (.aload_n 0, 1) := by decide +kernel
theorem dX10_on_199 : decode cX10_on 199 = .ok (.getfield 58, 3) := by decide +kernel
theorem dX10_on_202 : decode cX10_on 202 = .ok (.bipush 84, 2) := by decide +kernel
theorem dX10_on_204 : decode cX10_on 204 = .ok (.iaload, 1) := by decide +kernel
theorem dX10_on_205 : decode cX10_on 205 = .ok (.putfield 113, 3) := by decide +kernel
theorem dX10_on_208 : decode cX10_on 208 = .ok (.iconst 0, 1) := by decide +kernel
theorem dX10_on_209 : decode cX10_on 209 = .ok (.istore_n 1, 1) := by decide +kernel
theorem dX10_on_210 : decode cX10_on 210 = .ok (.iload_n 1, 1) := by decide +kernel
theorem dX10_on_211 : decode cX10_on 211 = .ok (.iconst 3, 1) := by decide +kernel
theorem dX10_on_212 : decode cX10_on 212 = .ok (.if_icmp .ge 24, 3) := by decide +kernel
theorem dX10_on_215 : decode cX10_on 215 = .ok (.aload_n 0, 1) := by decide +kernel
theorem dX10_on_216 : decode cX10_on 216 = .ok (.getfield 37, 3) := by decide +kernel
theorem dX10_on_219 : decode cX10_on 219 = .ok (.iload_n 1, 1) := by decide +kernel
theorem dX10_on_220 : decode cX10_on 220 = .ok (.aload_n 0, 1) := by decide +kernel
theorem dX10_on_221 : decode cX10_on 221 = .ok (.getfield 58, 3) := by decide +kernel
theorem dX10_on_224 : decode cX10_on 224 = .ok (.bipush 85, 2) := by decide +kernel
theorem dX10_on_226 : decode cX10_on 226 = .ok (.iload_n 1, 1) := by decide +kernel
theorem dX10_on_227 : decode cX10_on 227 = .ok (.iadd, 1) := by decide +kernel
theorem dX10_on_228 : decode cX10_on 228 = .ok (.iaload, 1) := by decide +kernel
theorem dX10_on_229 : decode cX10_on 229 = .ok (.iastore, 1) := by decide +kernel
theorem dX10_on_230 : decode cX10_on 230 = .ok (.iinc 1 1, 3) := by decide +kernel
theorem dX10_on_233 : decode cX10_on 233 = .ok (.goto (-23), 3) := by decide +kernel
theorem dX10_on_236 : decode cX10_on 236 = .ok (.aload_n 0, 1) := by decide +kernel
theorem dX10_on_237 : decode cX10_on 237 = .ok (.aload_n 0, 1) := by decide +kernel
theorem dX10_on_238 : decode cX10_on 238 = .ok (.getfield 58, 3) := by decide +kernel
theorem dX10_on_241 : decode cX10_on 241 = .ok (.bipush 88, 2) := by decide +kernel
theorem dX10_on_243 : decode cX10_on 243 = .ok (.iaload, 1) := by decide +kernel
theorem dX10_on_244 : decode cX10_on 244 = .ok (.putfield 125, 3) := by decide +kernel
theorem dX10_on_247 : decode cX10_on 247 = .ok (.aload_n 0, 1) := by decide +kernel
theorem dX10_on_248 : decode cX10_on 248 = .ok (.getfield 65, 3) := by decide +kernel
theorem dX10_on_251 : decode cX10_on 251 = .ok (.ireturn, 1) := by decide +kernel
theorem dX10_count_0 : decode cX10_count 0 = .ok (.iconst 0, 1) := by decide +kernel
theorem dX10_count_1 : decode cX10_count 1 = .ok (.istore_n 2, 1) := by decide +kernel
theorem dX10_count_2 : decode cX10_count 2 = .ok (.iload_n 1, 1) := by decide +kernel
theorem dX10_count_3 : decode cX10_count 3 = .ok (.tableswitch 122 0 6 #[41, 46, 51, 80, 85, 112, 117], 41) := by decide +kernel
theorem dX10_count_44 : decode cX10_count 44 = .ok (.aload_n 0, 1) := by decide +kernel
theorem dX10_count_45 : decode cX10_count 45 = .ok (.getfield 61, 3) := by decide +kernel
theorem dX10_count_48 : decode cX10_count 48 = .ok (.ireturn, 1) := by decide +kernel
theorem dX10_count_49 : decode cX10_count 49 = .ok (.aload_n 0, 1) := by decide +kernel
theorem dX10_count_50 : decode cX10_count 50 = .ok (.getfield 65, 3) := by decide +kernel
theorem dX10_count_53 : decode cX10_count 53 = .ok (.ireturn, 1) := by decide +kernel
theorem dX10_count_54 : decode cX10_count 54 = .ok (.iconst 0, 1) := by decide +kernel
theorem dX10_count_55 : decode cX10_count 55 = .ok (.istore_n 3, 1) := by decide +kernel
theorem dX10_count_56 : decode cX10_count 56 = .ok (.iload_n 3, 1) := by decide +kernel
theorem dX10_count_57 : decode cX10_count 57 = .ok (.aload_n 0, 1) := by decide +kernel
theorem dX10_count_58 : decode cX10_count 58 = .ok (.getfield 65, 3) := by decide +kernel
theorem dX10_count_61 : decode cX10_count 61 = .ok (.if_icmp .ge 20, 3) := by decide +kernel
theorem dX10_count_64 : decode cX10_count 64 = .ok (.aload_n 0, 1) := by decide +kernel
theorem dX10_count_65 : decode cX10_count 65 = .ok (.iload_n 3, 1) := by decide +kernel
theorem dX10_count_66 : decode cX10_count 66 = .ok (.invokevirtual 129, 3) := by decide +kernel
theorem dX10_count_69 : decode cX10_count 69 = .ok (.ifCond .eq 6, 3) := by decide +kernel
theorem dX10_count_72 : decode cX10_count 72 = .ok (.iinc 2 1, 3) := by decide +kernel
theorem dX10_count_75 : decode cX10_count 75 = .ok (.iinc 3 1, 3) := by decide +kernel
theorem dX10_count_78 : decode cX10_count 78 = .ok (.goto (-22), 3) := by decide +kernel
theorem dX10_count_81 : decode cX10_count 81 = .ok (.iload_n 2, 1) := by decide +kernel
theorem dX10_count_82 : decode cX10_count 82 = .ok (.ireturn, 1) := by decide +kernel
theorem dX10_count_83 : decode cX10_count 83 = .ok (.aload_n 0, 1) := by decide +kernel
theorem dX10_count_84 : decode cX10_count 84 = .ok (.getfield 113, 3) := by decide +kernel
theorem dX10_count_87 : decode cX10_count 87 = .ok (.ireturn, 1) := by decide +kernel
theorem dX10_count_88 : decode cX10_count 88 = .ok (.iconst 0, 1) := by decide +kernel
theorem dX10_count_89 : decode cX10_count 89 = .ok (.istore_n 3, 1) := by decide +kernel
theorem dX10_count_90 : decode cX10_count 90 = .ok (.iload_n 3, 1) := by decide +kernel
theorem dX10_count_91 : decode cX10_count 91 = .ok (.aload_n 0, 1) := by decide +kernel
theorem dX10_count_92 : decode cX10_count 92 = .ok (.getfield 65, 3) := by decide +kernel
theorem dX10_count_95 : decode cX10_count 95 = .ok (.if_icmp .ge 18, 3) := by decide +kernel
theorem dX10_count_98 : decode cX10_count 98 = .ok (.iload_n 2, 1) := by decide +kernel
theorem dX10_count_99 : decode cX10_count 99 = .ok (.aload_n 0, 1) := by decide +kernel
theorem dX10_count_100 : decode cX10_count 100 = .ok (.getfield 22, 3) := by decide +kernel
theorem dX10_count_103 : decode cX10_count 103 = .ok (.iload_n 3, 1) := by decide +kernel
theorem dX10_count_104 : decode cX10_count 104 = .ok (.iaload, 1) := by decide +kernel
theorem dX10_count_105 : decode cX10_count 105 = .ok (.iadd, 1) := by decide +kernel
theorem dX10_count_106 : decode cX10_count 106 = .ok (.istore_n 2, 1) := by decide +kernel
theorem dX10_count_107 : decode cX10_count 107 = .ok (.iinc 3 1, 3) := by decide +kernel
theorem dX10_count_110 : decode cX10_count 110 = .ok (.goto (-20), 3) := by decide +kernel
theorem dX10_count_113 : decode cX10_count 113 = .ok (.iload_n 2, 1) := by decide +kernel
theorem dX10_count_114 : decode cX10_count 114 = .ok (.ireturn, 1) := by decide +kernel
theorem dX10_count_115 : decode cX10_count 115 = .ok (.aload_n 0, 1) := by decide +kernel
theorem dX10_count_116 : decode cX10_count 116 = .ok (.getfield 191, 3) := by decide +kernel
theorem dX10_count_119 : decode cX10_count 119 = .ok (.ireturn, 1) := by decide +kernel
theorem dX10_count_120 : decode cX10_count 120 = .ok (.aload_n 0, 1) := by decide +kernel
theorem dX10_count_121 : decode cX10_count 121 = .ok (.getfield 72, 3) := by decide +kernel
theorem dX10_count_124 : decode cX10_count 124 = .ok (.ireturn, 1) := by decide +kernel
theorem dX10_count_125 : decode cX10_count 125 = .ok (.iload_n 1, 1) := by decide +kernel
theorem dX10_count_126 : decode cX10_count 126 = .ok (.bipush 10, 2) := by decide +kernel
theorem dX10_count_128 : decode cX10_count 128 = .ok (.if_icmp .le 21, 3) := by decide +kernel
theorem dX10_count_131 : decode cX10_count 131 = .ok (.iload_n 1, 1) := by decide +kernel
theorem dX10_count_132 : decode cX10_count 132 = .ok (.bipush 17, 2) := by decide +kernel
theorem dX10_count_134 : decode cX10_count 134 = .ok (.if_icmp .ge 15, 3) := by decide +kernel
theorem dX10_count_137 : decode cX10_count 137 = .ok (.aload_n 0, 1) := by decide +kernel
theorem dX10_count_138 : decode cX10_count 138 = .ok (.getfield 43, 3) := by decide +kernel
theorem dX10_count_141 : decode cX10_count 141 = .ok (.iload_n 1, 1) := by decide +kernel
theorem dX10_count_142 : decode cX10_count 142 = .ok (.bipush 10, 2) := by decide +kernel
theorem dX10_count_144 : decode cX10_count 144 = .ok (.isub, 1) := by decide +kernel
theorem dX10_count_145 : decode cX10_count 145 = .ok (.iaload, 1) := by decide +kernel
theorem dX10_count_146 : decode cX10_count 146 = .ok (.goto 5, 3) := by decide +kernel
theorem dX10_count_149 : decode cX10_count 149 = .ok (.bipush (-9), 2) := by decide +kernel
theorem dX10_count_151 : decode cX10_count 151 = .ok (.ireturn, 1) := by decide +kernel
