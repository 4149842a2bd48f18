theorem dX9_init_0 : decode cX9_init 0 = .ok (.aload_n 0, 1) := by decide +kernel
theorem dX9_init_1 : decode cX9_init 1 = .ok (.invokespecial 1, 3) := by decide +kernel
theorem dX9_init_4 : decode cX9_init 4 = .ok (.aload_n 0, 1) := by decide +kernel
theorem dX9_init_5 : decode cX9_init 5 = .ok (.new 7, 3) := by decide +kernel
theorem dX9_init_8 : decode cX9_init 8 = .ok (.dup, 1) := by decide +kernel
theorem dX9_init_9 : decode cX9_init 9 = .ok (.invokespecial 9, 3) := by decide +kernel
theorem dX9_init_12 : decode cX9_init 12 = .ok (.putfield 10, 3) := by decide +kernel
theorem dX9_init_15 : decode cX9_init 15 = .ok (.aload_n 0, 1) := by decide +kernel
theorem dX9_init_16 : decode cX9_init 16 = .ok (.new 7, 3) := by decide +kernel
theorem dX9_init_19 : decode cX9_init 19 = .ok (.dup, 1) := by decide +kernel
theorem dX9_init_20 : decode cX9_init 20 = .ok (.invokespecial 9, 3) := by decide +kernel
theorem dX9_init_23 : decode cX9_init 23 = .ok (.putfield 16, 3) := by decide +kernel
theorem dX9_init_26 : decode cX9_init 26 = .ok (.aload_n 0, 1) := by decide +kernel
theorem dX9_init_27 : decode cX9_init 27 = .ok (.iconst 0, 1) := by decide +kernel
theorem dX9_init_28 : decode cX9_init 28 = .ok (.putfield 19, 3) := by decide +kernel
theorem dX9_init_31 : decode cX9_init 31 = .ok (.aload_n 0, 1) := by decide +kernel
theorem dX9_init_32 : decode cX9_init 32 = .ok (.new 23, 3) := by decide +kernel
theorem dX9_init_35 : decode cX9_init 35 = .ok (.dup, 1) := by decide +kernel
theorem dX9_init_36 : decode cX9_init 36 = .ok (.aload_n 0, 1) := by decide +kernel
theorem dX9_init_37 : decode cX9_init 37 = .ok (.getfield 10, 3) := by decide +kernel
theorem dX9_init_40 : decode cX9_init 40 = .ok (.invokespecial 25, 3) := by decide +kernel
theorem dX9_init_43 : decode cX9_init 43 = .ok (.putfield 28, 3) := by decide +kernel
theorem dX9_init_46 : decode cX9_init 46 = .ok (.aload_n 0, 1) := by decide +kernel
theorem dX9_init_47 : decode cX9_init 47 = .ok (.new 32, 3) := by decide +kernel
theorem dX9_init_50 : decode cX9_init 50 = .ok (.dup, 1) := by decide +kernel
theorem dX9_init_51 : decode cX9_init 51 = .ok (.aload_n 0, 1) := by decide +kernel
theorem dX9_init_52 : decode cX9_init 52 = .ok (.getfield 10, 3) := by decide +kernel
theorem dX9_init_55 : decode cX9_init 55 = .ok (.invokespecial 34, 3) := by decide +kernel
theorem dX9_init_58 : decode cX9_init 58 = .ok (.putfield 35, 3) := by decide +kernel
theorem dX9_init_61 : decode cX9_init 61 = .ok (.aload_n 0, 1) := by decide +kernel
theorem dX9_init_62 : decode cX9_init 62 = .ok (.new 39, 3) := by decide +kernel
theorem dX9_init_65 : decode cX9_init 65 = .ok (.dup, 1) := by decide +kernel
theorem dX9_init_66 : decode cX9_init 66 = .ok (.invokespecial 41, 3) := by decide +kernel
theorem dX9_init_69 : decode cX9_init 69 = .ok (.putfield 42, 3) := by decide +kernel
theorem dX9_init_72 : decode cX9_init 72 = .ok (.aload_n 0, 1) := by decide +kernel
theorem dX9_init_73 : decode cX9_init 73 = .ok (.new 46, 3) := by decide +kernel
theorem dX9_init_76 : decode cX9_init 76 = .ok (.dup, 1) := by decide +kernel
theorem dX9_init_77 : decode cX9_init 77 = .ok (.invokespecial 48, 3) := by decide +kernel
theorem dX9_init_80 : decode cX9_init 80 = .ok (.putfield 49, 3) := by decide +kernel
theorem dX9_init_83 : decode cX9_init 83 = .ok (.aload_n 0, 1) := by decide +kernel
theorem dX9_init_84 : decode cX9_init 84 = .ok (.bipush 7, 2) := by decide +kernel
theorem dX9_init_86 : decode cX9_init 86 = .ok (.newarray .int, 2) := by decide +kernel
theorem dX9_init_88 : decode cX9_init 88 = .ok (.putfield 53, 3) := by decide +kernel
theorem dX9_init_91 : decode cX9_init 91 = .ok (.return_, 1) := by decide +kernel
theorem dX9_letter_0 : decode cX9_letter 0 = .ok (.iload_n 1, 1) := by decide +kernel
theorem dX9_letter_1 : decode cX9_letter 1 = .ok (.ifCond .ge 10, 3) := by decide +kernel
theorem dX9_letter_4 : decode cX9_letter 4 = .ok (.aload_n 0, 1) := by decide +kernel
theorem dX9_letter_5 : decode cX9_letter 5 = .ok (.bipush (-4), 2) := by decide +kernel
theorem dX9_letter_7 : decode cX9_letter 7 = .ok (.invokevirtual 57, 3) := by decide +kernel
theorem dX9_letter_10 : decode cX9_letter 10 = .ok (.ireturn, 1) := by decide +kernel
theorem dX9_letter_11 : decode cX9_letter 11 = .ok (.iload_n 1, 1) := by decide +kernel
theorem dX9_letter_12 : decode cX9_letter 12 = .ok (.sipush 255, 3) := by decide +kernel
theorem dX9_letter_15 : decode cX9_letter 15 = .ok (.if_icmp .gt 16, 3) := by decide +kernel
theorem dX9_letter_18 : decode cX9_letter 18 = .ok (.aload_n 0, 1) := by decide +kernel
theorem dX9_letter_19 : decode cX9_letter 19 = .ok (.getfield 10, 3) := by decide +kernel
theorem dX9_letter_22 : decode cX9_letter 22 = .ok (.getfield 61, 3) := by decide +kernel
theorem dX9_letter_25 : decode cX9_letter 25 = .ok (.invokevirtual 65, 3) := by decide +kernel
theorem dX9_letter_28 : decode cX9_letter 28 = .ok (.ifCond .eq 10, 3) := by decide +kernel
theorem dX9_letter_31 : decode cX9_letter 31 = .ok (.aload_n 0, 1) := by decide +kernel
theorem dX9_letter_32 : decode cX9_letter 32 = .ok (.bipush (-6), 2) := by decide +kernel
theorem dX9_letter_34 : decode cX9_letter 34 = .ok (.invokevirtual 57, 3) := by decide +kernel
theorem dX9_letter_37 : decode cX9_letter 37 = .ok (.ireturn, 1) := by decide +kernel
theorem dX9_letter_38 : decode cX9_letter 38 = .ok (.aload_n 0, 1) := by decide +kernel
theorem dX9_letter_39 : decode cX9_letter 39 = .ok (.getfield 10, 3) := by decide +kernel
theorem dX9_letter_42 : decode cX9_letter 42 = .ok (.getfield 61, 3) := by decide +kernel
theorem dX9_letter_45 : decode cX9_letter 45 = .ok (.iload_n 1, 1) := by decide +kernel
theorem dX9_letter_46 : decode cX9_letter 46 = .ok (.invokevirtual 71, 3) := by decide +kernel
theorem dX9_letter_49 : decode cX9_letter 49 = .ok (.aload_n 0, 1) := by decide +kernel
theorem dX9_letter_50 : decode cX9_letter 50 = .ok (.getfield 10, 3) := by decide +kernel
theorem dX9_letter_53 : decode cX9_letter 53 = .ok (.getfield 61, 3) := by decide +kernel
theorem dX9_letter_56 : decode cX9_letter 56 = .ok (.getfield 75, 3) := by decide +kernel
theorem dX9_letter_59 : decode cX9_letter 59 = .ok (.ireturn, 1) := by decide +kernel
theorem dX9_house_0 : decode cX9_house 0 = .ok (.aload_n 0, 1) := by decide +kernel
theorem dX9_house_1 : decode cX9_house 1 = .ok (.getfield 35, 3) := by decide +kernel
theorem dX9_house_4 : decode cX9_house 4 = .ok (.invokevirtual 79, 3) := by decide +kernel
theorem dX9_house_7 : decode cX9_house 7 = .ok (.istore_n 1, 1) := by decide +kernel
theorem dX9_house_8 : decode cX9_house 8 = .ok (.iload_n 1, 1) := by decide +kernel
theorem dX9_house_9 : decode cX9_house 9 = .ok (.ifCond .ge 7, 3) := by decide +kernel
theorem dX9_house_12 : decode cX9_house 12 = .ok (.iload_n 1, 1) := by decide +kernel
theorem dX9_house_13 : decode cX9_house 13 = .ok (.goto 10, 3) := by decide +kernel
theorem dX9_house_16 : decode cX9_house 16 = .ok (.aload_n 0, 1) := by decide +kernel
theorem dX9_house_17 : decode cX9_house 17 = .ok (.getfield 35, 3) := by decide +kernel
theorem dX9_house_20 : decode cX9_house 20 = .ok (.invokevirtual 83, 3) := by decide +kernel
theorem dX9_house_23 : decode cX9_house 23 = .ok (.istore_n 2, 1) := by decide +kernel
theorem dX9_house_24 : decode cX9_house 24 = .ok (.aload_n 0, 1) := by decide +kernel
theorem dX9_house_25 : decode cX9_house 25 = .ok (.getfield 10, 3) := by decide +kernel
theorem dX9_house_28 : decode cX9_house 28 = .ok (.getfield 61, 3) := by decide +kernel
theorem dX9_house_31 : decode cX9_house 31 = .ok (.invokevirtual 86, 3) := by decide +kernel
theorem dX9_house_34 : decode cX9_house 34 = .ok (.iload_n 2, 1) := by decide +kernel
theorem dX9_house_35 : decode cX9_house 35 = .ok (.ireturn, 1) := by decide +kernel
theorem dX9_hole_0 : decode cX9_hole 0 = .ok (.aload_n 0, 1) := by decide +kernel
theorem dX9_hole_1 : decode cX9_hole 1 = .ok (.getfield 10, 3) := by decide +kernel
theorem dX9_hole_4 : decode cX9_hole 4 = .ok (.getfield 89, 3) := by decide +kernel
theorem dX9_hole_7 : decode cX9_hole 7 = .ok (.iload_n 1, 1) := by decide +kernel
theorem dX9_hole_8 : decode cX9_hole 8 = .ok (.invokevirtual 93, 3) := by decide +kernel
theorem dX9_hole_11 : decode cX9_hole 11 = .ok (.ifCond .ne 9, 3) := by decide +kernel
theorem dX9_hole_14 : decode cX9_hole 14 = .ok (.aload_n 0, 1) := by decide +kernel
theorem dX9_hole_15 : decode cX9_hole 15 = .ok (.iconst (-1), 1) := by decide +kernel
theorem dX9_hole_16 : decode cX9_hole 16 = .ok (.invokevirtual 57, 3) := by decide +kernel
theorem dX9_hole_19 : decode cX9_hole 19 = .ok (.ireturn, 1) := by decide +kernel
theorem dX9_hole_20 : decode cX9_hole 20 = .ok (.iload_n 2, 1) := by decide +kernel
theorem dX9_hole_21 : decode cX9_hole 21 = .ok (.tableswitch 148 0 6 #[43, 58, 73, 88, 103, 118, 133], 43) := by decide +kernel
theorem dX9_hole_64 : decode cX9_hole 64 = .ok (.aload_n 0, 1) := by decide +kernel
theorem dX9_hole_65 : decode cX9_hole 65 = .ok (.getfield 10, 3) := by decide +kernel
theorem dX9_hole_68 : decode cX9_hole 68 = .ok (.getfield 89, 3) := by decide +kernel
theorem dX9_hole_71 : decode cX9_hole 71 = .ok (.getfield 99, 3) := by decide +kernel
theorem dX9_hole_74 : decode cX9_hole 74 = .ok (.iload_n 1, 1) := by decide +kernel
theorem dX9_hole_75 : decode cX9_hole 75 = .ok (.invokestatic 102, 3) := by decide +kernel
theorem dX9_hole_78 : decode cX9_hole 78 = .ok (.ireturn, 1) := by decide +kernel
theorem dX9_hole_79 : decode cX9_hole 79 = .ok (.aload_n 0, 1) := by decide +kernel
theorem dX9_hole_80 : decode cX9_hole 80 = .ok (.getfield 10, 3) := by decide +kernel
theorem dX9_hole_83 : decode cX9_hole 83 = .ok (.getfield 89, 3) := by decide +kernel
theorem dX9_hole_86 : decode cX9_hole 86 = .ok (.getfield 108, 3) := by decide +kernel
theorem dX9_hole_89 : decode cX9_hole 89 = .ok (.iload_n 1, 1) := by decide +kernel
theorem dX9_hole_90 : decode cX9_hole 90 = .ok (.invokestatic 102, 3) := by decide +kernel
theorem dX9_hole_93 : decode cX9_hole 93 = .ok (.ireturn, 1) := by decide +kernel
theorem dX9_hole_94 : decode cX9_hole 94 = .ok (.aload_n 0, 1) := by decide +kernel
theorem dX9_hole_95 : decode cX9_hole 95 = .ok (.getfield 10, 3) := by decide +kernel
theorem dX9_hole_98 : decode cX9_hole 98 = .ok (.getfield 89, 3) := by decide +kernel
theorem dX9_hole_101 : decode cX9_hole 101 = .ok (.getfield 111, 3) := by decide +kernel
theorem dX9_hole_104 : decode cX9_hole 104 = .ok (.iload_n 1, 1) := by decide +kernel
theorem dX9_hole_105 : decode cX9_hole 105 = .ok (.invokestatic 102, 3) := by decide +kernel
theorem dX9_hole_108 : decode cX9_hole 108 = .ok (.ireturn, 1) := by decide +kernel
theorem dX9_hole_109 : decode cX9_hole 109 = .ok (.aload_n 0, 1) := by decide +kernel
theorem dX9_hole_110 : decode cX9_hole 110 = .ok (.getfield 10, 3) := by decide +kernel
theorem dX9_hole_113 : decode cX9_hole 113 = .ok (.getfield 89, 3) := by decide +kernel
theorem dX9_hole_116 : decode cX9_hole 116 = .ok (.getfield 114, 3) := by decide +kernel
theorem dX9_hole_119 : decode cX9_hole 119 = .ok (.iload_n 1, 1) := by decide +kernel
theorem dX9_hole_120 : decode cX9_hole 120 = .ok (.invokestatic 102, 3) := by decide +kernel
theorem dX9_hole_123 : decode cX9_hole 123 = .ok (.ireturn, 1) := by decide +kernel
theorem dX9_hole_124 : decode cX9_hole 124 = .ok (.aload_n 0, 1) := by decide +kernel
theorem dX9_hole_125 : decode cX9_hole 125 = .ok (.getfield 10, 3) := by decide +kernel
theorem dX9_hole_128 : decode cX9_hole 128 = .ok (.getfield 89, 3) := by decide +kernel
theorem dX9_hole_131 : decode cX9_hole 131 = .ok (.getfield 117, 3) := by decide +kernel
theorem dX9_hole_134 : decode cX9_hole 134 = .ok (.iload_n 1, 1) := by decide +kernel
theorem dX9_hole_135 : decode cX9_hole 135 = .ok (.invokestatic 102, 3) := by decide +kernel
theorem dX9_hole_138 : decode cX9_hole 138 = .ok (.ireturn, 1) := by decide +kernel
theorem dX9_hole_139 : decode cX9_hole 139 = .ok (.aload_n 0, 1) := by decide +kernel
theorem dX9_hole_140 : decode cX9_hole 140 = .ok (.getfield 10, 3) := by decide +kernel
theorem dX9_hole_143 : decode cX9_hole 143 = .ok (.getfield 89, 3) := by decide +kernel
theorem dX9_hole_146 : decode cX9_hole 146 = .ok (.getfield 120, 3) := by decide +kernel
theorem dX9_hole_149 : decode cX9_hole 149 = .ok (.iload_n 1, 1) := by decide +kernel
theorem dX9_hole_150 : decode cX9_hole 150 = .ok (.invokestatic 102, 3) := by decide +kernel
theorem dX9_hole_153 : decode cX9_hole 153 = .ok (.ireturn, 1) := by decide +kernel
theorem dX9_hole_154 : decode cX9_hole 154 = .ok (.aload_n 0, 1) := by decide +kernel
theorem dX9_hole_155 : decode cX9_hole 155 = .ok (.getfield 10, 3) := by decide +kernel
theorem dX9_hole_158 : decode cX9_hole 158 = .ok (.getfield 89, 3) := by decide +kernel
theorem dX9_hole_161 : decode cX9_hole 161 = .ok (.getfield 123, 3) := by decide +kernel
theorem dX9_hole_164 : decode cX9_hole 164 = .ok (.iload_n 1, 1) := by decide +kernel
theorem dX9_hole_165 : decode cX9_hole 165 = .ok (.invokestatic 102, 3) := by decide +kernel
theorem dX9_hole_168 : decode cX9_hole 168 = .ok (.ireturn, 1) := by decide +kernel
theorem dX9_hole_169 : decode cX9_hole 169 = .ok (.aload_n 0, 1) := by decide +kernel
theorem dX9_hole_170 : decode cX9_hole 170 = .ok (.bipush (-2), 2) := by decide +kernel
theorem dX9_hole_172 : decode cX9_hole 172 = .ok (.invokevirtual 57, 3) := by decide +kernel
theorem dX9_hole_175 : decode cX9_hole 175 = .ok (.ireturn, 1) := by decide +kernel
theorem dX9_weather_0 : decode cX9_weather 0 = .ok (.iload_n 1, 1) := by decide +kernel
theorem dX9_weather_1 : decode cX9_weather 1 = .ok (.ifCond .lt 17, 3) := by decide +kernel
theorem dX9_weather_4 : decode cX9_weather 4 = .ok (.iload_n 1, 1) := by decide +kernel
theorem dX9_weather_5 : decode cX9_weather 5 = .ok (.aload_n 0, 1) := by decide +kernel
theorem dX9_weather_6 : decode cX9_weather 6 = .ok (.getfield 10, 3) := by decide +kernel
theorem dX9_weather_9 : decode cX9_weather 9 = .ok (.getfield 126, 3) := by decide +kernel
theorem dX9_weather_12 : decode cX9_weather 12 = .ok (.getfield 130, 3) := by decide +kernel
theorem dX9_weather_15 : decode cX9_weather 15 = .ok (.if_icmp .lt 9, 3) := by decide +kernel
theorem dX9_weather_18 : decode cX9_weather 18 = .ok (.aload_n 0, 1) := by decide +kernel
theorem dX9_weather_19 : decode cX9_weather 19 = .ok (.iconst (-1), 1) := by decide +kernel
theorem dX9_weather_20 : decode cX9_weather 20 = .ok (.invokevirtual 57, 3) := by decide +kernel
theorem dX9_weather_23 : decode cX9_weather 23 = .ok (.ireturn, 1) := by decide +kernel
theorem dX9_weather_24 : decode cX9_weather 24 = .ok (.iload_n 2, 1) := by decide +kernel
theorem dX9_weather_25 : decode cX9_weather 25 = .ok (.tableswitch 72 0 2 #[27, 42, 57], 27) := by decide +kernel
theorem dX9_weather_52 : decode cX9_weather 52 = .ok (.aload_n 0, 1) := by decide +kernel
theorem dX9_weather_53 : decode cX9_weather 53 = .ok (.getfield 10, 3) := by decide +kernel
theorem dX9_weather_56 : decode cX9_weather 56 = .ok (.getfield 126, 3) := by decide +kernel
theorem dX9_weather_59 : decode cX9_weather 59 = .ok (.getfield 133, 3) := by decide +kernel
theorem dX9_weather_62 : decode cX9_weather 62 = .ok (.iload_n 1, 1) := by decide +kernel
theorem dX9_weather_63 : decode cX9_weather 63 = .ok (.invokestatic 102, 3) := by decide +kernel
theorem dX9_weather_66 : decode cX9_weather 66 = .ok (.ireturn, 1) := by decide +kernel
theorem dX9_weather_67 : decode cX9_weather 67 = .ok (.aload_n 0, 1) := by decide +kernel
theorem dX9_weather_68 : decode cX9_weather 68 = .ok (.getfield 10, 3) := by decide +kernel
theorem dX9_weather_71 : decode cX9_weather 71 = .ok (.getfield 126, 3) := by decide +kernel
theorem dX9_weather_74 : decode cX9_weather 74 = .ok (.getfield 136, 3) := by decide +kernel
theorem dX9_weather_77 : decode cX9_weather 77 = .ok (.iload_n 1, 1) := by decide +kernel
theorem dX9_weather_78 : decode cX9_weather 78 = .ok (.invokestatic 102, 3) := by decide +kernel
theorem dX9_weather_81 : decode cX9_weather 81 = .ok (.ireturn, 1) := by decide +kernel
theorem dX9_weather_82 : decode cX9_weather 82 = .ok (.aload_n 0, 1) := by decide +kernel
theorem dX9_weather_83 : decode cX9_weather 83 = .ok (.getfield 10, 3) := by decide +kernel
theorem dX9_weather_86 : decode cX9_weather 86 = .ok (.getfield 126, 3) := by decide +kernel
theorem dX9_weather_89 : decode cX9_weather 89 = .ok (.getfield 139, 3) := by decide +kernel
theorem dX9_weather_92 : decode cX9_weather 92 = .ok (.iload_n 1, 1) := by decide +kernel
theorem dX9_weather_93 : decode cX9_weather 93 = .ok (.invokestatic 102, 3) := by decide +kernel
theorem dX9_weather_96 : decode cX9_weather 96 = .ok (.ireturn, 1) := by decide +kernel
theorem dX9_weather_97 : decode cX9_weather 97 = .ok (.aload_n 0, 1) := by decide +kernel
theorem dX9_weather_98 : decode cX9_weather 98 = .ok (.bipush (-2), 2) := by decide +kernel
theorem dX9_weather_100 : decode cX9_weather 100 = .ok (.invokevirtual 57, 3) := by decide +kernel
theorem dX9_weather_103 : decode cX9_weather 103 = .ok (.ireturn, 1) := by decide +kernel
theorem dX9_set_0 : decode cX9_set 0 = .ok (.iload_n 1, 1) := by decide +kernel
theorem dX9_set_1 : decode cX9_set 1 = .ok (.ifCond .lt 8, 3) := by decide +kernel
theorem dX9_set_4 : decode cX9_set 4 = .ok (.iload_n 1, 1) := by decide +kernel
theorem dX9_set_5 : decode cX9_set 5 = .ok (.iconst 2, 1) := by decide +kernel
theorem dX9_set_6 : decode cX9_set 6 = .ok (.if_icmp .le 10, 3) := by decide +kernel
theorem dX9_set_9 : decode cX9_set 9 = .ok (.aload_n 0, 1) := by decide +kernel
theorem dX9_set_10 : decode cX9_set 10 = .ok (.bipush (-2), 2) := by decide +kernel
theorem dX9_set_12 : decode cX9_set 12 = .ok (.invokevirtual 57, 3) := by decide +kernel
theorem dX9_set_15 : decode cX9_set 15 = .ok (.ireturn, 1) := by decide +kernel
theorem dX9_set_16 : decode cX9_set 16 = .ok (.iload_n 2, 1) := by decide +kernel
theorem dX9_set_17 : decode cX9_set 17 = .ok (.ifCond .ge 10, 3) := by decide +kernel
theorem dX9_set_20 : decode cX9_set 20 = .ok (.aload_n 0, 1) := by decide +kernel
theorem dX9_set_21 : decode cX9_set 21 = .ok (.bipush (-4), 2) := by decide +kernel
theorem dX9_set_23 : decode cX9_set 23 = .ok (.invokevirtual 57, 3) := by decide +kernel
theorem dX9_set_26 : decode cX9_set 26 = .ok (.ireturn, 1) := by decide +kernel
theorem dX9_set_27 : decode cX9_set 27 = .ok (.iload_n 1, 1) := by decide +kernel
theorem dX9_set_28 : decode cX9_set 28 = .ok (.ifCond .ne 8, 3) := by decide +kernel
theorem dX9_set_31 : decode cX9_set 31 = .ok (.bipush 40, 2) := by decide +kernel
theorem dX9_set_33 : decode cX9_set 33 = .ok (.goto 14, 3) := by decide +kernel
theorem dX9_set_36 : decode cX9_set 36 = .ok (.iload_n 1, 1) := by decide +kernel
theorem dX9_set_37 : decode cX9_set 37 = .ok (.iconst 1, 1) := by decide +kernel
theorem dX9_set_38 : decode cX9_set 38 = .ok (.if_icmp .ne 8, 3) := by decide +kernel
theorem dX9_set_41 : decode cX9_set 41 = .ok (.bipush 20, 2) := by decide +kernel
theorem dX9_set_43 : decode cX9_set 43 = .ok (.goto 4, 3) := by decide +kernel
theorem dX9_set_46 : decode cX9_set 46 = .ok (.iconst 3, 1) := by decide +kernel
theorem dX9_set_47 : decode cX9_set 47 = .ok (.istore_n 3, 1) := by decide +kernel
theorem dX9_set_48 : decode cX9_set 48 = .ok (.iload_n 2, 1) := by decide +kernel
theorem dX9_set_49 : decode cX9_set 49 = .ok (.iload_n 3, 1) := by decide +kernel
theorem dX9_set_50 : decode cX9_set 50 = .ok (.if_icmp .le 10, 3) := by decide +kernel
theorem dX9_set_53 : decode cX9_set 53 = .ok (.aload_n 0, 1) := by decide +kernel
theorem dX9_set_54 : decode cX9_set 54 = .ok (.bipush (-6), 2) := by decide +kernel
theorem dX9_set_56 : decode cX9_set 56 = .ok (.invokevirtual 57, 3) := by decide +kernel
theorem dX9_set_59 : decode cX9_set 59 = .ok (.ireturn, 1) := by decide +kernel
theorem dX9_set_60 : decode cX9_set 60 = .ok (.aload_n 0, 1) := by decide +kernel
theorem dX9_set_61 : decode cX9_set 61 = .ok (.iload_n 1, 1) := by decide +kernel
theorem dX9_set_62 : decode cX9_set 62 = .ok (.invokevirtual 140, 3) := by decide +kernel
theorem dX9_set_65 : decode cX9_set 65 = .ok (.istore 4, 2) := by decide +kernel
theorem dX9_set_67 : decode cX9_set 67 = .ok (.iload_n 1, 1) := by decide +kernel
theorem dX9_set_68 : decode cX9_set 68 = .ok (.ifCond .ne 17, 3) := by decide +kernel
theorem dX9_set_71 : decode cX9_set 71 = .ok (.aload_n 0, 1) := by decide +kernel
theorem dX9_set_72 : decode cX9_set 72 = .ok (.getfield 10, 3) := by decide +kernel
theorem dX9_set_75 : decode cX9_set 75 = .ok (.getfield 143, 3) := by decide +kernel
theorem dX9_set_78 : decode cX9_set 78 = .ok (.iload_n 2, 1) := by decide +kernel
theorem dX9_set_79 : decode cX9_set 79 = .ok (.putfield 146, 3) := by decide +kernel
theorem dX9_set_82 : decode cX9_set 82 = .ok (.goto 33, 3) := by decide +kernel
theorem dX9_set_85 : decode cX9_set 85 = .ok (.iload_n 1, 1) := by decide +kernel
theorem dX9_set_86 : decode cX9_set 86 = .ok (.iconst 1, 1) := by decide +kernel
theorem dX9_set_87 : decode cX9_set 87 = .ok (.if_icmp .ne 17, 3) := by decide +kernel
theorem dX9_set_90 : decode cX9_set 90 = .ok (.aload_n 0, 1) := by decide +kernel
theorem dX9_set_91 : decode cX9_set 91 = .ok (.getfield 10, 3) := by decide +kernel
theorem dX9_set_94 : decode cX9_set 94 = .ok (.getfield 143, 3) := by decide +kernel
theorem dX9_set_97 : decode cX9_set 97 = .ok (.iload_n 2, 1) := by decide +kernel
theorem dX9_set_98 : decode cX9_set 98 = .ok (.putfield 148, 3) := by decide +kernel
theorem dX9_set_101 : decode cX9_set 101 = .ok (.goto 14, 3) := by decide +kernel
theorem dX9_set_104 : decode cX9_set 104 = .ok (.aload_n 0, 1) := by decide +kernel
theorem dX9_set_105 : decode cX9_set 105 = .ok (.getfield 10, 3) := by decide +kernel
theorem dX9_set_108 : decode cX9_set 108 = .ok (.getfield 143, 3) := by decide +kernel
theorem dX9_set_111 : decode cX9_set 111 = .ok (.iload_n 2, 1) := by decide +kernel
theorem dX9_set_112 : decode cX9_set 112 = .ok (.putfield 150, 3) := by decide +kernel
theorem dX9_set_115 : decode cX9_set 115 = .ok (.iload 4, 2) := by decide +kernel
theorem dX9_set_117 : decode cX9_set 117 = .ok (.ireturn, 1) := by decide +kernel
theorem dX9_fan_0 : decode cX9_fan 0 = .ok (.iload_n 1, 1) := by decide +kernel
theorem dX9_fan_1 : decode cX9_fan 1 = .ok (.bipush (-50), 2) := by decide +kernel
theorem dX9_fan_3 : decode cX9_fan 3 = .ok (.if_icmp .ge 10, 3) := by decide +kernel
theorem dX9_fan_6 : decode cX9_fan 6 = .ok (.aload_n 0, 1) := by decide +kernel
theorem dX9_fan_7 : decode cX9_fan 7 = .ok (.bipush (-4), 2) := by decide +kernel
theorem dX9_fan_9 : decode cX9_fan 9 = .ok (.invokevirtual 57, 3) := by decide +kernel
theorem dX9_fan_12 : decode cX9_fan 12 = .ok (.ireturn, 1) := by decide +kernel
theorem dX9_fan_13 : decode cX9_fan 13 = .ok (.iload_n 1, 1) := by decide +kernel
theorem dX9_fan_14 : decode cX9_fan 14 = .ok (.bipush 50, 2) := by decide +kernel
theorem dX9_fan_16 : decode cX9_fan 16 = .ok (.if_icmp .le 10, 3) := by decide +kernel
theorem dX9_fan_19 : decode cX9_fan 19 = .ok (.aload_n 0, 1) := by decide +kernel
theorem dX9_fan_20 : decode cX9_fan 20 = .ok (.bipush (-6), 2) := by decide +kernel
theorem dX9_fan_22 : decode cX9_fan 22 = .ok (.invokevirtual 57, 3) := by decide +kernel
theorem dX9_fan_25 : decode cX9_fan 25 = .ok (.ireturn, 1) := by decide +kernel
theorem dX9_fan_26 : decode cX9_fan 26 = .ok (.aload_n 0, 1) := by decide +kernel
theorem dX9_fan_27 : decode cX9_fan 27 = .ok (.getfield 10, 3) := by decide +kernel
theorem dX9_fan_30 : decode cX9_fan 30 = .ok (.getfield 143, 3) := by decide +kernel
theorem dX9_fan_33 : decode cX9_fan 33 = .ok (.iload_n 1, 1) := by decide +kernel
theorem dX9_fan_34 : decode cX9_fan 34 = .ok (.putfield 152, 3) := by decide +kernel
theorem dX9_fan_37 : decode cX9_fan 37 = .ok (.iload_n 1, 1) := by decide +kernel
theorem dX9_fan_38 : decode cX9_fan 38 = .ok (.bipush 50, 2) := by decide +kernel
theorem dX9_fan_40 : decode cX9_fan 40 = .ok (.iadd, 1) := by decide +kernel
theorem dX9_fan_41 : decode cX9_fan 41 = .ok (.ireturn, 1) := by decide +kernel
theorem dX9_now_0 : decode cX9_now 0 = .ok (.iload_n 1, 1) := by decide +kernel
theorem dX9_now_1 : decode cX9_now 1 = .ok (.ifCond .lt 8, 3) := by decide +kernel
theorem dX9_now_4 : decode cX9_now 4 = .ok (.iload_n 1, 1) := by decide +kernel
theorem dX9_now_5 : decode cX9_now 5 = .ok (.iconst 3, 1) := by decide +kernel
theorem dX9_now_6 : decode cX9_now 6 = .ok (.if_icmp .le 10, 3) := by decide +kernel
theorem dX9_now_9 : decode cX9_now 9 = .ok (.aload_n 0, 1) := by decide +kernel
theorem dX9_now_10 : decode cX9_now 10 = .ok (.bipush (-2), 2) := by decide +kernel
theorem dX9_now_12 : decode cX9_now 12 = .ok (.invokevirtual 155, 3) := by decide +kernel
theorem dX9_now_15 : decode cX9_now 15 = .ok (.ireturn, 1) := by decide +kernel
theorem dX9_now_16 : decode cX9_now 16 = .ok (.aload_n 0, 1) := by decide +kernel
theorem dX9_now_17 : decode cX9_now 17 = .ok (.iload_n 1, 1) := by decide +kernel
theorem dX9_now_18 : decode cX9_now 18 = .ok (.invokevirtual 140, 3) := by decide +kernel
theorem dX9_now_21 : decode cX9_now 21 = .ok (.ireturn, 1) := by decide +kernel
theorem dX9_size_0 : decode cX9_size 0 = .ok (.aload_n 0, 1) := by decide +kernel
theorem dX9_size_1 : decode cX9_size 1 = .ok (.getfield 10, 3) := by decide +kernel
theorem dX9_size_4 : decode cX9_size 4 = .ok (.getfield 89, 3) := by decide +kernel
theorem dX9_size_7 : decode cX9_size 7 = .ok (.iload_n 1, 1) := by decide +kernel
theorem dX9_size_8 : decode cX9_size 8 = .ok (.invokevirtual 93, 3) := by decide +kernel
theorem dX9_size_11 : decode cX9_size 11 = .ok (.ifCond .ne 9, 3) := by decide +kernel
theorem dX9_size_14 : decode cX9_size 14 = .ok (.aload_n 0, 1) := by decide +kernel
theorem dX9_size_15 : decode cX9_size 15 = .ok (.iconst (-1), 1) := by decide +kernel
theorem dX9_size_16 : decode cX9_size 16 = .ok (.invokevirtual 57, 3) := by decide +kernel
theorem dX9_size_19 : decode cX9_size 19 = .ok (.ireturn, 1) := by decide +kernel
theorem dX9_size_20 : decode cX9_size 20 = .ok (.iload_n 2, 1) := by decide +kernel
theorem dX9_size_21 : decode cX9_size 21 = .ok (.ifCond .ge 10, 3) := by decide +kernel
theorem dX9_size_24 : decode cX9_size 24 = .ok (.aload_n 0, 1) := by decide +kernel
theorem dX9_size_25 : decode cX9_size 25 = .ok (.bipush (-4), 2) := by decide +kernel
theorem dX9_size_27 : decode cX9_size 27 = .ok (.invokevirtual 57, 3) := by decide +kernel
theorem dX9_size_30 : decode cX9_size 30 = .ok (.ireturn, 1) := by decide +kernel
theorem dX9_size_31 : decode cX9_size 31 = .ok (.iload_n 2, 1) := by decide +kernel
theorem dX9_size_32 : decode cX9_size 32 = .ok (.bipush 9, 2) := by decide +kernel
theorem dX9_size_34 : decode cX9_size 34 = .ok (.if_icmp .le 10, 3) := by decide +kernel
theorem dX9_size_37 : decode cX9_size 37 = .ok (.aload_n 0, 1) := by decide +kernel
theorem dX9_size_38 : decode cX9_size 38 = .ok (.bipush (-6), 2) := by decide +kernel
theorem dX9_size_40 : decode cX9_size 40 = .ok (.invokevirtual 57, 3) := by decide +kernel
theorem dX9_size_43 : decode cX9_size 43 = .ok (.ireturn, 1) := by decide +kernel
theorem dX9_size_44 : decode cX9_size 44 = .ok (.aload_n 0, 1) := by decide +kernel
theorem dX9_size_45 : decode cX9_size 45 = .ok (.getfield 10, 3) := by decide +kernel
theorem dX9_size_48 : decode cX9_size 48 = .ok (.getfield 89, 3) := by decide +kernel
theorem dX9_size_51 : decode cX9_size 51 = .ok (.getfield 114, 3) := by decide +kernel
theorem dX9_size_54 : decode cX9_size 54 = .ok (.iload_n 1, 1) := by decide +kernel
theorem dX9_size_55 : decode cX9_size 55 = .ok (.invokestatic 102, 3) := by decide +kernel
theorem dX9_size_58 : decode cX9_size 58 = .ok (.istore_n 3, 1) := by decide +kernel
theorem dX9_size_59 : decode cX9_size 59 = .ok (.aload_n 0, 1) := by decide +kernel
theorem dX9_size_60 : decode cX9_size 60 = .ok (.getfield 10, 3) := by decide +kernel
theorem dX9_size_63 : decode cX9_size 63 = .ok (.getfield 89, 3) := by decide +kernel
theorem dX9_size_66 : decode cX9_size 66 = .ok (.getfield 114, 3) := by decide +kernel
theorem dX9_size_69 : decode cX9_size 69 = .ok (.iload_n 1, 1) := by decide +kernel
theorem dX9_size_70 : decode cX9_size 70 = .ok (.iload_n 2, 1) := by decide +kernel
theorem dX9_size_71 : decode cX9_size 71 = .ok (.invokestatic 158, 3) := by decide +kernel
theorem dX9_size_74 : decode cX9_size 74 = .ok (.iload_n 3, 1) := by decide +kernel
theorem dX9_size_75 : decode cX9_size 75 = .ok (.ireturn, 1) := by decide +kernel
theorem dX9_outside_0 : decode cX9_outside 0 = .ok (.aload_n 0, 1) := by decide +kernel
theorem dX9_outside_1 : decode cX9_outside 1 = .ok (.getfield 10, 3) := by decide +kernel
theorem dX9_outside_4 : decode cX9_outside 4 = .ok (.getfield 89, 3) := by decide +kernel
theorem dX9_outside_7 : decode cX9_outside 7 = .ok (.iload_n 1, 1) := by decide +kernel
theorem dX9_outside_8 : decode cX9_outside 8 = .ok (.invokevirtual 93, 3) := by decide +kernel
theorem dX9_outside_11 : decode cX9_outside 11 = .ok (.ifCond .ne 9, 3) := by decide +kernel
theorem dX9_outside_14 : decode cX9_outside 14 = .ok (.aload_n 0, 1) := by decide +kernel
theorem dX9_outside_15 : decode cX9_outside 15 = .ok (.iconst (-1), 1) := by decide +kernel
theorem dX9_outside_16 : decode cX9_outside 16 = .ok (.invokevirtual 155, 3) := by decide +kernel
theorem dX9_outside_19 : decode cX9_outside 19 = .ok (.ireturn, 1) := by decide +kernel
theorem dX9_outside_20 : decode cX9_outside 20 = .ok (.aload_n 0, 1) := by decide +kernel
theorem dX9_outside_21 : decode cX9_outside 21 = .ok (.getfield 10, 3) := by decide +kernel
theorem dX9_outside_24 : decode cX9_outside 24 = .ok (.getfield 89, 3) := by decide +kernel
theorem dX9_outside_27 : decode cX9_outside 27 = .ok (.iload_n 1, 1) := by decide +kernel
theorem dX9_outside_28 : decode cX9_outside 28 = .ok (.invokevirtual 162, 3) := by decide +kernel
theorem dX9_outside_31 : decode cX9_outside 31 = .ok (.ifCond .eq 10, 3) := by decide +kernel
theorem dX9_outside_34 : decode cX9_outside 34 = .ok (.aload_n 0, 1) := by decide +kernel
theorem dX9_outside_35 : decode cX9_outside 35 = .ok (.bipush (-3), 2) := by decide +kernel
theorem dX9_outside_37 : decode cX9_outside 37 = .ok (.invokevirtual 155, 3) := by decide +kernel
theorem dX9_outside_40 : decode cX9_outside 40 = .ok (.ireturn, 1) := by decide +kernel
theorem dX9_outside_41 : decode cX9_outside 41 = .ok (.aload_n 0, 1) := by decide +kernel
theorem dX9_outside_42 : decode cX9_outside 42 = .ok (.getfield 10, 3) := by decide +kernel
theorem dX9_outside_45 : decode cX9_outside 45 = .ok (.getfield 89, 3) := by decide +kernel
theorem dX9_outside_48 : decode cX9_outside 48 = .ok (.iload_n 1, 1) := by decide +kernel
theorem dX9_outside_49 : decode cX9_outside 49 = .ok (.aload_n 0, 1) := by decide +kernel
theorem dX9_outside_50 : decode cX9_outside 50 = .ok (.getfield 10, 3) := by decide +kernel
theorem dX9_outside_53 : decode cX9_outside 53 = .ok (.getfield 143, 3) := by decide +kernel
theorem dX9_outside_56 : decode cX9_outside 56 = .ok (.invokevirtual 165, 3) := by decide +kernel
theorem dX9_outside_59 : decode cX9_outside 59 = .ok (.ireturn, 1) := by decide +kernel
theorem dX9_push_0 : decode cX9_push 0 = .ok (.iload_n 1, 1) := by decide +kernel
theorem dX9_push_1 : decode cX9_push 1 = .ok (.ifCond .lt 14, 3) := by decide +kernel
theorem dX9_push_4 : decode cX9_push 4 = .ok (.iload_n 1, 1) := by decide +kernel
theorem dX9_push_5 : decode cX9_push 5 = .ok (.aload_n 0, 1) := by decide +kernel
theorem dX9_push_6 : decode cX9_push 6 = .ok (.getfield 10, 3) := by decide +kernel
theorem dX9_push_9 : decode cX9_push 9 = .ok (.getfield 169, 3) := by decide +kernel
theorem dX9_push_12 : decode cX9_push 12 = .ok (.if_icmp .lt 9, 3) := by decide +kernel
theorem dX9_push_15 : decode cX9_push 15 = .ok (.aload_n 0, 1) := by decide +kernel
theorem dX9_push_16 : decode cX9_push 16 = .ok (.iconst (-1), 1) := by decide +kernel
theorem dX9_push_17 : decode cX9_push 17 = .ok (.invokevirtual 155, 3) := by decide +kernel
theorem dX9_push_20 : decode cX9_push 20 = .ok (.ireturn, 1) := by decide +kernel
theorem dX9_push_21 : decode cX9_push 21 = .ok (.aload_n 0, 1) := by decide +kernel
theorem dX9_push_22 : decode cX9_push 22 = .ok (.iconst 0, 1) := by decide +kernel
theorem dX9_push_23 : decode cX9_push 23 = .ok (.invokevirtual 172, 3) := by decide +kernel
theorem dX9_push_26 : decode cX9_push 26 = .ok (.aload_n 0, 1) := by decide +kernel
theorem dX9_push_27 : decode cX9_push 27 = .ok (.getfield 28, 3) := by decide +kernel
theorem dX9_push_30 : decode cX9_push 30 = .ok (.getfield 175, 3) := by decide +kernel
theorem dX9_push_33 : decode cX9_push 33 = .ok (.iload_n 1, 1) := by decide +kernel
theorem dX9_push_34 : decode cX9_push 34 = .ok (.invokestatic 102, 3) := by decide +kernel
theorem dX9_push_37 : decode cX9_push 37 = .ok (.ireturn, 1) := by decide +kernel
theorem dX9_flow_0 : decode cX9_flow 0 = .ok (.aload_n 0, 1) := by decide +kernel
theorem dX9_flow_1 : decode cX9_flow 1 = .ok (.getfield 10, 3) := by decide +kernel
theorem dX9_flow_4 : decode cX9_flow 4 = .ok (.getfield 89, 3) := by decide +kernel
theorem dX9_flow_7 : decode cX9_flow 7 = .ok (.iload_n 1, 1) := by decide +kernel
theorem dX9_flow_8 : decode cX9_flow 8 = .ok (.invokevirtual 93, 3) := by decide +kernel
theorem dX9_flow_11 : decode cX9_flow 11 = .ok (.ifCond .ne 9, 3) := by decide +kernel
theorem dX9_flow_14 : decode cX9_flow 14 = .ok (.aload_n 0, 1) := by decide +kernel
theorem dX9_flow_15 : decode cX9_flow 15 = .ok (.iconst (-1), 1) := by decide +kernel
theorem dX9_flow_16 : decode cX9_flow 16 = .ok (.invokevirtual 155, 3) := by decide +kernel
theorem dX9_flow_19 : decode cX9_flow 19 = .ok (.ireturn, 1) := by decide +kernel
theorem dX9_flow_20 : decode cX9_flow 20 = .ok (.aload_n 0, 1) := by decide +kernel
theorem dX9_flow_21 : decode cX9_flow 21 = .ok (.iconst 0, 1) := by decide +kernel
theorem dX9_flow_22 : decode cX9_flow 22 = .ok (.invokevirtual 172, 3) := by decide +kernel
theorem dX9_flow_25 : decode cX9_flow 25 = .ok (.aload_n 0, 1) := by decide +kernel
theorem dX9_flow_26 : decode cX9_flow 26 = .ok (.getfield 28, 3) := by decide +kernel
theorem dX9_flow_29 : decode cX9_flow 29 = .ok (.iload_n 1, 1) := by decide +kernel
theorem dX9_flow_30 : decode cX9_flow 30 = .ok (.invokevirtual 178, 3) := by decide +kernel
theorem dX9_flow_33 : decode cX9_flow 33 = .ok (.ireturn, 1) := by decide +kernel
theorem dX9_lean_0 : decode cX9_lean 0 = .ok (.aload_n 0, 1) := by decide +kernel
theorem dX9_lean_1 : decode cX9_lean 1 = .ok (.getfield 10, 3) := by decide +kernel
theorem dX9_lean_4 : decode cX9_lean 4 = .ok (.getfield 89, 3) := by decide +kernel
theorem dX9_lean_7 : decode cX9_lean 7 = .ok (.iload_n 1, 1) := by decide +kernel
theorem dX9_lean_8 : decode cX9_lean 8 = .ok (.invokevirtual 93, 3) := by decide +kernel
theorem dX9_lean_11 : decode cX9_lean 11 = .ok (.ifCond .ne 9, 3) := by decide +kernel
theorem dX9_lean_14 : decode cX9_lean 14 = .ok (.aload_n 0, 1) := by decide +kernel
theorem dX9_lean_15 : decode cX9_lean 15 = .ok (.iconst (-1), 1) := by decide +kernel
theorem dX9_lean_16 : decode cX9_lean 16 = .ok (.invokevirtual 57, 3) := by decide +kernel
theorem dX9_lean_19 : decode cX9_lean 19 = .ok (.ireturn, 1) := by decide +kernel
theorem dX9_lean_20 : decode cX9_lean 20 = .ok (.aload_n 0, 1) := by decide +kernel
theorem dX9_lean_21 : decode cX9_lean 21 = .ok (.iconst 0, 1) := by decide +kernel
theorem dX9_lean_22 : decode cX9_lean 22 = .ok (.invokevirtual 172, 3) := by decide +kernel
theorem dX9_lean_25 : decode cX9_lean 25 = .ok (.aload_n 0, 1) := by decide +kernel
theorem dX9_lean_26 : decode cX9_lean 26 = .ok (.iload_n 1, 1) := by decide +kernel
theorem dX9_lean_27 : decode cX9_lean 27 = .ok (.invokevirtual 181, 3) := by decide +kernel
theorem dX9_lean_30 : decode cX9_lean 30 = .ok (.ireturn, 1) := by decide +kernel
theorem dX9_coal_0 : decode cX9_coal 0 = .ok (.aload_n 0, 1) := by decide +kernel
theorem dX9_coal_1 : decode cX9_coal 1 = .ok (.iconst 0, 1) := by decide +kernel
theorem dX9_coal_2 : decode cX9_coal 2 = .ok (.invokevirtual 184, 3) := by decide +kernel
theorem dX9_coal_5 : decode cX9_coal 5 = .ok (.ireturn, 1) := by decide +kernel
theorem dX9_smokes_0 : decode cX9_smokes 0 = .ok (.aload_n 0, 1) := by decide +kernel
theorem dX9_smokes_1 : decode cX9_smokes 1 = .ok (.iconst 0, 1) := by decide +kernel
theorem dX9_smokes_2 : decode cX9_smokes 2 = .ok (.invokevirtual 172, 3) := by decide +kernel
theorem dX9_smokes_5 : decode cX9_smokes 5 = .ok (.aload_n 0, 1) := by decide +kernel
theorem dX9_smokes_6 : decode cX9_smokes 6 = .ok (.getfield 28, 3) := by decide +kernel
theorem dX9_smokes_9 : decode cX9_smokes 9 = .ok (.invokevirtual 187, 3) := by decide +kernel
theorem dX9_smokes_12 : decode cX9_smokes 12 = .ok (.ifCond .eq 7, 3) := by decide +kernel
theorem dX9_smokes_15 : decode cX9_smokes 15 = .ok (.iconst 1, 1) := by decide +kernel
theorem dX9_smokes_16 : decode cX9_smokes 16 = .ok (.goto 4, 3) := by decide +kernel
theorem dX9_smokes_19 : decode cX9_smokes 19 = .ok (.iconst 0, 1) := by decide +kernel
theorem dX9_smokes_20 : decode cX9_smokes 20 = .ok (.ireturn, 1) := by decide +kernel
theorem dX9_stopped_0 : decode cX9_stopped 0 = .ok (.iload_n 1, 1) := by decide +kernel
theorem dX9_stopped_1 : decode cX9_stopped 1 = .ok (.ifCond .lt 19, 3) := by decide +kernel
theorem dX9_stopped_4 : decode cX9_stopped 4 = .ok (.iload_n 1, 1) := by decide +kernel
theorem dX9_stopped_5 : decode cX9_stopped 5 = .ok (.iconst 1, 1) := by decide +kernel
theorem dX9_stopped_6 : decode cX9_stopped 6 = .ok (.aload_n 0, 1) := by decide +kernel
theorem dX9_stopped_7 : decode cX9_stopped 7 = .ok (.getfield 10, 3) := by decide +kernel
theorem dX9_stopped_10 : decode cX9_stopped 10 = .ok (.getfield 89, 3) := by decide +kernel
theorem dX9_stopped_13 : decode cX9_stopped 13 = .ok (.getfield 190, 3) := by decide +kernel
theorem dX9_stopped_16 : decode cX9_stopped 16 = .ok (.ishl, 1) := by decide +kernel
theorem dX9_stopped_17 : decode cX9_stopped 17 = .ok (.if_icmp .lt 9, 3) := by decide +kernel
theorem dX9_stopped_20 : decode cX9_stopped 20 = .ok (.aload_n 0, 1) := by decide +kernel
theorem dX9_stopped_21 : decode cX9_stopped 21 = .ok (.iconst (-1), 1) := by decide +kernel
theorem dX9_stopped_22 : decode cX9_stopped 22 = .ok (.invokevirtual 57, 3) := by decide +kernel
theorem dX9_stopped_25 : decode cX9_stopped 25 = .ok (.ireturn, 1) := by decide +kernel
theorem dX9_stopped_26 : decode cX9_stopped 26 = .ok (.aload_n 0, 1) := by decide +kernel
theorem dX9_stopped_27 : decode cX9_stopped 27 = .ok (.iload_n 1, 1) := by decide +kernel
theorem dX9_stopped_28 : decode cX9_stopped 28 = .ok (.invokevirtual 184, 3) := by decide +kernel
theorem dX9_stopped_31 : decode cX9_stopped 31 = .ok (.ireturn, 1) := by decide +kernel
theorem dX9_best_0 : decode cX9_best 0 = .ok (.iload_n 2, 1) := by decide +kernel
theorem dX9_best_1 : decode cX9_best 1 = .ok (.ifCond .lt 8, 3) := by decide +kernel
theorem dX9_best_4 : decode cX9_best 4 = .ok (.iload_n 2, 1) := by decide +kernel
theorem dX9_best_5 : decode cX9_best 5 = .ok (.iconst 1, 1) := by decide +kernel
theorem dX9_best_6 : decode cX9_best 6 = .ok (.if_icmp .le 10, 3) := by decide +kernel
theorem dX9_best_9 : decode cX9_best 9 = .ok (.aload_n 0, 1) := by decide +kernel
theorem dX9_best_10 : decode cX9_best 10 = .ok (.bipush (-2), 2) := by decide +kernel
theorem dX9_best_12 : decode cX9_best 12 = .ok (.invokevirtual 57, 3) := by decide +kernel
theorem dX9_best_15 : decode cX9_best 15 = .ok (.ireturn, 1) := by decide +kernel
theorem dX9_best_16 : decode cX9_best 16 = .ok (.iload_n 1, 1) := by decide +kernel
theorem dX9_best_17 : decode cX9_best 17 = .ok (.ifCond .ge 10, 3) := by decide +kernel
theorem dX9_best_20 : decode cX9_best 20 = .ok (.aload_n 0, 1) := by decide +kernel
theorem dX9_best_21 : decode cX9_best 21 = .ok (.bipush (-4), 2) := by decide +kernel
theorem dX9_best_23 : decode cX9_best 23 = .ok (.invokevirtual 57, 3) := by decide +kernel
theorem dX9_best_26 : decode cX9_best 26 = .ok (.ireturn, 1) := by decide +kernel
theorem dX9_best_27 : decode cX9_best 27 = .ok (.iload_n 1, 1) := by decide +kernel
theorem dX9_best_28 : decode cX9_best 28 = .ok (.bipush 99, 2) := by decide +kernel
theorem dX9_best_30 : decode cX9_best 30 = .ok (.if_icmp .le 10, 3) := by decide +kernel
theorem dX9_best_33 : decode cX9_best 33 = .ok (.aload_n 0, 1) := by decide +kernel
theorem dX9_best_34 : decode cX9_best 34 = .ok (.bipush (-6), 2) := by decide +kernel
theorem dX9_best_36 : decode cX9_best 36 = .ok (.invokevirtual 57, 3) := by decide +kernel
theorem dX9_best_39 : decode cX9_best 39 = .ok (.ireturn, 1) := by decide +kernel
theorem dX9_best_40 : decode cX9_best 40 = .ok (.bipush (-9), 2) := by decide +kernel
theorem dX9_best_42 : decode cX9_best 42 = .ok (.istore_n 3, 1) := by decide +kernel
theorem dX9_best_43 : decode cX9_best 43 = .ok (.bipush (-9), 2) := by decide +kernel
theorem dX9_best_45 : decode cX9_best 45 = .ok (.istore 4, 2) := by decide +kernel
theorem dX9_best_47 : decode cX9_best 47 = .ok (.iconst 1, 1) := by decide +kernel
theorem dX9_best_48 : decode cX9_best 48 = .ok (.aload_n 0, 1) := by decide +kernel
theorem dX9_best_49 : decode cX9_best 49 = .ok (.getfield 10, 3) := by decide +kernel
theorem dX9_best_52 : decode cX9_best 52 = .ok (.getfield 89, 3) := by decide +kernel
theorem dX9_best_55 : decode cX9_best 55 = .ok (.getfield 190, 3) := by decide +kernel
theorem dX9_best_58 : decode cX9_best 58 = .ok (.ishl, 1) := by decide +kernel
theorem dX9_best_59 : decode cX9_best 59 = .ok (.istore 5, 2) := by decide +kernel
theorem dX9_best_61 : decode cX9_best 61 = .ok (.iconst 0, 1) := by decide +kernel
theorem dX9_best_62 : decode cX9_best 62 = .ok (.istore 6, 2) := by decide +kernel
theorem dX9_best_64 : decode cX9_best 64 = .ok (.iload 6, 2) := by decide +kernel
theorem dX9_best_66 : decode cX9_best 66 = .ok (.iload 5, 2) := by decide +kernel
theorem dX9_best_68 : decode cX9_best 68 = .ok (.if_icmp .ge 63, 3) := by decide +kernel
theorem dX9_best_71 : decode cX9_best 71 = .ok (.aload_n 0, 1) := by decide +kernel
theorem dX9_best_72 : decode cX9_best 72 = .ok (.getfield 10, 3) := by decide +kernel
theorem dX9_best_75 : decode cX9_best 75 = .ok (.getfield 89, 3) := by decide +kernel
theorem dX9_best_78 : decode cX9_best 78 = .ok (.iload 6, 2) := by decide +kernel
theorem dX9_best_80 : decode cX9_best 80 = .ok (.iload_n 1, 1) := by decide +kernel
theorem dX9_best_81 : decode cX9_best 81 = .ok (.invokevirtual 191, 3) := by decide +kernel
theorem dX9_best_84 : decode cX9_best 84 = .ok (.ifCond .eq 41, 3) := by decide +kernel
theorem dX9_best_87 : decode cX9_best 87 = .ok (.aload_n 0, 1) := by decide +kernel
theorem dX9_best_88 : decode cX9_best 88 = .ok (.iload 6, 2) := by decide +kernel
theorem dX9_best_90 : decode cX9_best 90 = .ok (.invokevirtual 184, 3) := by decide +kernel
theorem dX9_best_93 : decode cX9_best 93 = .ok (.istore 7, 2) := by decide +kernel
theorem dX9_best_95 : decode cX9_best 95 = .ok (.aload_n 0, 1) := by decide +kernel
theorem dX9_best_96 : decode cX9_best 96 = .ok (.getfield 28, 3) := by decide +kernel
theorem dX9_best_99 : decode cX9_best 99 = .ok (.invokevirtual 187, 3) := by decide +kernel
theorem dX9_best_102 : decode cX9_best 102 = .ok (.ifCond .ne 23, 3) := by decide +kernel
theorem dX9_best_105 : decode cX9_best 105 = .ok (.iload_n 3, 1) := by decide +kernel
theorem dX9_best_106 : decode cX9_best 106 = .ok (.bipush (-9), 2) := by decide +kernel
theorem dX9_best_108 : decode cX9_best 108 = .ok (.if_icmp .eq 10, 3) := by decide +kernel
theorem dX9_best_111 : decode cX9_best 111 = .ok (.iload 7, 2) := by decide +kernel
theorem dX9_best_113 : decode cX9_best 113 = .ok (.iload 4, 2) := by decide +kernel
theorem dX9_best_115 : decode cX9_best 115 = .ok (.if_icmp .ge 10, 3) := by decide +kernel
theorem dX9_best_118 : decode cX9_best 118 = .ok (.iload 6, 2) := by decide +kernel
theorem dX9_best_120 : decode cX9_best 120 = .ok (.istore_n 3, 1) := by decide +kernel
theorem dX9_best_121 : decode cX9_best 121 = .ok (.iload 7, 2) := by decide +kernel
theorem dX9_best_123 : decode cX9_best 123 = .ok (.istore 4, 2) := by decide +kernel
theorem dX9_best_125 : decode cX9_best 125 = .ok (.iinc 6 1, 3) := by decide +kernel
theorem dX9_best_128 : decode cX9_best 128 = .ok (.goto (-64), 3) := by decide +kernel
theorem dX9_best_131 : decode cX9_best 131 = .ok (.iload_n 2, 1) := by decide +kernel
theorem dX9_best_132 : decode cX9_best 132 = .ok (.ifCond .ne 7, 3) := by decide +kernel
theorem dX9_best_135 : decode cX9_best 135 = .ok (.iload_n 3, 1) := by decide +kernel
theorem dX9_best_136 : decode cX9_best 136 = .ok (.goto 5, 3) := by decide +kernel
theorem dX9_best_139 : decode cX9_best 139 = .ok (.iload 4, 2) := by decide +kernel
theorem dX9_best_141 : decode cX9_best 141 = .ok (.ireturn, 1) := by decide +kernel
theorem dX9_pairs_0 : decode cX9_pairs 0 = .ok (.iload_n 1, 1) := by decide +kernel
theorem dX9_pairs_1 : decode cX9_pairs 1 = .ok (.ifCond .lt 8, 3) := by decide +kernel
theorem dX9_pairs_4 : decode cX9_pairs 4 = .ok (.iload_n 1, 1) := by decide +kernel
theorem dX9_pairs_5 : decode cX9_pairs 5 = .ok (.iconst 1, 1) := by decide +kernel
theorem dX9_pairs_6 : decode cX9_pairs 6 = .ok (.if_icmp .le 10, 3) := by decide +kernel
theorem dX9_pairs_9 : decode cX9_pairs 9 = .ok (.aload_n 0, 1) := by decide +kernel
theorem dX9_pairs_10 : decode cX9_pairs 10 = .ok (.bipush (-2), 2) := by decide +kernel
theorem dX9_pairs_12 : decode cX9_pairs 12 = .ok (.invokevirtual 57, 3) := by decide +kernel
theorem dX9_pairs_15 : decode cX9_pairs 15 = .ok (.ireturn, 1) := by decide +kernel
theorem dX9_pairs_16 : decode cX9_pairs 16 = .ok (.bipush (-9), 2) := by decide +kernel
theorem dX9_pairs_18 : decode cX9_pairs 18 = .ok (.istore_n 2, 1) := by decide +kernel
theorem dX9_pairs_19 : decode cX9_pairs 19 = .ok (.iconst 0, 1) := by decide +kernel
theorem dX9_pairs_20 : decode cX9_pairs 20 = .ok (.istore_n 3, 1) := by decide +kernel
theorem dX9_pairs_21 : decode cX9_pairs 21 = .ok (.aload_n 0, 1) := by decide +kernel
theorem dX9_pairs_22 : decode cX9_pairs 22 = .ok (.iconst 0, 1) := by decide +kernel
theorem dX9_pairs_23 : decode cX9_pairs 23 = .ok (.invokevirtual 184, 3) := by decide +kernel
theorem dX9_pairs_26 : decode cX9_pairs 26 = .ok (.istore 4, 2) := by decide +kernel
theorem dX9_pairs_28 : decode cX9_pairs 28 = .ok (.aload_n 0, 1) := by decide +kernel
theorem dX9_pairs_29 : decode cX9_pairs 29 = .ok (.iload 4, 2) := by decide +kernel
theorem dX9_pairs_31 : decode cX9_pairs 31 = .ok (.invokevirtual 195, 3) := by decide +kernel
theorem dX9_pairs_34 : decode cX9_pairs 34 = .ok (.istore 5, 2) := by decide +kernel
theorem dX9_pairs_36 : decode cX9_pairs 36 = .ok (.iconst 0, 1) := by decide +kernel
theorem dX9_pairs_37 : decode cX9_pairs 37 = .ok (.istore 6, 2) := by decide +kernel
theorem dX9_pairs_39 : decode cX9_pairs 39 = .ok (.iload 6, 2) := by decide +kernel
theorem dX9_pairs_41 : decode cX9_pairs 41 = .ok (.aload_n 0, 1) := by decide +kernel
theorem dX9_pairs_42 : decode cX9_pairs 42 = .ok (.getfield 10, 3) := by decide +kernel
theorem dX9_pairs_45 : decode cX9_pairs 45 = .ok (.getfield 89, 3) := by decide +kernel
theorem dX9_pairs_48 : decode cX9_pairs 48 = .ok (.getfield 190, 3) := by decide +kernel
theorem dX9_pairs_51 : decode cX9_pairs 51 = .ok (.if_icmp .ge 88, 3) := by decide +kernel
theorem dX9_pairs_54 : decode cX9_pairs 54 = .ok (.iload 6, 2) := by decide +kernel
theorem dX9_pairs_56 : decode cX9_pairs 56 = .ok (.iconst 1, 1) := by decide +kernel
theorem dX9_pairs_57 : decode cX9_pairs 57 = .ok (.iadd, 1) := by decide +kernel
theorem dX9_pairs_58 : decode cX9_pairs 58 = .ok (.istore 7, 2) := by decide +kernel
theorem dX9_pairs_60 : decode cX9_pairs 60 = .ok (.iload 7, 2) := by decide +kernel
theorem dX9_pairs_62 : decode cX9_pairs 62 = .ok (.aload_n 0, 1) := by decide +kernel
theorem dX9_pairs_63 : decode cX9_pairs 63 = .ok (.getfield 10, 3) := by decide +kernel
theorem dX9_pairs_66 : decode cX9_pairs 66 = .ok (.getfield 89, 3) := by decide +kernel
theorem dX9_pairs_69 : decode cX9_pairs 69 = .ok (.getfield 190, 3) := by decide +kernel
theorem dX9_pairs_72 : decode cX9_pairs 72 = .ok (.if_icmp .ge 61, 3) := by decide +kernel
theorem dX9_pairs_75 : decode cX9_pairs 75 = .ok (.iconst 1, 1) := by decide +kernel
theorem dX9_pairs_76 : decode cX9_pairs 76 = .ok (.iload 6, 2) := by decide +kernel
theorem dX9_pairs_78 : decode cX9_pairs 78 = .ok (.ishl, 1) := by decide +kernel
theorem dX9_pairs_79 : decode cX9_pairs 79 = .ok (.iconst 1, 1) := by decide +kernel
theorem dX9_pairs_80 : decode cX9_pairs 80 = .ok (.iload 7, 2) := by decide +kernel
theorem dX9_pairs_82 : decode cX9_pairs 82 = .ok (.ishl, 1) := by decide +kernel
theorem dX9_pairs_83 : decode cX9_pairs 83 = .ok (.ior, 1) := by decide +kernel
theorem dX9_pairs_84 : decode cX9_pairs 84 = .ok (.istore 8, 2) := by decide +kernel
theorem dX9_pairs_86 : decode cX9_pairs 86 = .ok (.iload 5, 2) := by decide +kernel
theorem dX9_pairs_88 : decode cX9_pairs 88 = .ok (.iload 8, 2) := by decide +kernel
theorem dX9_pairs_90 : decode cX9_pairs 90 = .ok (.iand, 1) := by decide +kernel
theorem dX9_pairs_91 : decode cX9_pairs 91 = .ok (.iload 8, 2) := by decide +kernel
theorem dX9_pairs_93 : decode cX9_pairs 93 = .ok (.if_icmp .ne 34, 3) := by decide +kernel
theorem dX9_pairs_96 : decode cX9_pairs 96 = .ok (.aload_n 0, 1) := by decide +kernel
theorem dX9_pairs_97 : decode cX9_pairs 97 = .ok (.iload 8, 2) := by decide +kernel
theorem dX9_pairs_99 : decode cX9_pairs 99 = .ok (.invokevirtual 184, 3) := by decide +kernel
theorem dX9_pairs_102 : decode cX9_pairs 102 = .ok (.iload 4, 2) := by decide +kernel
theorem dX9_pairs_104 : decode cX9_pairs 104 = .ok (.if_icmp .ge 23, 3) := by decide +kernel
theorem dX9_pairs_107 : decode cX9_pairs 107 = .ok (.iload_n 3, 1) := by decide +kernel
theorem dX9_pairs_108 : decode cX9_pairs 108 = .ok (.ifCond .ne 14, 3) := by decide +kernel
theorem dX9_pairs_111 : decode cX9_pairs 111 = .ok (.bipush 10, 2) := by decide +kernel
theorem dX9_pairs_113 : decode cX9_pairs 113 = .ok (.iload 6, 2) := by decide +kernel
theorem dX9_pairs_115 : decode cX9_pairs 115 = .ok (.imul, 1) := by decide +kernel
theorem dX9_pairs_116 : decode cX9_pairs 116 = .ok (.iload 7, 2) := by decide +kernel
theorem dX9_pairs_118 : decode cX9_pairs 118 = .ok (.iadd, 1) := by decide +kernel
theorem dX9_pairs_119 : decode cX9_pairs 119 = .ok (.goto 4, 3) := by decide +kernel
theorem dX9_pairs_122 : decode cX9_pairs 122 = .ok (.iload_n 2, 1) := by decide +kernel
theorem dX9_pairs_123 : decode cX9_pairs 123 = .ok (.istore_n 2, 1) := by decide +kernel
theorem dX9_pairs_124 : decode cX9_pairs 124 = .ok (.iinc 3 1, 3) := by decide +kernel
theorem dX9_pairs_127 : decode cX9_pairs 127 = .ok (.iinc 7 1, 3) := by decide +kernel
theorem dX9_pairs_130 : decode cX9_pairs 130 = .ok (.goto (-70), 3) := by decide +kernel
theorem dX9_pairs_133 : decode cX9_pairs 133 = .ok (.iinc 6 1, 3) := by decide +kernel
theorem dX9_pairs_136 : decode cX9_pairs 136 = .ok (.goto (-97), 3) := by decide +kernel
theorem dX9_pairs_139 : decode cX9_pairs 139 = .ok (.iload_n 1, 1) := by decide +kernel
theorem dX9_pairs_140 : decode cX9_pairs 140 = .ok (.ifCond .ne 7, 3) := by decide +kernel
theorem dX9_pairs_143 : decode cX9_pairs 143 = .ok (.iload_n 3, 1) := by decide +kernel
theorem dX9_pairs_144 : decode cX9_pairs 144 = .ok (.goto 4, 3) := by decide +kernel
theorem dX9_pairs_147 : decode cX9_pairs 147 = .ok (.iload_n 2, 1) := by decide +kernel
theorem dX9_pairs_148 : decode cX9_pairs 148 = .ok (.ireturn, 1) := by decide +kernel
theorem dX9_shut_0 : decode cX9_shut 0 = .ok (.aload_n 0, 1) := by decide +kernel
theorem dX9_shut_1 : decode cX9_shut 1 = .ok (.getfield 10, 3) := by decide +kernel
theorem dX9_shut_4 : decode cX9_shut 4 = .ok (.getfield 89, 3) := by decide +kernel
theorem dX9_shut_7 : decode cX9_shut 7 = .ok (.iload_n 1, 1) := by decide +kernel
theorem dX9_shut_8 : decode cX9_shut 8 = .ok (.invokevirtual 93, 3) := by decide +kernel
theorem dX9_shut_11 : decode cX9_shut 11 = .ok (.ifCond .eq 17, 3) := by decide +kernel
theorem dX9_shut_14 : decode cX9_shut 14 = .ok (.aload_n 0, 1) := by decide +kernel
theorem dX9_shut_15 : decode cX9_shut 15 = .ok (.getfield 10, 3) := by decide +kernel
theorem dX9_shut_18 : decode cX9_shut 18 = .ok (.getfield 89, 3) := by decide +kernel
theorem dX9_shut_21 : decode cX9_shut 21 = .ok (.iload_n 2, 1) := by decide +kernel
theorem dX9_shut_22 : decode cX9_shut 22 = .ok (.invokevirtual 93, 3) := by decide +kernel
theorem dX9_shut_25 : decode cX9_shut 25 = .ok (.ifCond .ne 9, 3) := by decide +kernel
theorem dX9_shut_28 : decode cX9_shut 28 = .ok (.aload_n 0, 1) := by decide +kernel
theorem dX9_shut_29 : decode cX9_shut 29 = .ok (.iconst (-1), 1) := by decide +kernel
theorem dX9_shut_30 : decode cX9_shut 30 = .ok (.invokevirtual 155, 3) := by decide +kernel
theorem dX9_shut_33 : decode cX9_shut 33 = .ok (.ireturn, 1) := by decide +kernel
theorem dX9_shut_34 : decode cX9_shut 34 = .ok (.aload_n 0, 1) := by decide +kernel
theorem dX9_shut_35 : decode cX9_shut 35 = .ok (.getfield 10, 3) := by decide +kernel
theorem dX9_shut_38 : decode cX9_shut 38 = .ok (.getfield 89, 3) := by decide +kernel
theorem dX9_shut_41 : decode cX9_shut 41 = .ok (.iload_n 1, 1) := by decide +kernel
theorem dX9_shut_42 : decode cX9_shut 42 = .ok (.invokevirtual 162, 3) := by decide +kernel
theorem dX9_shut_45 : decode cX9_shut 45 = .ok (.ifCond .ne 10, 3) := by decide +kernel
theorem dX9_shut_48 : decode cX9_shut 48 = .ok (.aload_n 0, 1) := by decide +kernel
theorem dX9_shut_49 : decode cX9_shut 49 = .ok (.bipush (-3), 2) := by decide +kernel
theorem dX9_shut_51 : decode cX9_shut 51 = .ok (.invokevirtual 155, 3) := by decide +kernel
theorem dX9_shut_54 : decode cX9_shut 54 = .ok (.ireturn, 1) := by decide +kernel
theorem dX9_shut_55 : decode cX9_shut 55 = .ok (.aload_n 0, 1) := by decide +kernel
theorem dX9_shut_56 : decode cX9_shut 56 = .ok (.iconst 0, 1) := by decide +kernel
theorem dX9_shut_57 : decode cX9_shut 57 = .ok (.invokevirtual 172, 3) := by decide +kernel
theorem dX9_shut_60 : decode cX9_shut 60 = .ok (.aload_n 0, 1) := by decide +kernel
theorem dX9_shut_61 : decode cX9_shut 61 = .ok (.getfield 28, 3) := by decide +kernel
theorem dX9_shut_64 : decode cX9_shut 64 = .ok (.iload_n 2, 1) := by decide +kernel
theorem dX9_shut_65 : decode cX9_shut 65 = .ok (.invokevirtual 178, 3) := by decide +kernel
theorem dX9_shut_68 : decode cX9_shut 68 = .ok (.invokestatic 198, 3) := by decide +kernel
theorem dX9_shut_71 : decode cX9_shut 71 = .ok (.istore_n 3, 1) := by decide +kernel
theorem dX9_shut_72 : decode cX9_shut 72 = .ok (.aload_n 0, 1) := by decide +kernel
theorem dX9_shut_73 : decode cX9_shut 73 = .ok (.iconst 1, 1) := by decide +kernel
theorem dX9_shut_74 : decode cX9_shut 74 = .ok (.iload_n 1, 1) := by decide +kernel
theorem dX9_shut_75 : decode cX9_shut 75 = .ok (.ishl, 1) := by decide +kernel
theorem dX9_shut_76 : decode cX9_shut 76 = .ok (.invokevirtual 172, 3) := by decide +kernel
theorem dX9_shut_79 : decode cX9_shut 79 = .ok (.aload_n 0, 1) := by decide +kernel
theorem dX9_shut_80 : decode cX9_shut 80 = .ok (.getfield 28, 3) := by decide +kernel
theorem dX9_shut_83 : decode cX9_shut 83 = .ok (.iload_n 2, 1) := by decide +kernel
theorem dX9_shut_84 : decode cX9_shut 84 = .ok (.invokevirtual 178, 3) := by decide +kernel
theorem dX9_shut_87 : decode cX9_shut 87 = .ok (.invokestatic 198, 3) := by decide +kernel
theorem dX9_shut_90 : decode cX9_shut 90 = .ok (.iload_n 3, 1) := by decide +kernel
theorem dX9_shut_91 : decode cX9_shut 91 = .ok (.isub, 1) := by decide +kernel
theorem dX9_shut_92 : decode cX9_shut 92 = .ok (.ireturn, 1) := by decide +kernel
theorem dX9_chair_0 : decode cX9_chair 0 = .ok (.aload_n 0, 1) := by decide +kernel
theorem dX9_chair_1 : decode cX9_chair 1 = .ok (.iconst 0, 1) := by decide +kernel
theorem dX9_chair_2 : decode cX9_chair 2 = .ok (.invokevirtual 172, 3) := by decide +kernel
theorem dX9_chair_5 : decode cX9_chair 5 = .ok (.iconst 0, 1) := by decide +kernel
theorem dX9_chair_6 : decode cX9_chair 6 = .ok (.istore_n 1, 1) := by decide +kernel
theorem dX9_chair_7 : decode cX9_chair 7 = .ok (.aload_n 0, 1) := by decide +kernel
theorem dX9_chair_8 : decode cX9_chair 8 = .ok (.getfield 28, 3) := by decide +kernel
theorem dX9_chair_11 : decode cX9_chair 11 = .ok (.iconst 0, 1) := by decide +kernel
theorem dX9_chair_12 : decode cX9_chair 12 = .ok (.invokevirtual 203, 3) := by decide +kernel
theorem dX9_chair_15 : decode cX9_chair 15 = .ok (.istore_n 2, 1) := by decide +kernel
theorem dX9_chair_16 : decode cX9_chair 16 = .ok (.iconst 1, 1) := by decide +kernel
theorem dX9_chair_17 : decode cX9_chair 17 = .ok (.istore_n 3, 1) := by decide +kernel
theorem dX9_chair_18 : decode cX9_chair 18 = .ok (.iload_n 3, 1) := by decide +kernel
theorem dX9_chair_19 : decode cX9_chair 19 = .ok (.aload_n 0, 1) := by decide +kernel
theorem dX9_chair_20 : decode cX9_chair 20 = .ok (.getfield 10, 3) := by decide +kernel
theorem dX9_chair_23 : decode cX9_chair 23 = .ok (.getfield 169, 3) := by decide +kernel
theorem dX9_chair_26 : decode cX9_chair 26 = .ok (.if_icmp .ge 30, 3) := by decide +kernel
theorem dX9_chair_29 : decode cX9_chair 29 = .ok (.aload_n 0, 1) := by decide +kernel
theorem dX9_chair_30 : decode cX9_chair 30 = .ok (.getfield 28, 3) := by decide +kernel
theorem dX9_chair_33 : decode cX9_chair 33 = .ok (.iload_n 3, 1) := by decide +kernel
theorem dX9_chair_34 : decode cX9_chair 34 = .ok (.invokevirtual 203, 3) := by decide +kernel
theorem dX9_chair_37 : decode cX9_chair 37 = .ok (.istore 4, 2) := by decide +kernel
theorem dX9_chair_39 : decode cX9_chair 39 = .ok (.iload 4, 2) := by decide +kernel
theorem dX9_chair_41 : decode cX9_chair 41 = .ok (.iload_n 2, 1) := by decide +kernel
theorem dX9_chair_42 : decode cX9_chair 42 = .ok (.if_icmp .ge 8, 3) := by decide +kernel
theorem dX9_chair_45 : decode cX9_chair 45 = .ok (.iload_n 3, 1) := by decide +kernel
theorem dX9_chair_46 : decode cX9_chair 46 = .ok (.istore_n 1, 1) := by decide +kernel
theorem dX9_chair_47 : decode cX9_chair 47 = .ok (.iload 4, 2) := by decide +kernel
theorem dX9_chair_49 : decode cX9_chair 49 = .ok (.istore_n 2, 1) := by decide +kernel
theorem dX9_chair_50 : decode cX9_chair 50 = .ok (.iinc 3 1, 3) := by decide +kernel
theorem dX9_chair_53 : decode cX9_chair 53 = .ok (.goto (-35), 3) := by decide +kernel
theorem dX9_chair_56 : decode cX9_chair 56 = .ok (.iload_n 1, 1) := by decide +kernel
theorem dX9_chair_57 : decode cX9_chair 57 = .ok (.ireturn, 1) := by decide +kernel
theorem dX9_finger_0 : decode cX9_finger 0 = .ok (.bipush (-9), 2) := by decide +kernel
theorem dX9_finger_2 : decode cX9_finger 2 = .ok (.istore_n 1, 1) := by decide +kernel
theorem dX9_finger_3 : decode cX9_finger 3 = .ok (.iconst 0, 1) := by decide +kernel
theorem dX9_finger_4 : decode cX9_finger 4 = .ok (.istore_n 2, 1) := by decide +kernel
theorem dX9_finger_5 : decode cX9_finger 5 = .ok (.iconst 0, 1) := by decide +kernel
theorem dX9_finger_6 : decode cX9_finger 6 = .ok (.istore_n 3, 1) := by decide +kernel
theorem dX9_finger_7 : decode cX9_finger 7 = .ok (.iload_n 3, 1) := by decide +kernel
theorem dX9_finger_8 : decode cX9_finger 8 = .ok (.aload_n 0, 1) := by decide +kernel
theorem dX9_finger_9 : decode cX9_finger 9 = .ok (.getfield 10, 3) := by decide +kernel
theorem dX9_finger_12 : decode cX9_finger 12 = .ok (.getfield 89, 3) := by decide +kernel
theorem dX9_finger_15 : decode cX9_finger 15 = .ok (.getfield 190, 3) := by decide +kernel
theorem dX9_finger_18 : decode cX9_finger 18 = .ok (.if_icmp .ge 103, 3) := by decide +kernel
theorem dX9_finger_21 : decode cX9_finger 21 = .ok (.aload_n 0, 1) := by decide +kernel
theorem dX9_finger_22 : decode cX9_finger 22 = .ok (.getfield 10, 3) := by decide +kernel
theorem dX9_finger_25 : decode cX9_finger 25 = .ok (.getfield 89, 3) := by decide +kernel
theorem dX9_finger_28 : decode cX9_finger 28 = .ok (.getfield 114, 3) := by decide +kernel
theorem dX9_finger_31 : decode cX9_finger 31 = .ok (.iload_n 3, 1) := by decide +kernel
theorem dX9_finger_32 : decode cX9_finger 32 = .ok (.invokestatic 102, 3) := by decide +kernel
theorem dX9_finger_35 : decode cX9_finger 35 = .ok (.iconst 1, 1) := by decide +kernel
theorem dX9_finger_36 : decode cX9_finger 36 = .ok (.iadd, 1) := by decide +kernel
theorem dX9_finger_37 : decode cX9_finger 37 = .ok (.istore 4, 2) := by decide +kernel
theorem dX9_finger_39 : decode cX9_finger 39 = .ok (.aload_n 0, 1) := by decide +kernel
theorem dX9_finger_40 : decode cX9_finger 40 = .ok (.getfield 10, 3) := by decide +kernel
theorem dX9_finger_43 : decode cX9_finger 43 = .ok (.getfield 89, 3) := by decide +kernel
theorem dX9_finger_46 : decode cX9_finger 46 = .ok (.iload_n 3, 1) := by decide +kernel
theorem dX9_finger_47 : decode cX9_finger 47 = .ok (.invokevirtual 162, 3) := by decide +kernel
theorem dX9_finger_50 : decode cX9_finger 50 = .ok (.ifCond .ne 65, 3) := by decide +kernel
theorem dX9_finger_53 : decode cX9_finger 53 = .ok (.iload 4, 2) := by decide +kernel
theorem dX9_finger_55 : decode cX9_finger 55 = .ok (.bipush 9, 2) := by decide +kernel
theorem dX9_finger_57 : decode cX9_finger 57 = .ok (.if_icmp .gt 58, 3) := by decide +kernel
theorem dX9_finger_60 : decode cX9_finger 60 = .ok (.aload_n 0, 1) := by decide +kernel
theorem dX9_finger_61 : decode cX9_finger 61 = .ok (.iload_n 3, 1) := by decide +kernel
theorem dX9_finger_62 : decode cX9_finger 62 = .ok (.iload 4, 2) := by decide +kernel
theorem dX9_finger_64 : decode cX9_finger 64 = .ok (.invokevirtual 206, 3) := by decide +kernel
theorem dX9_finger_67 : decode cX9_finger 67 = .ok (.aload_n 0, 1) := by decide +kernel
theorem dX9_finger_68 : decode cX9_finger 68 = .ok (.getfield 28, 3) := by decide +kernel
theorem dX9_finger_71 : decode cX9_finger 71 = .ok (.invokevirtual 210, 3) := by decide +kernel
theorem dX9_finger_74 : decode cX9_finger 74 = .ok (.aload_n 0, 1) := by decide +kernel
theorem dX9_finger_75 : decode cX9_finger 75 = .ok (.getfield 10, 3) := by decide +kernel
theorem dX9_finger_78 : decode cX9_finger 78 = .ok (.getfield 143, 3) := by decide +kernel
theorem dX9_finger_81 : decode cX9_finger 81 = .ok (.getfield 146, 3) := by decide +kernel
theorem dX9_finger_84 : decode cX9_finger 84 = .ok (.imul, 1) := by decide +kernel
theorem dX9_finger_85 : decode cX9_finger 85 = .ok (.istore 5, 2) := by decide +kernel
theorem dX9_finger_87 : decode cX9_finger 87 = .ok (.aload_n 0, 1) := by decide +kernel
theorem dX9_finger_88 : decode cX9_finger 88 = .ok (.getfield 28, 3) := by decide +kernel
theorem dX9_finger_91 : decode cX9_finger 91 = .ok (.iload_n 3, 1) := by decide +kernel
theorem dX9_finger_92 : decode cX9_finger 92 = .ok (.invokevirtual 178, 3) := by decide +kernel
theorem dX9_finger_95 : decode cX9_finger 95 = .ok (.ifCond .le 20, 3) := by decide +kernel
theorem dX9_finger_98 : decode cX9_finger 98 = .ok (.iload_n 1, 1) := by decide +kernel
theorem dX9_finger_99 : decode cX9_finger 99 = .ok (.bipush (-9), 2) := by decide +kernel
theorem dX9_finger_101 : decode cX9_finger 101 = .ok (.if_icmp .eq 9, 3) := by decide +kernel
theorem dX9_finger_104 : decode cX9_finger 104 = .ok (.iload 5, 2) := by decide +kernel
theorem dX9_finger_106 : decode cX9_finger 106 = .ok (.iload_n 2, 1) := by decide +kernel
theorem dX9_finger_107 : decode cX9_finger 107 = .ok (.if_icmp .ge 8, 3) := by decide +kernel
theorem dX9_finger_110 : decode cX9_finger 110 = .ok (.iload_n 3, 1) := by decide +kernel
theorem dX9_finger_111 : decode cX9_finger 111 = .ok (.istore_n 1, 1) := by decide +kernel
theorem dX9_finger_112 : decode cX9_finger 112 = .ok (.iload 5, 2) := by decide +kernel
theorem dX9_finger_114 : decode cX9_finger 114 = .ok (.istore_n 2, 1) := by decide +kernel
theorem dX9_finger_115 : decode cX9_finger 115 = .ok (.iinc 3 1, 3) := by decide +kernel
theorem dX9_finger_118 : decode cX9_finger 118 = .ok (.goto (-111), 3) := by decide +kernel
theorem dX9_finger_121 : decode cX9_finger 121 = .ok (.iload_n 1, 1) := by decide +kernel
theorem dX9_finger_122 : decode cX9_finger 122 = .ok (.ireturn, 1) := by decide +kernel
theorem dX9_number_0 : decode cX9_number 0 = .ok (.iload_n 1, 1) := by decide +kernel
theorem dX9_number_1 : decode cX9_number 1 = .ok (.bipush (-50), 2) := by decide +kernel
theorem dX9_number_3 : decode cX9_number 3 = .ok (.if_icmp .ge 10, 3) := by decide +kernel
theorem dX9_number_6 : decode cX9_number 6 = .ok (.aload_n 0, 1) := by decide +kernel
theorem dX9_number_7 : decode cX9_number 7 = .ok (.bipush (-4), 2) := by decide +kernel
theorem dX9_number_9 : decode cX9_number 9 = .ok (.invokevirtual 57, 3) := by decide +kernel
theorem dX9_number_12 : decode cX9_number 12 = .ok (.ireturn, 1) := by decide +kernel
theorem dX9_number_13 : decode cX9_number 13 = .ok (.iload_n 1, 1) := by decide +kernel
theorem dX9_number_14 : decode cX9_number 14 = .ok (.bipush 50, 2) := by decide +kernel
theorem dX9_number_16 : decode cX9_number 16 = .ok (.if_icmp .le 10, 3) := by decide +kernel
theorem dX9_number_19 : decode cX9_number 19 = .ok (.aload_n 0, 1) := by decide +kernel
theorem dX9_number_20 : decode cX9_number 20 = .ok (.bipush (-6), 2) := by decide +kernel
theorem dX9_number_22 : decode cX9_number 22 = .ok (.invokevirtual 57, 3) := by decide +kernel
theorem dX9_number_25 : decode cX9_number 25 = .ok (.ireturn, 1) := by decide +kernel
theorem dX9_number_26 : decode cX9_number 26 = .ok (.aload_n 0, 1) := by decide +kernel
theorem dX9_number_27 : decode cX9_number 27 = .ok (.getfield 49, 3) := by decide +kernel
theorem dX9_number_30 : decode cX9_number 30 = .ok (.iconst 0, 1) := by decide +kernel
theorem dX9_number_31 : decode cX9_number 31 = .ok (.iconst 0, 1) := by decide +kernel
theorem dX9_number_32 : decode cX9_number 32 = .ok (.iconst 0, 1) := by decide +kernel
theorem dX9_number_33 : decode cX9_number 33 = .ok (.iload_n 1, 1) := by decide +kernel
theorem dX9_number_34 : decode cX9_number 34 = .ok (.invokevirtual 213, 3) := by decide +kernel
theorem dX9_number_37 : decode cX9_number 37 = .ok (.aload_n 0, 1) := by decide +kernel
theorem dX9_number_38 : decode cX9_number 38 = .ok (.getfield 28, 3) := by decide +kernel
theorem dX9_number_41 : decode cX9_number 41 = .ok (.iconst 0, 1) := by decide +kernel
theorem dX9_number_42 : decode cX9_number 42 = .ok (.invokevirtual 217, 3) := by decide +kernel
theorem dX9_number_45 : decode cX9_number 45 = .ok (.aload_n 0, 1) := by decide +kernel
theorem dX9_number_46 : decode cX9_number 46 = .ok (.getfield 28, 3) := by decide +kernel
theorem dX9_number_49 : decode cX9_number 49 = .ok (.aload_n 0, 1) := by decide +kernel
theorem dX9_number_50 : decode cX9_number 50 = .ok (.getfield 49, 3) := by decide +kernel
theorem dX9_number_53 : decode cX9_number 53 = .ok (.invokevirtual 220, 3) := by decide +kernel
theorem dX9_number_56 : decode cX9_number 56 = .ok (.aload_n 0, 1) := by decide +kernel
theorem dX9_number_57 : decode cX9_number 57 = .ok (.getfield 28, 3) := by decide +kernel
theorem dX9_number_60 : decode cX9_number 60 = .ok (.invokevirtual 210, 3) := by decide +kernel
theorem dX9_number_63 : decode cX9_number 63 = .ok (.ireturn, 1) := by decide +kernel
theorem dX9_winter_0 : decode cX9_winter 0 = .ok (.iconst 0, 1) := by decide +kernel
theorem dX9_winter_1 : decode cX9_winter 1 = .ok (.istore_n 1, 1) := by decide +kernel
theorem dX9_winter_2 : decode cX9_winter 2 = .ok (.iconst 0, 1) := by decide +kernel
theorem dX9_winter_3 : decode cX9_winter 3 = .ok (.istore_n 2, 1) := by decide +kernel
theorem dX9_winter_4 : decode cX9_winter 4 = .ok (.iload_n 2, 1) := by decide +kernel
theorem dX9_winter_5 : decode cX9_winter 5 = .ok (.aload_n 0, 1) := by decide +kernel
theorem dX9_winter_6 : decode cX9_winter 6 = .ok (.getfield 10, 3) := by decide +kernel
theorem dX9_winter_9 : decode cX9_winter 9 = .ok (.getfield 126, 3) := by decide +kernel
theorem dX9_winter_12 : decode cX9_winter 12 = .ok (.getfield 130, 3) := by decide +kernel
theorem dX9_winter_15 : decode cX9_winter 15 = .ok (.if_icmp .ge 32, 3) := by decide +kernel
theorem dX9_winter_18 : decode cX9_winter 18 = .ok (.aload_n 0, 1) := by decide +kernel
theorem dX9_winter_19 : decode cX9_winter 19 = .ok (.iload_n 2, 1) := by decide +kernel
theorem dX9_winter_20 : decode cX9_winter 20 = .ok (.invokevirtual 224, 3) := by decide +kernel
theorem dX9_winter_23 : decode cX9_winter 23 = .ok (.iload_n 1, 1) := by decide +kernel
theorem dX9_winter_24 : decode cX9_winter 24 = .ok (.aload_n 0, 1) := by decide +kernel
theorem dX9_winter_25 : decode cX9_winter 25 = .ok (.getfield 28, 3) := by decide +kernel
theorem dX9_winter_28 : decode cX9_winter 28 = .ok (.invokevirtual 210, 3) := by decide +kernel
theorem dX9_winter_31 : decode cX9_winter 31 = .ok (.aload_n 0, 1) := by decide +kernel
theorem dX9_winter_32 : decode cX9_winter 32 = .ok (.getfield 49, 3) := by decide +kernel
theorem dX9_winter_35 : decode cX9_winter 35 = .ok (.getfield 146, 3) := by decide +kernel
theorem dX9_winter_38 : decode cX9_winter 38 = .ok (.imul, 1) := by decide +kernel
theorem dX9_winter_39 : decode cX9_winter 39 = .ok (.iadd, 1) := by decide +kernel
theorem dX9_winter_40 : decode cX9_winter 40 = .ok (.istore_n 1, 1) := by decide +kernel
theorem dX9_winter_41 : decode cX9_winter 41 = .ok (.iinc 2 1, 3) := by decide +kernel
theorem dX9_winter_44 : decode cX9_winter 44 = .ok (.goto (-40), 3) := by decide +kernel
theorem dX9_winter_47 : decode cX9_winter 47 = .ok (.iload_n 1, 1) := by decide +kernel
theorem dX9_winter_48 : decode cX9_winter 48 = .ok (.ireturn, 1) := by decide +kernel
theorem dX9_turnsAbout_0 : decode cX9_turnsAbout 0 = .ok (.iconst 0, 1) := by decide +kernel
theorem dX9_turnsAbout_1 : decode cX9_turnsAbout 1 = .ok (.istore_n 1, 1) := by decide +kernel
theorem dX9_turnsAbout_2 : decode cX9_turnsAbout 2 = .ok (.iconst 0, 1) := by decide +kernel
theorem dX9_turnsAbout_3 : decode cX9_turnsAbout 3 = .ok (.istore_n 2, 1) := by decide +kernel
theorem dX9_turnsAbout_4 : decode cX9_turnsAbout 4 = .ok (.iconst 0, 1) := by decide +kernel
theorem dX9_turnsAbout_5 : decode cX9_turnsAbout 5 = .ok (.istore_n 3, 1) := by decide +kernel
theorem dX9_turnsAbout_6 : decode cX9_turnsAbout 6 = .ok (.iload_n 3, 1) := by decide +kernel
theorem dX9_turnsAbout_7 : decode cX9_turnsAbout 7 = .ok (.aload_n 0, 1) := by decide +kernel
theorem dX9_turnsAbout_8 : decode cX9_turnsAbout 8 = .ok (.getfield 10, 3) := by decide +kernel
theorem dX9_turnsAbout_11 : decode cX9_turnsAbout 11 = .ok (.getfield 126, 3) := by decide +kernel
theorem dX9_turnsAbout_14 : decode cX9_turnsAbout 14 = .ok (.getfield 130, 3) := by decide +kernel
theorem dX9_turnsAbout_17 : decode cX9_turnsAbout 17 = .ok (.if_icmp .ge 81, 3) := by decide +kernel
theorem dX9_turnsAbout_20 : decode cX9_turnsAbout 20 = .ok (.aload_n 0, 1) := by decide +kernel
theorem dX9_turnsAbout_21 : decode cX9_turnsAbout 21 = .ok (.iload_n 3, 1) := by decide +kernel
theorem dX9_turnsAbout_22 : decode cX9_turnsAbout 22 = .ok (.invokevirtual 224, 3) := by decide +kernel
theorem dX9_turnsAbout_25 : decode cX9_turnsAbout 25 = .ok (.iconst 0, 1) := by decide +kernel
theorem dX9_turnsAbout_26 : decode cX9_turnsAbout 26 = .ok (.istore 4, 2) := by decide +kernel
theorem dX9_turnsAbout_28 : decode cX9_turnsAbout 28 = .ok (.iload 4, 2) := by decide +kernel
theorem dX9_turnsAbout_30 : decode cX9_turnsAbout 30 = .ok (.aload_n 0, 1) := by decide +kernel
theorem dX9_turnsAbout_31 : decode cX9_turnsAbout 31 = .ok (.getfield 10, 3) := by decide +kernel
theorem dX9_turnsAbout_34 : decode cX9_turnsAbout 34 = .ok (.getfield 89, 3) := by decide +kernel
theorem dX9_turnsAbout_37 : decode cX9_turnsAbout 37 = .ok (.getfield 190, 3) := by decide +kernel
theorem dX9_turnsAbout_40 : decode cX9_turnsAbout 40 = .ok (.if_icmp .ge 52, 3) := by decide +kernel
theorem dX9_turnsAbout_43 : decode cX9_turnsAbout 43 = .ok (.aload_n 0, 1) := by decide +kernel
theorem dX9_turnsAbout_44 : decode cX9_turnsAbout 44 = .ok (.getfield 28, 3) := by decide +kernel
theorem dX9_turnsAbout_47 : decode cX9_turnsAbout 47 = .ok (.iload 4, 2) := by decide +kernel
theorem dX9_turnsAbout_49 : decode cX9_turnsAbout 49 = .ok (.invokevirtual 178, 3) := by decide +kernel
theorem dX9_turnsAbout_52 : decode cX9_turnsAbout 52 = .ok (.istore 5, 2) := by decide +kernel
theorem dX9_turnsAbout_54 : decode cX9_turnsAbout 54 = .ok (.iload_n 1, 1) := by decide +kernel
theorem dX9_turnsAbout_55 : decode cX9_turnsAbout 55 = .ok (.iload 5, 2) := by decide +kernel
theorem dX9_turnsAbout_57 : decode cX9_turnsAbout 57 = .ok (.ifCond .le 10, 3) := by decide +kernel
theorem dX9_turnsAbout_60 : decode cX9_turnsAbout 60 = .ok (.iconst 1, 1) := by decide +kernel
theorem dX9_turnsAbout_61 : decode cX9_turnsAbout 61 = .ok (.iload 4, 2) := by decide +kernel
theorem dX9_turnsAbout_63 : decode cX9_turnsAbout 63 = .ok (.ishl, 1) := by decide +kernel
theorem dX9_turnsAbout_64 : decode cX9_turnsAbout 64 = .ok (.goto 4, 3) := by decide +kernel
theorem dX9_turnsAbout_67 : decode cX9_turnsAbout 67 = .ok (.iconst 0, 1) := by decide +kernel
theorem dX9_turnsAbout_68 : decode cX9_turnsAbout 68 = .ok (.ior, 1) := by decide +kernel
theorem dX9_turnsAbout_69 : decode cX9_turnsAbout 69 = .ok (.istore_n 1, 1) := by decide +kernel
theorem dX9_turnsAbout_70 : decode cX9_turnsAbout 70 = .ok (.iload_n 2, 1) := by decide +kernel
theorem dX9_turnsAbout_71 : decode cX9_turnsAbout 71 = .ok (.iload 5, 2) := by decide +kernel
theorem dX9_turnsAbout_73 : decode cX9_turnsAbout 73 = .ok (.ifCond .ge 10, 3) := by decide +kernel
theorem dX9_turnsAbout_76 : decode cX9_turnsAbout 76 = .ok (.iconst 1, 1) := by decide +kernel
theorem dX9_turnsAbout_77 : decode cX9_turnsAbout 77 = .ok (.iload 4, 2) := by decide +kernel
theorem dX9_turnsAbout_79 : decode cX9_turnsAbout 79 = .ok (.ishl, 1) := by decide +kernel
theorem dX9_turnsAbout_80 : decode cX9_turnsAbout 80 = .ok (.goto 4, 3) := by decide +kernel
theorem dX9_turnsAbout_83 : decode cX9_turnsAbout 83 = .ok (.iconst 0, 1) := by decide +kernel
theorem dX9_turnsAbout_84 : decode cX9_turnsAbout 84 = .ok (.ior, 1) := by decide +kernel
theorem dX9_turnsAbout_85 : decode cX9_turnsAbout 85 = .ok (.istore_n 2, 1) := by decide +kernel
theorem dX9_turnsAbout_86 : decode cX9_turnsAbout 86 = .ok (.iinc 4 1, 3) := by decide +kernel
theorem dX9_turnsAbout_89 : decode cX9_turnsAbout 89 = .ok (.goto (-61), 3) := by decide +kernel
theorem dX9_turnsAbout_92 : decode cX9_turnsAbout 92 = .ok (.iinc 3 1, 3) := by decide +kernel
theorem dX9_turnsAbout_95 : decode cX9_turnsAbout 95 = .ok (.goto (-89), 3) := by decide +kernel
theorem dX9_turnsAbout_98 : decode cX9_turnsAbout 98 = .ok (.iload_n 1, 1) := by decide +kernel
theorem dX9_turnsAbout_99 : decode cX9_turnsAbout 99 = .ok (.iload_n 2, 1) := by decide +kernel
theorem dX9_turnsAbout_100 : decode cX9_turnsAbout 100 = .ok (.iand, 1) := by decide +kernel
theorem dX9_turnsAbout_101 : decode cX9_turnsAbout 101 = .ok (.ireturn, 1) := by decide +kernel
theorem dX9_sizes_0 : decode cX9_sizes 0 = .ok (.aload_n 0, 1) := by decide +kernel
theorem dX9_sizes_1 : decode cX9_sizes 1 = .ok (.getfield 10, 3) := by decide +kernel
theorem dX9_sizes_4 : decode cX9_sizes 4 = .ok (.getfield 89, 3) := by decide +kernel
theorem dX9_sizes_7 : decode cX9_sizes 7 = .ok (.iload_n 1, 1) := by decide +kernel
theorem dX9_sizes_8 : decode cX9_sizes 8 = .ok (.invokevirtual 93, 3) := by decide +kernel
theorem dX9_sizes_11 : decode cX9_sizes 11 = .ok (.ifCond .ne 9, 3) := by decide +kernel
theorem dX9_sizes_14 : decode cX9_sizes 14 = .ok (.aload_n 0, 1) := by decide +kernel
theorem dX9_sizes_15 : decode cX9_sizes 15 = .ok (.iconst (-1), 1) := by decide +kernel
theorem dX9_sizes_16 : decode cX9_sizes 16 = .ok (.invokevirtual 57, 3) := by decide +kernel
theorem dX9_sizes_19 : decode cX9_sizes 19 = .ok (.ireturn, 1) := by decide +kernel
theorem dX9_sizes_20 : decode cX9_sizes 20 = .ok (.iload_n 3, 1) := by decide +kernel
theorem dX9_sizes_21 : decode cX9_sizes 21 = .ok (.ifCond .lt 8, 3) := by decide +kernel
theorem dX9_sizes_24 : decode cX9_sizes 24 = .ok (.iload_n 3, 1) := by decide +kernel
theorem dX9_sizes_25 : decode cX9_sizes 25 = .ok (.iconst 2, 1) := by decide +kernel
theorem dX9_sizes_26 : decode cX9_sizes 26 = .ok (.if_icmp .le 10, 3) := by decide +kernel
theorem dX9_sizes_29 : decode cX9_sizes 29 = .ok (.aload_n 0, 1) := by decide +kernel
theorem dX9_sizes_30 : decode cX9_sizes 30 = .ok (.bipush (-2), 2) := by decide +kernel
theorem dX9_sizes_32 : decode cX9_sizes 32 = .ok (.invokevirtual 57, 3) := by decide +kernel
theorem dX9_sizes_35 : decode cX9_sizes 35 = .ok (.ireturn, 1) := by decide +kernel
theorem dX9_sizes_36 : decode cX9_sizes 36 = .ok (.bipush (-9), 2) := by decide +kernel
theorem dX9_sizes_38 : decode cX9_sizes 38 = .ok (.istore 4, 2) := by decide +kernel
theorem dX9_sizes_40 : decode cX9_sizes 40 = .ok (.bipush (-9), 2) := by decide +kernel
theorem dX9_sizes_42 : decode cX9_sizes 42 = .ok (.istore 5, 2) := by decide +kernel
theorem dX9_sizes_44 : decode cX9_sizes 44 = .ok (.iconst 0, 1) := by decide +kernel
theorem dX9_sizes_45 : decode cX9_sizes 45 = .ok (.istore 6, 2) := by decide +kernel
theorem dX9_sizes_47 : decode cX9_sizes 47 = .ok (.iconst 0, 1) := by decide +kernel
theorem dX9_sizes_48 : decode cX9_sizes 48 = .ok (.istore 7, 2) := by decide +kernel
theorem dX9_sizes_50 : decode cX9_sizes 50 = .ok (.iload 7, 2) := by decide +kernel
theorem dX9_sizes_52 : decode cX9_sizes 52 = .ok (.bipush 9, 2) := by decide +kernel
theorem dX9_sizes_54 : decode cX9_sizes 54 = .ok (.if_icmp .gt 49, 3) := by decide +kernel
theorem dX9_sizes_57 : decode cX9_sizes 57 = .ok (.aload_n 0, 1) := by decide +kernel
theorem dX9_sizes_58 : decode cX9_sizes 58 = .ok (.iload_n 1, 1) := by decide +kernel
theorem dX9_sizes_59 : decode cX9_sizes 59 = .ok (.iload 7, 2) := by decide +kernel
theorem dX9_sizes_61 : decode cX9_sizes 61 = .ok (.invokevirtual 206, 3) := by decide +kernel
theorem dX9_sizes_64 : decode cX9_sizes 64 = .ok (.aload_n 0, 1) := by decide +kernel
theorem dX9_sizes_65 : decode cX9_sizes 65 = .ok (.getfield 28, 3) := by decide +kernel
theorem dX9_sizes_68 : decode cX9_sizes 68 = .ok (.iload_n 1, 1) := by decide +kernel
theorem dX9_sizes_69 : decode cX9_sizes 69 = .ok (.invokevirtual 178, 3) := by decide +kernel
theorem dX9_sizes_72 : decode cX9_sizes 72 = .ok (.iload_n 2, 1) := by decide +kernel
theorem dX9_sizes_73 : decode cX9_sizes 73 = .ok (.if_icmp .ne 24, 3) := by decide +kernel
theorem dX9_sizes_76 : decode cX9_sizes 76 = .ok (.iload 6, 2) := by decide +kernel
theorem dX9_sizes_78 : decode cX9_sizes 78 = .ok (.ifCond .ne 8, 3) := by decide +kernel
theorem dX9_sizes_81 : decode cX9_sizes 81 = .ok (.iload 7, 2) := by decide +kernel
theorem dX9_sizes_83 : decode cX9_sizes 83 = .ok (.goto 5, 3) := by decide +kernel
theorem dX9_sizes_86 : decode cX9_sizes 86 = .ok (.iload 4, 2) := by decide +kernel
theorem dX9_sizes_88 : decode cX9_sizes 88 = .ok (.istore 4, 2) := by decide +kernel
theorem dX9_sizes_90 : decode cX9_sizes 90 = .ok (.iload 7, 2) := by decide +kernel
theorem dX9_sizes_92 : decode cX9_sizes 92 = .ok (.istore 5, 2) := by decide +kernel
theorem dX9_sizes_94 : decode cX9_sizes 94 = .ok (.iinc 6 1, 3) := by decide +kernel
theorem dX9_sizes_97 : decode cX9_sizes 97 = .ok (.iinc 7 1, 3) := by decide +kernel
theorem dX9_sizes_100 : decode cX9_sizes 100 = .ok (.goto (-50), 3) := by decide +kernel
theorem dX9_sizes_103 : decode cX9_sizes 103 = .ok (.iload_n 3, 1) := by decide +kernel
theorem dX9_sizes_104 : decode cX9_sizes 104 = .ok (.ifCond .ne 8, 3) := by decide +kernel
theorem dX9_sizes_107 : decode cX9_sizes 107 = .ok (.iload 4, 2) := by decide +kernel
theorem dX9_sizes_109 : decode cX9_sizes 109 = .ok (.goto 15, 3) := by decide +kernel
theorem dX9_sizes_112 : decode cX9_sizes 112 = .ok (.iload_n 3, 1) := by decide +kernel
theorem dX9_sizes_113 : decode cX9_sizes 113 = .ok (.iconst 1, 1) := by decide +kernel
theorem dX9_sizes_114 : decode cX9_sizes 114 = .ok (.if_icmp .ne 8, 3) := by decide +kernel
theorem dX9_sizes_117 : decode cX9_sizes 117 = .ok (.iload 5, 2) := by decide +kernel
theorem dX9_sizes_119 : decode cX9_sizes 119 = .ok (.goto 5, 3) := by decide +kernel
theorem dX9_sizes_122 : decode cX9_sizes 122 = .ok (.iload 6, 2) := by decide +kernel
theorem dX9_sizes_124 : decode cX9_sizes 124 = .ok (.ireturn, 1) := by decide +kernel
theorem dX9_hidden_0 : decode cX9_hidden 0 = .ok (.iload_n 1, 1) := by decide +kernel
theorem dX9_hidden_1 : decode cX9_hidden 1 = .ok (.ifCond .lt 7, 3) := by decide +kernel
theorem dX9_hidden_4 : decode cX9_hidden 4 = .ok (.iload_n 2, 1) := by decide +kernel
theorem dX9_hidden_5 : decode cX9_hidden 5 = .ok (.ifCond .ge 10, 3) := by decide +kernel
theorem dX9_hidden_8 : decode cX9_hidden 8 = .ok (.aload_n 0, 1) := by decide +kernel
theorem dX9_hidden_9 : decode cX9_hidden 9 = .ok (.bipush (-4), 2) := by decide +kernel
theorem dX9_hidden_11 : decode cX9_hidden 11 = .ok (.invokevirtual 57, 3) := by decide +kernel
theorem dX9_hidden_14 : decode cX9_hidden 14 = .ok (.ireturn, 1) := by decide +kernel
theorem dX9_hidden_15 : decode cX9_hidden 15 = .ok (.iload_n 1, 1) := by decide +kernel
theorem dX9_hidden_16 : decode cX9_hidden 16 = .ok (.bipush 9, 2) := by decide +kernel
theorem dX9_hidden_18 : decode cX9_hidden 18 = .ok (.if_icmp .gt 16, 3) := by decide +kernel
theorem dX9_hidden_21 : decode cX9_hidden 21 = .ok (.aload_n 0, 1) := by decide +kernel
theorem dX9_hidden_22 : decode cX9_hidden 22 = .ok (.getfield 10, 3) := by decide +kernel
theorem dX9_hidden_25 : decode cX9_hidden 25 = .ok (.getfield 89, 3) := by decide +kernel
theorem dX9_hidden_28 : decode cX9_hidden 28 = .ok (.invokevirtual 227, 3) := by decide +kernel
theorem dX9_hidden_31 : decode cX9_hidden 31 = .ok (.ifCond .eq 10, 3) := by decide +kernel
theorem dX9_hidden_34 : decode cX9_hidden 34 = .ok (.aload_n 0, 1) := by decide +kernel
theorem dX9_hidden_35 : decode cX9_hidden 35 = .ok (.bipush (-6), 2) := by decide +kernel
theorem dX9_hidden_37 : decode cX9_hidden 37 = .ok (.invokevirtual 57, 3) := by decide +kernel
theorem dX9_hidden_40 : decode cX9_hidden 40 = .ok (.ireturn, 1) := by decide +kernel
theorem dX9_hidden_41 : decode cX9_hidden 41 = .ok (.bipush (-9), 2) := by decide +kernel
theorem dX9_hidden_43 : decode cX9_hidden 43 = .ok (.istore_n 3, 1) := by decide +kernel
theorem dX9_hidden_44 : decode cX9_hidden 44 = .ok (.iconst 0, 1) := by decide +kernel
theorem dX9_hidden_45 : decode cX9_hidden 45 = .ok (.istore 4, 2) := by decide +kernel
theorem dX9_hidden_47 : decode cX9_hidden 47 = .ok (.iload 4, 2) := by decide +kernel
theorem dX9_hidden_49 : decode cX9_hidden 49 = .ok (.aload_n 0, 1) := by decide +kernel
theorem dX9_hidden_50 : decode cX9_hidden 50 = .ok (.getfield 10, 3) := by decide +kernel
theorem dX9_hidden_53 : decode cX9_hidden 53 = .ok (.getfield 169, 3) := by decide +kernel
theorem dX9_hidden_56 : decode cX9_hidden 56 = .ok (.if_icmp .ge 56, 3) := by decide +kernel
theorem dX9_hidden_59 : decode cX9_hidden 59 = .ok (.iload_n 3, 1) := by decide +kernel
theorem dX9_hidden_60 : decode cX9_hidden 60 = .ok (.bipush (-9), 2) := by decide +kernel
theorem dX9_hidden_62 : decode cX9_hidden 62 = .ok (.if_icmp .ne 50, 3) := by decide +kernel
theorem dX9_hidden_65 : decode cX9_hidden 65 = .ok (.aload_n 0, 1) := by decide +kernel
theorem dX9_hidden_66 : decode cX9_hidden 66 = .ok (.getfield 10, 3) := by decide +kernel
theorem dX9_hidden_69 : decode cX9_hidden 69 = .ok (.getfield 89, 3) := by decide +kernel
theorem dX9_hidden_72 : decode cX9_hidden 72 = .ok (.iload 4, 2) := by decide +kernel
theorem dX9_hidden_74 : decode cX9_hidden 74 = .ok (.bipush (-9), 2) := by decide +kernel
theorem dX9_hidden_76 : decode cX9_hidden 76 = .ok (.iconst 0, 1) := by decide +kernel
theorem dX9_hidden_77 : decode cX9_hidden 77 = .ok (.iload_n 1, 1) := by decide +kernel
theorem dX9_hidden_78 : decode cX9_hidden 78 = .ok (.iconst 5, 1) := by decide +kernel
theorem dX9_hidden_79 : decode cX9_hidden 79 = .ok (.iconst 0, 1) := by decide +kernel
theorem dX9_hidden_80 : decode cX9_hidden 80 = .ok (.iconst 0, 1) := by decide +kernel
theorem dX9_hidden_81 : decode cX9_hidden 81 = .ok (.invokevirtual 228, 3) := by decide +kernel
theorem dX9_hidden_84 : decode cX9_hidden 84 = .ok (.aload_n 0, 1) := by decide +kernel
theorem dX9_hidden_85 : decode cX9_hidden 85 = .ok (.iconst 0, 1) := by decide +kernel
theorem dX9_hidden_86 : decode cX9_hidden 86 = .ok (.invokevirtual 184, 3) := by decide +kernel
theorem dX9_hidden_89 : decode cX9_hidden 89 = .ok (.iload_n 2, 1) := by decide +kernel
theorem dX9_hidden_90 : decode cX9_hidden 90 = .ok (.if_icmp .ne 6, 3) := by decide +kernel
theorem dX9_hidden_93 : decode cX9_hidden 93 = .ok (.iload 4, 2) := by decide +kernel
theorem dX9_hidden_95 : decode cX9_hidden 95 = .ok (.istore_n 3, 1) := by decide +kernel
theorem dX9_hidden_96 : decode cX9_hidden 96 = .ok (.aload_n 0, 1) := by decide +kernel
theorem dX9_hidden_97 : decode cX9_hidden 97 = .ok (.getfield 10, 3) := by decide +kernel
theorem dX9_hidden_100 : decode cX9_hidden 100 = .ok (.getfield 89, 3) := by decide +kernel
theorem dX9_hidden_103 : decode cX9_hidden 103 = .ok (.invokevirtual 231, 3) := by decide +kernel
theorem dX9_hidden_106 : decode cX9_hidden 106 = .ok (.iinc 4 1, 3) := by decide +kernel
theorem dX9_hidden_109 : decode cX9_hidden 109 = .ok (.goto (-62), 3) := by decide +kernel
theorem dX9_hidden_112 : decode cX9_hidden 112 = .ok (.iload_n 3, 1) := by decide +kernel
theorem dX9_hidden_113 : decode cX9_hidden 113 = .ok (.ireturn, 1) := by decide +kernel
theorem dX9_days_0 : decode cX9_days 0 = .ok (.iload_n 1, 1) := by decide +kernel
theorem dX9_days_1 : decode cX9_days 1 = .ok (.iconst 1, 1) := by decide +kernel
theorem dX9_days_2 : decode cX9_days 2 = .ok (.if_icmp .ge 10, 3) := by decide +kernel
theorem dX9_days_5 : decode cX9_days 5 = .ok (.aload_n 0, 1) := by decide +kernel
theorem dX9_days_6 : decode cX9_days 6 = .ok (.bipush (-4), 2) := by decide +kernel
theorem dX9_days_8 : decode cX9_days 8 = .ok (.invokevirtual 57, 3) := by decide +kernel
theorem dX9_days_11 : decode cX9_days 11 = .ok (.ireturn, 1) := by decide +kernel
theorem dX9_days_12 : decode cX9_days 12 = .ok (.iload_n 1, 1) := by decide +kernel
theorem dX9_days_13 : decode cX9_days 13 = .ok (.bipush 30, 2) := by decide +kernel
theorem dX9_days_15 : decode cX9_days 15 = .ok (.if_icmp .le 10, 3) := by decide +kernel
theorem dX9_days_18 : decode cX9_days 18 = .ok (.aload_n 0, 1) := by decide +kernel
theorem dX9_days_19 : decode cX9_days 19 = .ok (.bipush (-6), 2) := by decide +kernel
theorem dX9_days_21 : decode cX9_days 21 = .ok (.invokevirtual 57, 3) := by decide +kernel
theorem dX9_days_24 : decode cX9_days 24 = .ok (.ireturn, 1) := by decide +kernel
theorem dX9_days_25 : decode cX9_days 25 = .ok (.iconst 0, 1) := by decide +kernel
theorem dX9_days_26 : decode cX9_days 26 = .ok (.istore_n 3, 1) := by decide +kernel
theorem dX9_days_27 : decode cX9_days 27 = .ok (.aload_n 0, 1) := by decide +kernel
theorem dX9_days_28 : decode cX9_days 28 = .ok (.getfield 42, 3) := by decide +kernel
theorem dX9_days_31 : decode cX9_days 31 = .ok (.iload_n 2, 1) := by decide +kernel
theorem dX9_days_32 : decode cX9_days 32 = .ok (.putfield 234, 3) := by decide +kernel
theorem dX9_days_35 : decode cX9_days 35 = .ok (.aload_n 0, 1) := by decide +kernel
theorem dX9_days_36 : decode cX9_days 36 = .ok (.getfield 28, 3) := by decide +kernel
theorem dX9_days_39 : decode cX9_days 39 = .ok (.iconst 0, 1) := by decide +kernel
theorem dX9_days_40 : decode cX9_days 40 = .ok (.invokevirtual 217, 3) := by decide +kernel
theorem dX9_days_43 : decode cX9_days 43 = .ok (.iconst 0, 1) := by decide +kernel
theorem dX9_days_44 : decode cX9_days 44 = .ok (.istore 4, 2) := by decide +kernel
theorem dX9_days_46 : decode cX9_days 46 = .ok (.iload 4, 2) := by decide +kernel
theorem dX9_days_48 : decode cX9_days 48 = .ok (.iload_n 1, 1) := by decide +kernel
theorem dX9_days_49 : decode cX9_days 49 = .ok (.if_icmp .ge 93, 3) := by decide +kernel
theorem dX9_days_52 : decode cX9_days 52 = .ok (.aload_n 0, 1) := by decide +kernel
theorem dX9_days_53 : decode cX9_days 53 = .ok (.getfield 42, 3) := by decide +kernel
theorem dX9_days_56 : decode cX9_days 56 = .ok (.bipush 41, 2) := by decide +kernel
theorem dX9_days_58 : decode cX9_days 58 = .ok (.invokevirtual 237, 3) := by decide +kernel
theorem dX9_days_61 : decode cX9_days 61 = .ok (.istore 5, 2) := by decide +kernel
theorem dX9_days_63 : decode cX9_days 63 = .ok (.aload_n 0, 1) := by decide +kernel
theorem dX9_days_64 : decode cX9_days 64 = .ok (.getfield 42, 3) := by decide +kernel
theorem dX9_days_67 : decode cX9_days 67 = .ok (.bipush 21, 2) := by decide +kernel
theorem dX9_days_69 : decode cX9_days 69 = .ok (.invokevirtual 237, 3) := by decide +kernel
theorem dX9_days_72 : decode cX9_days 72 = .ok (.istore 6, 2) := by decide +kernel
theorem dX9_days_74 : decode cX9_days 74 = .ok (.aload_n 0, 1) := by decide +kernel
theorem dX9_days_75 : decode cX9_days 75 = .ok (.getfield 42, 3) := by decide +kernel
theorem dX9_days_78 : decode cX9_days 78 = .ok (.iconst 4, 1) := by decide +kernel
theorem dX9_days_79 : decode cX9_days 79 = .ok (.invokevirtual 237, 3) := by decide +kernel
theorem dX9_days_82 : decode cX9_days 82 = .ok (.istore 7, 2) := by decide +kernel
theorem dX9_days_84 : decode cX9_days 84 = .ok (.aload_n 0, 1) := by decide +kernel
theorem dX9_days_85 : decode cX9_days 85 = .ok (.getfield 49, 3) := by decide +kernel
theorem dX9_days_88 : decode cX9_days 88 = .ok (.iload 5, 2) := by decide +kernel
theorem dX9_days_90 : decode cX9_days 90 = .ok (.iload 6, 2) := by decide +kernel
theorem dX9_days_92 : decode cX9_days 92 = .ok (.iload 7, 2) := by decide +kernel
theorem dX9_days_94 : decode cX9_days 94 = .ok (.aload_n 0, 1) := by decide +kernel
theorem dX9_days_95 : decode cX9_days 95 = .ok (.getfield 10, 3) := by decide +kernel
theorem dX9_days_98 : decode cX9_days 98 = .ok (.getfield 143, 3) := by decide +kernel
theorem dX9_days_101 : decode cX9_days 101 = .ok (.getfield 152, 3) := by decide +kernel
theorem dX9_days_104 : decode cX9_days 104 = .ok (.invokevirtual 213, 3) := by decide +kernel
theorem dX9_days_107 : decode cX9_days 107 = .ok (.aload_n 0, 1) := by decide +kernel
theorem dX9_days_108 : decode cX9_days 108 = .ok (.getfield 28, 3) := by decide +kernel
theorem dX9_days_111 : decode cX9_days 111 = .ok (.aload_n 0, 1) := by decide +kernel
theorem dX9_days_112 : decode cX9_days 112 = .ok (.getfield 49, 3) := by decide +kernel
theorem dX9_days_115 : decode cX9_days 115 = .ok (.invokevirtual 220, 3) := by decide +kernel
theorem dX9_days_118 : decode cX9_days 118 = .ok (.iload_n 3, 1) := by decide +kernel
theorem dX9_days_119 : decode cX9_days 119 = .ok (.aload_n 0, 1) := by decide +kernel
theorem dX9_days_120 : decode cX9_days 120 = .ok (.getfield 28, 3) := by decide +kernel
theorem dX9_days_123 : decode cX9_days 123 = .ok (.invokevirtual 187, 3) := by decide +kernel
theorem dX9_days_126 : decode cX9_days 126 = .ok (.ifCond .eq 7, 3) := by decide +kernel
theorem dX9_days_129 : decode cX9_days 129 = .ok (.iconst 1, 1) := by decide +kernel
theorem dX9_days_130 : decode cX9_days 130 = .ok (.goto 4, 3) := by decide +kernel
theorem dX9_days_133 : decode cX9_days 133 = .ok (.iconst 0, 1) := by decide +kernel
theorem dX9_days_134 : decode cX9_days 134 = .ok (.iadd, 1) := by decide +kernel
theorem dX9_days_135 : decode cX9_days 135 = .ok (.istore_n 3, 1) := by decide +kernel
theorem dX9_days_136 : decode cX9_days 136 = .ok (.iinc 4 1, 3) := by decide +kernel
theorem dX9_days_139 : decode cX9_days 139 = .ok (.goto (-93), 3) := by decide +kernel
theorem dX9_days_142 : decode cX9_days 142 = .ok (.iload_n 3, 1) := by decide +kernel
theorem dX9_days_143 : decode cX9_days 143 = .ok (.ireturn, 1) := by decide +kernel
theorem dX9_row_0 : decode cX9_row 0 = .ok (.iload_n 1, 1) := by decide +kernel
theorem dX9_row_1 : decode cX9_row 1 = .ok (.ifCond .ge 10, 3) := by decide +kernel
theorem dX9_row_4 : decode cX9_row 4 = .ok (.aload_n 0, 1) := by decide +kernel
theorem dX9_row_5 : decode cX9_row 5 = .ok (.bipush (-4), 2) := by decide +kernel
theorem dX9_row_7 : decode cX9_row 7 = .ok (.invokevirtual 57, 3) := by decide +kernel
theorem dX9_row_10 : decode cX9_row 10 = .ok (.ireturn, 1) := by decide +kernel
theorem dX9_row_11 : decode cX9_row 11 = .ok (.iload_n 1, 1) := by decide +kernel
theorem dX9_row_12 : decode cX9_row 12 = .ok (.iconst 2, 1) := by decide +kernel
theorem dX9_row_13 : decode cX9_row 13 = .ok (.if_icmp .gt 16, 3) := by decide +kernel
theorem dX9_row_16 : decode cX9_row 16 = .ok (.aload_n 0, 1) := by decide +kernel
theorem dX9_row_17 : decode cX9_row 17 = .ok (.getfield 10, 3) := by decide +kernel
theorem dX9_row_20 : decode cX9_row 20 = .ok (.getfield 240, 3) := by decide +kernel
theorem dX9_row_23 : decode cX9_row 23 = .ok (.invokevirtual 65, 3) := by decide +kernel
theorem dX9_row_26 : decode cX9_row 26 = .ok (.ifCond .eq 10, 3) := by decide +kernel
theorem dX9_row_29 : decode cX9_row 29 = .ok (.aload_n 0, 1) := by decide +kernel
theorem dX9_row_30 : decode cX9_row 30 = .ok (.bipush (-6), 2) := by decide +kernel
theorem dX9_row_32 : decode cX9_row 32 = .ok (.invokevirtual 57, 3) := by decide +kernel
theorem dX9_row_35 : decode cX9_row 35 = .ok (.ireturn, 1) := by decide +kernel
theorem dX9_row_36 : decode cX9_row 36 = .ok (.aload_n 0, 1) := by decide +kernel
theorem dX9_row_37 : decode cX9_row 37 = .ok (.getfield 10, 3) := by decide +kernel
theorem dX9_row_40 : decode cX9_row 40 = .ok (.getfield 240, 3) := by decide +kernel
theorem dX9_row_43 : decode cX9_row 43 = .ok (.iload_n 1, 1) := by decide +kernel
theorem dX9_row_44 : decode cX9_row 44 = .ok (.invokevirtual 71, 3) := by decide +kernel
theorem dX9_row_47 : decode cX9_row 47 = .ok (.aload_n 0, 1) := by decide +kernel
theorem dX9_row_48 : decode cX9_row 48 = .ok (.getfield 10, 3) := by decide +kernel
theorem dX9_row_51 : decode cX9_row 51 = .ok (.getfield 240, 3) := by decide +kernel
theorem dX9_row_54 : decode cX9_row 54 = .ok (.getfield 75, 3) := by decide +kernel
theorem dX9_row_57 : decode cX9_row 57 = .ok (.ireturn, 1) := by decide +kernel
theorem dX9_judge_0 : decode cX9_judge 0 = .ok (.aload_n 0, 1) := by decide +kernel
theorem dX9_judge_1 : decode cX9_judge 1 = .ok (.invokevirtual 243, 3) := by decide +kernel
theorem dX9_judge_4 : decode cX9_judge 4 = .ok (.istore_n 1, 1) := by decide +kernel
theorem dX9_judge_5 : decode cX9_judge 5 = .ok (.aload_n 0, 1) := by decide +kernel
theorem dX9_judge_6 : decode cX9_judge 6 = .ok (.getfield 10, 3) := by decide +kernel
theorem dX9_judge_9 : decode cX9_judge 9 = .ok (.getfield 240, 3) := by decide +kernel
theorem dX9_judge_12 : decode cX9_judge 12 = .ok (.invokevirtual 86, 3) := by decide +kernel
theorem dX9_judge_15 : decode cX9_judge 15 = .ok (.iload_n 1, 1) := by decide +kernel
theorem dX9_judge_16 : decode cX9_judge 16 = .ok (.ireturn, 1) := by decide +kernel
theorem dX9_image_0 : decode cX9_image 0 = .ok (.aload_n 0, 1) := by decide +kernel
theorem dX9_image_1 : decode cX9_image 1 = .ok (.getfield 16, 3) := by decide +kernel
theorem dX9_image_4 : decode cX9_image 4 = .ok (.aload_n 0, 1) := by decide +kernel
theorem dX9_image_5 : decode cX9_image 5 = .ok (.getfield 10, 3) := by decide +kernel
theorem dX9_image_8 : decode cX9_image 8 = .ok (.invokevirtual 246, 3) := by decide +kernel
theorem dX9_image_11 : decode cX9_image 11 = .ok (.aload_n 0, 1) := by decide +kernel
theorem dX9_image_12 : decode cX9_image 12 = .ok (.iconst 1, 1) := by decide +kernel
theorem dX9_image_13 : decode cX9_image 13 = .ok (.putfield 19, 3) := by decide +kernel
theorem dX9_image_16 : decode cX9_image 16 = .ok (.aload_n 0, 1) := by decide +kernel
theorem dX9_image_17 : decode cX9_image 17 = .ok (.getfield 10, 3) := by decide +kernel
theorem dX9_image_20 : decode cX9_image 20 = .ok (.getfield 89, 3) := by decide +kernel
theorem dX9_image_23 : decode cX9_image 23 = .ok (.getfield 190, 3) := by decide +kernel
theorem dX9_image_26 : decode cX9_image 26 = .ok (.ireturn, 1) := by decide +kernel
theorem dX9_on_0 : decode cX9_on 0 = .ok (.aload_n 0, 1) := by decide +kernel
theorem dX9_on_1 : decode cX9_on 1 = .ok (.getfield 19, 3) := by decide +kernel
theorem dX9_on_4 : decode cX9_on 4 = .ok (.ifCond .ne 10, 3) := by decide +kernel
theorem dX9_on_7 : decode cX9_on 7 = .ok (.aload_n 0, 1) := by decide +kernel
theorem dX9_on_8 : decode cX9_on 8 = .ok (.bipush (-3), 2) := by decide +kernel
theorem dX9_on_10 : decode cX9_on 10 = .ok (.invokevirtual 57, 3) := by decide +kernel
theorem dX9_on_13 : decode cX9_on 13 = .ok (.ireturn, 1) := by decide +kernel
theorem dX9_on_14 : decode cX9_on 14 = .ok (.aload_n 0, 1) := by decide +kernel
theorem dX9_on_15 : decode cX9_on 15 = .ok (.getfield 10, 3) := by decide +kernel
theorem dX9_on_18 : decode cX9_on 18 = .ok (.aload_n 0, 1) := by decide +kernel
theorem dX9_on_19 : decode cX9_on 19 = .ok (.getfield 16, 3) := by decide +kernel
theorem dX9_on_22 : decode cX9_on 22 = .ok (.invokevirtual 246, 3) := by decide +kernel
theorem dX9_on_25 : decode cX9_on 25 = .ok (.aload_n 0, 1) := by decide +kernel
theorem dX9_on_26 : decode cX9_on 26 = .ok (.getfield 10, 3) := by decide +kernel
theorem dX9_on_29 : decode cX9_on 29 = .ok (.getfield 89, 3) := by decide +kernel
theorem dX9_on_32 : decode cX9_on 32 = .ok (.getfield 190, 3) := by decide +kernel
theorem dX9_on_35 : decode cX9_on 35 = .ok (.ireturn, 1) := by decide +kernel
theorem dX9_count_0 : decode cX9_count 0 = .ok (.iload_n 1, 1) := by decide +kernel
theorem dX9_count_1 : decode cX9_count 1 = .ok (.tableswitch 117 0 6 #[43, 51, 62, 73, 84, 95, 106], 43) := by decide +kernel
theorem dX9_count_44 : decode cX9_count 44 = .ok (.aload_n 0, 1) := by decide +kernel
theorem dX9_count_45 : decode cX9_count 45 = .ok (.getfield 10, 3) := by decide +kernel
theorem dX9_count_48 : decode cX9_count 48 = .ok (.getfield 169, 3) := by decide +kernel
theorem dX9_count_51 : decode cX9_count 51 = .ok (.ireturn, 1) := by decide +kernel
theorem dX9_count_52 : decode cX9_count 52 = .ok (.aload_n 0, 1) := by decide +kernel
theorem dX9_count_53 : decode cX9_count 53 = .ok (.getfield 10, 3) := by decide +kernel
theorem dX9_count_56 : decode cX9_count 56 = .ok (.getfield 89, 3) := by decide +kernel
theorem dX9_count_59 : decode cX9_count 59 = .ok (.getfield 190, 3) := by decide +kernel
theorem dX9_count_62 : decode cX9_count 62 = .ok (.ireturn, 1) := by decide +kernel
theorem dX9_count_63 : decode cX9_count 63 = .ok (.aload_n 0, 1) := by decide +kernel
theorem dX9_count_64 : decode cX9_count 64 = .ok (.getfield 10, 3) := by decide +kernel
theorem dX9_count_67 : decode cX9_count 67 = .ok (.getfield 89, 3) := by decide +kernel
theorem dX9_count_70 : decode cX9_count 70 = .ok (.invokevirtual 248, 3) := by decide +kernel
theorem dX9_count_73 : decode cX9_count 73 = .ok (.ireturn, 1) := by decide +kernel
theorem dX9_count_74 : decode cX9_count 74 = .ok (.aload_n 0, 1) := by decide +kernel
theorem dX9_count_75 : decode cX9_count 75 = .ok (.getfield 10, 3) := by decide +kernel
theorem dX9_count_78 : decode cX9_count 78 = .ok (.getfield 126, 3) := by decide +kernel
theorem dX9_count_81 : decode cX9_count 81 = .ok (.getfield 130, 3) := by decide +kernel
theorem dX9_count_84 : decode cX9_count 84 = .ok (.ireturn, 1) := by decide +kernel
theorem dX9_count_85 : decode cX9_count 85 = .ok (.aload_n 0, 1) := by decide +kernel
theorem dX9_count_86 : decode cX9_count 86 = .ok (.getfield 10, 3) := by decide +kernel
theorem dX9_count_89 : decode cX9_count 89 = .ok (.getfield 89, 3) := by decide +kernel
theorem dX9_count_92 : decode cX9_count 92 = .ok (.invokevirtual 251, 3) := by decide +kernel
theorem dX9_count_95 : decode cX9_count 95 = .ok (.ireturn, 1) := by decide +kernel
theorem dX9_count_96 : decode cX9_count 96 = .ok (.aload_n 0, 1) := by decide +kernel
theorem dX9_count_97 : decode cX9_count 97 = .ok (.getfield 10, 3) := by decide +kernel
theorem dX9_count_100 : decode cX9_count 100 = .ok (.getfield 240, 3) := by decide +kernel
theorem dX9_count_103 : decode cX9_count 103 = .ok (.getfield 75, 3) := by decide +kernel
theorem dX9_count_106 : decode cX9_count 106 = .ok (.ireturn, 1) := by decide +kernel
theorem dX9_count_107 : decode cX9_count 107 = .ok (.aload_n 0, 1) := by decide +kernel
theorem dX9_count_108 : decode cX9_count 108 = .ok (.getfield 10, 3) := by decide +kernel
theorem dX9_count_111 : decode cX9_count 111 = .ok (.getfield 61, 3) := by decide +kernel
theorem dX9_count_114 : decode cX9_count 114 = .ok (.getfield 75, 3) := by decide +kernel
theorem dX9_count_117 : decode cX9_count 117 = .ok (.ireturn, 1) := by decide +kernel
theorem dX9_count_118 : decode cX9_count 118 = .ok (.iload_n 1, 1) := by decide +kernel
theorem dX9_count_119 : decode cX9_count 119 = .ok (.bipush 11, 2) := by decide +kernel
theorem dX9_count_121 : decode cX9_count 121 = .ok (.if_icmp .lt 23, 3) := by decide +kernel
theorem dX9_count_124 : decode cX9_count 124 = .ok (.iload_n 1, 1) := by decide +kernel
theorem dX9_count_125 : decode cX9_count 125 = .ok (.bipush 16, 2) := by decide +kernel
theorem dX9_count_127 : decode cX9_count 127 = .ok (.if_icmp .gt 17, 3) := by decide +kernel
theorem dX9_count_130 : decode cX9_count 130 = .ok (.aload_n 0, 1) := by decide +kernel
theorem dX9_count_131 : decode cX9_count 131 = .ok (.getfield 53, 3) := by decide +kernel
theorem dX9_count_134 : decode cX9_count 134 = .ok (.iload_n 1, 1) := by decide +kernel
theorem dX9_count_135 : decode cX9_count 135 = .ok (.bipush 10, 2) := by decide +kernel
theorem dX9_count_137 : decode cX9_count 137 = .ok (.isub, 1) := by decide +kernel
theorem dX9_count_138 : decode cX9_count 138 = .ok (.invokestatic 102, 3) := by decide +kernel
theorem dX9_count_141 : decode cX9_count 141 = .ok (.goto 5, 3) := by decide +kernel
theorem dX9_count_144 : decode cX9_count 144 = .ok (.bipush (-9), 2) := by decide +kernel
theorem dX9_count_146 : decode cX9_count 146 = .ok (.ireturn, 1) := by decide +kernel
theorem dX9_refuse_0 : decode cX9_refuse 0 = .ok (.aload_n 0, 1) := by decide +kernel
theorem dX9_refuse_1 : decode cX9_refuse 1 = .ok (.getfield 53, 3) := by decide +kernel
theorem dX9_refuse_4 : decode cX9_refuse 4 = .ok (.iload_n 1, 1) := by decide +kernel
theorem dX9_refuse_5 : decode cX9_refuse 5 = .ok (.ineg, 1) := by decide +kernel
theorem dX9_refuse_6 : decode cX9_refuse 6 = .ok (.aload_n 0, 1) := by decide +kernel
theorem dX9_refuse_7 : decode cX9_refuse 7 = .ok (.getfield 53, 3) := by decide +kernel
theorem dX9_refuse_10 : decode cX9_refuse 10 = .ok (.iload_n 1, 1) := by decide +kernel
theorem dX9_refuse_11 : decode cX9_refuse 11 = .ok (.ineg, 1) := by decide +kernel
theorem dX9_refuse_12 : decode cX9_refuse 12 = .ok (.invokestatic 102, 3) := by decide +kernel
theorem dX9_refuse_15 : decode cX9_refuse 15 = .ok (.iconst 1, 1) := by decide +kernel
theorem dX9_refuse_16 : decode cX9_refuse 16 = .ok (.iadd, 1) := by decide +kernel
theorem dX9_refuse_17 : decode cX9_refuse 17 = .ok (.invokestatic 158, 3) := by decide +kernel
theorem dX9_refuse_20 : decode cX9_refuse 20 = .ok (.iload_n 1, 1) := by decide +kernel
theorem dX9_refuse_21 : decode cX9_refuse 21 = .ok (.ireturn, 1) := by decide +kernel
theorem dX9_refuseFar_0 : decode cX9_refuseFar 0 = .ok (.ldc 254, 2) := by decide +kernel
theorem dX9_refuseFar_2 : decode cX9_refuseFar 2 = .ok (.aload_n 0, 1) := by decide +kernel
theorem dX9_refuseFar_3 : decode cX9_refuseFar 3 = .ok (.iload_n 1, 1) := by decide +kernel
theorem dX9_refuseFar_4 : decode cX9_refuseFar 4 = .ok (.invokevirtual 57, 3) := by decide +kernel
theorem dX9_refuseFar_7 : decode cX9_refuseFar 7 = .ok (.isub, 1) := by decide +kernel
theorem dX9_refuseFar_8 : decode cX9_refuseFar 8 = .ok (.ireturn, 1) := by decide +kernel
theorem dX9_nowOf_0 : decode cX9_nowOf 0 = .ok (.iload_n 1, 1) := by decide +kernel
theorem dX9_nowOf_1 : decode cX9_nowOf 1 = .ok (.tableswitch 60 0 2 #[27, 38, 49], 27) := by decide +kernel
theorem dX9_nowOf_28 : decode cX9_nowOf 28 = .ok (.aload_n 0, 1) := by decide +kernel
theorem dX9_nowOf_29 : decode cX9_nowOf 29 = .ok (.getfield 10, 3) := by decide +kernel
theorem dX9_nowOf_32 : decode cX9_nowOf 32 = .ok (.getfield 143, 3) := by decide +kernel
theorem dX9_nowOf_35 : decode cX9_nowOf 35 = .ok (.getfield 146, 3) := by decide +kernel
theorem dX9_nowOf_38 : decode cX9_nowOf 38 = .ok (.ireturn, 1) := by decide +kernel
theorem dX9_nowOf_39 : decode cX9_nowOf 39 = .ok (.aload_n 0, 1) := by decide +kernel
theorem dX9_nowOf_40 : decode cX9_nowOf 40 = .ok (.getfield 10, 3) := by decide +kernel
theorem dX9_nowOf_43 : decode cX9_nowOf 43 = .ok (.getfield 143, 3) := by decide +kernel
theorem dX9_nowOf_46 : decode cX9_nowOf 46 = .ok (.getfield 148, 3) := by decide +kernel
theorem dX9_nowOf_49 : decode cX9_nowOf 49 = .ok (.ireturn, 1) := by decide +kernel
theorem dX9_nowOf_50 : decode cX9_nowOf 50 = .ok (.aload_n 0, 1) := by decide +kernel
theorem dX9_nowOf_51 : decode cX9_nowOf 51 = .ok (.getfield 10, 3) := by decide +kernel
theorem dX9_nowOf_54 : decode cX9_nowOf 54 = .ok (.getfield 143, 3) := by decide +kernel
theorem dX9_nowOf_57 : decode cX9_nowOf 57 = .ok (.getfield 150, 3) := by decide +kernel
theorem dX9_nowOf_60 : decode cX9_nowOf 60 = .ok (.ireturn, 1) := by decide +kernel
theorem dX9_nowOf_61 : decode cX9_nowOf 61 = .ok (.aload_n 0, 1) := by decide +kernel
theorem dX9_nowOf_62 : decode cX9_nowOf 62 = .ok (.getfield 10, 3) := by decide +kernel
theorem dX9_nowOf_65 : decode cX9_nowOf 65 = .ok (.getfield 143, 3) := by decide +kernel
theorem dX9_nowOf_68 : decode cX9_nowOf 68 = .ok (.getfield 152, 3) := by decide +kernel
theorem dX9_nowOf_71 : decode cX9_nowOf 71 = .ok (.ireturn, 1) := by decide +kernel
theorem dX9_settleNow_0 : decode cX9_settleNow 0 = .ok (.aload_n 0, 1) := by decide +kernel
theorem dX9_settleNow_1 : decode cX9_settleNow 1 = .ok (.getfield 28, 3) := by decide +kernel
theorem dX9_settleNow_4 : decode cX9_settleNow 4 = .ok (.iload_n 1, 1) := by decide +kernel
theorem dX9_settleNow_5 : decode cX9_settleNow 5 = .ok (.invokevirtual 217, 3) := by decide +kernel
theorem dX9_settleNow_8 : decode cX9_settleNow 8 = .ok (.aload_n 0, 1) := by decide +kernel
theorem dX9_settleNow_9 : decode cX9_settleNow 9 = .ok (.getfield 28, 3) := by decide +kernel
theorem dX9_settleNow_12 : decode cX9_settleNow 12 = .ok (.aload_n 0, 1) := by decide +kernel
theorem dX9_settleNow_13 : decode cX9_settleNow 13 = .ok (.getfield 10, 3) := by decide +kernel
theorem dX9_settleNow_16 : decode cX9_settleNow 16 = .ok (.getfield 143, 3) := by decide +kernel
theorem dX9_settleNow_19 : decode cX9_settleNow 19 = .ok (.invokevirtual 220, 3) := by decide +kernel
theorem dX9_settleNow_22 : decode cX9_settleNow 22 = .ok (.return_, 1) := by decide +kernel
theorem dX9_settleSized_0 : decode cX9_settleSized 0 = .ok (.aload_n 0, 1) := by decide +kernel
theorem dX9_settleSized_1 : decode cX9_settleSized 1 = .ok (.getfield 28, 3) := by decide +kernel
theorem dX9_settleSized_4 : decode cX9_settleSized 4 = .ok (.iconst 0, 1) := by decide +kernel
theorem dX9_settleSized_5 : decode cX9_settleSized 5 = .ok (.invokevirtual 217, 3) := by decide +kernel
theorem dX9_settleSized_8 : decode cX9_settleSized 8 = .ok (.aload_n 0, 1) := by decide +kernel
theorem dX9_settleSized_9 : decode cX9_settleSized 9 = .ok (.getfield 28, 3) := by decide +kernel
theorem dX9_settleSized_12 : decode cX9_settleSized 12 = .ok (.iload_n 1, 1) := by decide +kernel
theorem dX9_settleSized_13 : decode cX9_settleSized 13 = .ok (.iload_n 2, 1) := by decide +kernel
theorem dX9_settleSized_14 : decode cX9_settleSized 14 = .ok (.invokevirtual 255, 3) := by decide +kernel
theorem dX9_settleSized_17 : decode cX9_settleSized 17 = .ok (.aload_n 0, 1) := by decide +kernel
theorem dX9_settleSized_18 : decode cX9_settleSized 18 = .ok (.getfield 28, 3) := by decide +kernel
theorem dX9_settleSized_21 : decode cX9_settleSized 21 = .ok (.aload_n 0, 1) := by decide +kernel
theorem dX9_settleSized_22 : decode cX9_settleSized 22 = .ok (.getfield 10, 3) := by decide +kernel
theorem dX9_settleSized_25 : decode cX9_settleSized 25 = .ok (.getfield 143, 3) := by decide +kernel
theorem dX9_settleSized_28 : decode cX9_settleSized 28 = .ok (.invokevirtual 220, 3) := by decide +kernel
theorem dX9_settleSized_31 : decode cX9_settleSized 31 = .ok (.return_, 1) := by decide +kernel
theorem dX9_settleInWeather_0 : decode cX9_settleInWeather 0 = .ok (.aload_n 0, 1) := by decide +kernel
theorem dX9_settleInWeather_1 : decode cX9_settleInWeather 1 = .ok (.getfield 49, 3) := by decide +kernel
theorem dX9_settleInWeather_4 : decode cX9_settleInWeather 4 = .ok (.aload_n 0, 1) := by decide +kernel
theorem dX9_settleInWeather_5 : decode cX9_settleInWeather 5 = .ok (.getfield 10, 3) := by decide +kernel
theorem dX9_settleInWeather_8 : decode cX9_settleInWeather 8 = .ok (.getfield 126, 3) := by decide +kernel
theorem dX9_settleInWeather_11 : decode cX9_settleInWeather 11 = .ok (.getfield 133, 3) := by decide +kernel
theorem dX9_settleInWeather_14 : decode cX9_settleInWeather 14 = .ok (.iload_n 1, 1) := by decide +kernel
theorem dX9_settleInWeather_15 : decode cX9_settleInWeather 15 = .ok (.invokestatic 102, 3) := by decide +kernel
theorem dX9_settleInWeather_18 : decode cX9_settleInWeather 18 = .ok (.aload_n 0, 1) := by decide +kernel
theorem dX9_settleInWeather_19 : decode cX9_settleInWeather 19 = .ok (.getfield 10, 3) := by decide +kernel
theorem dX9_settleInWeather_22 : decode cX9_settleInWeather 22 = .ok (.getfield 126, 3) := by decide +kernel
theorem dX9_settleInWeather_25 : decode cX9_settleInWeather 25 = .ok (.getfield 136, 3) := by decide +kernel
theorem dX9_settleInWeather_28 : decode cX9_settleInWeather 28 = .ok (.iload_n 1, 1) := by decide +kernel
theorem dX9_settleInWeather_29 : decode cX9_settleInWeather 29 = .ok (.invokestatic 102, 3) := by decide +kernel
theorem dX9_settleInWeather_32 : decode cX9_settleInWeather 32 = .ok (.aload_n 0, 1) := by decide +kernel
theorem dX9_settleInWeather_33 : decode cX9_settleInWeather 33 = .ok (.getfield 10, 3) := by decide +kernel
theorem dX9_settleInWeather_36 : decode cX9_settleInWeather 36 = .ok (.getfield 126, 3) := by decide +kernel
theorem dX9_settleInWeather_39 : decode cX9_settleInWeather 39 = .ok (.getfield 139, 3) := by decide +kernel
theorem dX9_settleInWeather_42 : decode cX9_settleInWeather 42 = .ok (.iload_n 1, 1) := by decide +kernel
theorem dX9_settleInWeather_43 : decode cX9_settleInWeather 43 = .ok (.invokestatic 102, 3) := by decide +kernel
theorem dX9_settleInWeather_46 : decode cX9_settleInWeather 46 = .ok (.aload_n 0, 1) := by decide +kernel
theorem dX9_settleInWeather_47 : decode cX9_settleInWeather 47 = .ok (.getfield 10, 3) := by decide +kernel
theorem dX9_settleInWeather_50 : decode cX9_settleInWeather 50 = .ok (.getfield 143, 3) := by decide +kernel
theorem dX9_settleInWeather_53 : decode cX9_settleInWeather 53 = .ok (.getfield 152, 3) := by decide +kernel
theorem dX9_settleInWeather_56 : decode cX9_settleInWeather 56 = .ok (.invokevirtual 213, 3) := by decide +kernel
theorem dX9_settleInWeather_59 : decode cX9_settleInWeather 59 = .ok (.aload_n 0, 1) := by decide +kernel
theorem dX9_settleInWeather_60 : decode cX9_settleInWeather 60 = .ok (.getfield 28, 3) := by decide +kernel
theorem dX9_settleInWeather_63 : decode cX9_settleInWeather 63 = .ok (.iconst 0, 1) := by decide +kernel
theorem dX9_settleInWeather_64 : decode cX9_settleInWeather 64 = .ok (.invokevirtual 217, 3) := by decide +kernel
theorem dX9_settleInWeather_67 : decode cX9_settleInWeather 67 = .ok (.aload_n 0, 1) := by decide +kernel
theorem dX9_settleInWeather_68 : decode cX9_settleInWeather 68 = .ok (.getfield 28, 3) := by decide +kernel
theorem dX9_settleInWeather_71 : decode cX9_settleInWeather 71 = .ok (.aload_n 0, 1) := by decide +kernel
theorem dX9_settleInWeather_72 : decode cX9_settleInWeather 72 = .ok (.getfield 49, 3) := by decide +kernel
theorem dX9_settleInWeather_75 : decode cX9_settleInWeather 75 = .ok (.invokevirtual 220, 3) := by decide +kernel
theorem dX9_settleInWeather_78 : decode cX9_settleInWeather 78 = .ok (.return_, 1) := by decide +kernel
theorem dX9_coalWithout_0 : decode cX9_coalWithout 0 = .ok (.aload_n 0, 1) := by decide +kernel
theorem dX9_coalWithout_1 : decode cX9_coalWithout 1 = .ok (.getfield 28, 3) := by decide +kernel
theorem dX9_coalWithout_4 : decode cX9_coalWithout 4 = .ok (.iload_n 1, 1) := by decide +kernel
theorem dX9_coalWithout_5 : decode cX9_coalWithout 5 = .ok (.invokevirtual 217, 3) := by decide +kernel
theorem dX9_coalWithout_8 : decode cX9_coalWithout 8 = .ok (.aload_n 0, 1) := by decide +kernel
theorem dX9_coalWithout_9 : decode cX9_coalWithout 9 = .ok (.getfield 28, 3) := by decide +kernel
theorem dX9_coalWithout_12 : decode cX9_coalWithout 12 = .ok (.aload_n 0, 1) := by decide +kernel
theorem dX9_coalWithout_13 : decode cX9_coalWithout 13 = .ok (.getfield 10, 3) := by decide +kernel
theorem dX9_coalWithout_16 : decode cX9_coalWithout 16 = .ok (.getfield 143, 3) := by decide +kernel
theorem dX9_coalWithout_19 : decode cX9_coalWithout 19 = .ok (.invokevirtual 220, 3) := by decide +kernel
theorem dX9_coalWithout_22 : decode cX9_coalWithout 22 = .ok (.aload_n 0, 1) := by decide +kernel
theorem dX9_coalWithout_23 : decode cX9_coalWithout 23 = .ok (.getfield 28, 3) := by decide +kernel
theorem dX9_coalWithout_26 : decode cX9_coalWithout 26 = .ok (.invokevirtual 210, 3) := by decide +kernel
theorem dX9_coalWithout_29 : decode cX9_coalWithout 29 = .ok (.aload_n 0, 1) := by decide +kernel
theorem dX9_coalWithout_30 : decode cX9_coalWithout 30 = .ok (.getfield 10, 3) := by decide +kernel
theorem dX9_coalWithout_33 : decode cX9_coalWithout 33 = .ok (.getfield 143, 3) := by decide +kernel
theorem dX9_coalWithout_36 : decode cX9_coalWithout 36 = .ok (.getfield 146, 3) := by decide +kernel
theorem dX9_coalWithout_39 : decode cX9_coalWithout 39 = .ok (.imul, 1) := by decide +kernel
theorem dX9_coalWithout_40 : decode cX9_coalWithout 40 = .ok (.ireturn, 1) := by decide +kernel
theorem dX9_idleAlone_0 : decode cX9_idleAlone 0 = .ok (.iconst 0, 1) := by decide +kernel
theorem dX9_idleAlone_1 : decode cX9_idleAlone 1 = .ok (.istore_n 2, 1) := by decide +kernel
theorem dX9_idleAlone_2 : decode cX9_idleAlone 2 = .ok (.iconst 0, 1) := by decide +kernel
theorem dX9_idleAlone_3 : decode cX9_idleAlone 3 = .ok (.istore_n 3, 1) := by decide +kernel
theorem dX9_idleAlone_4 : decode cX9_idleAlone 4 = .ok (.iload_n 3, 1) := by decide +kernel
theorem dX9_idleAlone_5 : decode cX9_idleAlone 5 = .ok (.aload_n 0, 1) := by decide +kernel
theorem dX9_idleAlone_6 : decode cX9_idleAlone 6 = .ok (.getfield 10, 3) := by decide +kernel
theorem dX9_idleAlone_9 : decode cX9_idleAlone 9 = .ok (.getfield 89, 3) := by decide +kernel
theorem dX9_idleAlone_12 : decode cX9_idleAlone 12 = .ok (.getfield 190, 3) := by decide +kernel
theorem dX9_idleAlone_15 : decode cX9_idleAlone 15 = .ok (.if_icmp .ge 40, 3) := by decide +kernel
theorem dX9_idleAlone_18 : decode cX9_idleAlone 18 = .ok (.aload_n 0, 1) := by decide +kernel
theorem dX9_idleAlone_19 : decode cX9_idleAlone 19 = .ok (.getfield 10, 3) := by decide +kernel
theorem dX9_idleAlone_22 : decode cX9_idleAlone 22 = .ok (.getfield 89, 3) := by decide +kernel
theorem dX9_idleAlone_25 : decode cX9_idleAlone 25 = .ok (.iload_n 3, 1) := by decide +kernel
theorem dX9_idleAlone_26 : decode cX9_idleAlone 26 = .ok (.invokevirtual 162, 3) := by decide +kernel
theorem dX9_idleAlone_29 : decode cX9_idleAlone 29 = .ok (.ifCond .ne 20, 3) := by decide +kernel
theorem dX9_idleAlone_32 : decode cX9_idleAlone 32 = .ok (.aload_n 0, 1) := by decide +kernel
theorem dX9_idleAlone_33 : decode cX9_idleAlone 33 = .ok (.iconst 1, 1) := by decide +kernel
theorem dX9_idleAlone_34 : decode cX9_idleAlone 34 = .ok (.iload_n 3, 1) := by decide +kernel
theorem dX9_idleAlone_35 : decode cX9_idleAlone 35 = .ok (.ishl, 1) := by decide +kernel
theorem dX9_idleAlone_36 : decode cX9_idleAlone 36 = .ok (.invokevirtual 184, 3) := by decide +kernel
theorem dX9_idleAlone_39 : decode cX9_idleAlone 39 = .ok (.iload_n 1, 1) := by decide +kernel
theorem dX9_idleAlone_40 : decode cX9_idleAlone 40 = .ok (.if_icmp .lt 9, 3) := by decide +kernel
theorem dX9_idleAlone_43 : decode cX9_idleAlone 43 = .ok (.iload_n 2, 1) := by decide +kernel
theorem dX9_idleAlone_44 : decode cX9_idleAlone 44 = .ok (.iconst 1, 1) := by decide +kernel
theorem dX9_idleAlone_45 : decode cX9_idleAlone 45 = .ok (.iload_n 3, 1) := by decide +kernel
theorem dX9_idleAlone_46 : decode cX9_idleAlone 46 = .ok (.ishl, 1) := by decide +kernel
theorem dX9_idleAlone_47 : decode cX9_idleAlone 47 = .ok (.ior, 1) := by decide +kernel
theorem dX9_idleAlone_48 : decode cX9_idleAlone 48 = .ok (.istore_n 2, 1) := by decide +kernel
theorem dX9_idleAlone_49 : decode cX9_idleAlone 49 = .ok (.iinc 3 1, 3) := by decide +kernel
theorem dX9_idleAlone_52 : decode cX9_idleAlone 52 = .ok (.goto (-48), 3) := by decide +kernel
theorem dX9_idleAlone_55 : decode cX9_idleAlone 55 = .ok (.iload_n 2, 1) := by decide +kernel
theorem dX9_idleAlone_56 : decode cX9_idleAlone 56 = .ok (.ireturn, 1) := by decide +kernel
theorem dX9_leanOf_0 : decode cX9_leanOf 0 = .ok (.aload_n 0, 1) := by decide +kernel
theorem dX9_leanOf_1 : decode cX9_leanOf 1 = .ok (.getfield 28, 3) := by decide +kernel
theorem dX9_leanOf_4 : decode cX9_leanOf 4 = .ok (.iload_n 1, 1) := by decide +kernel
theorem dX9_leanOf_5 : decode cX9_leanOf 5 = .ok (.invokevirtual 178, 3) := by decide +kernel
theorem dX9_leanOf_8 : decode cX9_leanOf 8 = .ok (.istore_n 2, 1) := by decide +kernel
theorem dX9_leanOf_9 : decode cX9_leanOf 9 = .ok (.iload_n 2, 1) := by decide +kernel
theorem dX9_leanOf_10 : decode cX9_leanOf 10 = .ok (.ifCond .le 7, 3) := by decide +kernel
theorem dX9_leanOf_13 : decode cX9_leanOf 13 = .ok (.iconst 1, 1) := by decide +kernel
theorem dX9_leanOf_14 : decode cX9_leanOf 14 = .ok (.goto 12, 3) := by decide +kernel
theorem dX9_leanOf_17 : decode cX9_leanOf 17 = .ok (.iload_n 2, 1) := by decide +kernel
theorem dX9_leanOf_18 : decode cX9_leanOf 18 = .ok (.ifCond .ge 7, 3) := by decide +kernel
theorem dX9_leanOf_21 : decode cX9_leanOf 21 = .ok (.iconst 2, 1) := by decide +kernel
theorem dX9_leanOf_22 : decode cX9_leanOf 22 = .ok (.goto 4, 3) := by decide +kernel
theorem dX9_leanOf_25 : decode cX9_leanOf 25 = .ok (.iconst 0, 1) := by decide +kernel
theorem dX9_leanOf_26 : decode cX9_leanOf 26 = .ok (.ireturn, 1) := by decide +kernel
theorem dX9_firstNotSo_0 : decode cX9_firstNotSo 0 = .ok (.aload_n 0, 1) := by decide +kernel
theorem dX9_firstNotSo_1 : decode cX9_firstNotSo 1 = .ok (.iconst 0, 1) := by decide +kernel
theorem dX9_firstNotSo_2 : decode cX9_firstNotSo 2 = .ok (.invokevirtual 172, 3) := by decide +kernel
theorem dX9_firstNotSo_5 : decode cX9_firstNotSo 5 = .ok (.aload_n 0, 1) := by decide +kernel
theorem dX9_firstNotSo_6 : decode cX9_firstNotSo 6 = .ok (.getfield 10, 3) := by decide +kernel
theorem dX9_firstNotSo_9 : decode cX9_firstNotSo 9 = .ok (.getfield 240, 3) := by decide +kernel
theorem dX9_firstNotSo_12 : decode cX9_firstNotSo 12 = .ok (.getfield 75, 3) := by decide +kernel
theorem dX9_firstNotSo_15 : decode cX9_firstNotSo 15 = .ok (.istore_n 1, 1) := by decide +kernel
theorem dX9_firstNotSo_16 : decode cX9_firstNotSo 16 = .ok (.aload_n 0, 1) := by decide +kernel
theorem dX9_firstNotSo_17 : decode cX9_firstNotSo 17 = .ok (.getfield 10, 3) := by decide +kernel
theorem dX9_firstNotSo_20 : decode cX9_firstNotSo 20 = .ok (.getfield 89, 3) := by decide +kernel
theorem dX9_firstNotSo_23 : decode cX9_firstNotSo 23 = .ok (.getfield 190, 3) := by decide +kernel
theorem dX9_firstNotSo_26 : decode cX9_firstNotSo 26 = .ok (.istore_n 2, 1) := by decide +kernel
theorem dX9_firstNotSo_27 : decode cX9_firstNotSo 27 = .ok (.iconst 0, 1) := by decide +kernel
theorem dX9_firstNotSo_28 : decode cX9_firstNotSo 28 = .ok (.istore_n 3, 1) := by decide +kernel
theorem dX9_firstNotSo_29 : decode cX9_firstNotSo 29 = .ok (.iload_n 3, 1) := by decide +kernel
theorem dX9_firstNotSo_30 : decode cX9_firstNotSo 30 = .ok (.iload_n 1, 1) := by decide +kernel
theorem dX9_firstNotSo_31 : decode cX9_firstNotSo 31 = .ok (.if_icmp .ge 35, 3) := by decide +kernel
theorem dX9_firstNotSo_34 : decode cX9_firstNotSo 34 = .ok (.iload_n 3, 1) := by decide +kernel
theorem dX9_firstNotSo_35 : decode cX9_firstNotSo 35 = .ok (.iload_n 2, 1) := by decide +kernel
theorem dX9_firstNotSo_36 : decode cX9_firstNotSo 36 = .ok (.if_icmp .ge 30, 3) := by decide +kernel
theorem dX9_firstNotSo_39 : decode cX9_firstNotSo 39 = .ok (.aload_n 0, 1) := by decide +kernel
theorem dX9_firstNotSo_40 : decode cX9_firstNotSo 40 = .ok (.getfield 10, 3) := by decide +kernel
theorem dX9_firstNotSo_43 : decode cX9_firstNotSo 43 = .ok (.getfield 240, 3) := by decide +kernel
theorem dX9_firstNotSo_46 : decode cX9_firstNotSo 46 = .ok (.iload_n 3, 1) := by decide +kernel
theorem dX9_firstNotSo_47 : decode cX9_firstNotSo 47 = .ok (.invokevirtual 258, 3) := by decide +kernel
theorem dX9_firstNotSo_50 : decode cX9_firstNotSo 50 = .ok (.aload_n 0, 1) := by decide +kernel
theorem dX9_firstNotSo_51 : decode cX9_firstNotSo 51 = .ok (.iload_n 3, 1) := by decide +kernel
theorem dX9_firstNotSo_52 : decode cX9_firstNotSo 52 = .ok (.invokevirtual 181, 3) := by decide +kernel
theorem dX9_firstNotSo_55 : decode cX9_firstNotSo 55 = .ok (.if_icmp .eq 5, 3) := by decide +kernel
theorem dX9_firstNotSo_58 : decode cX9_firstNotSo 58 = .ok (.iload_n 3, 1) := by decide +kernel
theorem dX9_firstNotSo_59 : decode cX9_firstNotSo 59 = .ok (.ireturn, 1) := by decide +kernel
theorem dX9_firstNotSo_60 : decode cX9_firstNotSo 60 = .ok (.iinc 3 1, 3) := by decide +kernel
theorem dX9_firstNotSo_63 : decode cX9_firstNotSo 63 = .ok (.goto (-34), 3) := by decide +kernel
theorem dX9_firstNotSo_66 : decode cX9_firstNotSo 66 = .ok (.iload_n 1, 1) := by decide +kernel
theorem dX9_firstNotSo_67 : decode cX9_firstNotSo 67 = .ok (.iload_n 2, 1) := by decide +kernel
theorem dX9_firstNotSo_68 : decode cX9_firstNotSo 68 = .ok (.if_icmp .ne 8, 3) := by decide +kernel
theorem dX9_firstNotSo_71 : decode cX9_firstNotSo 71 = .ok (.bipush (-9), 2) := by decide +kernel
theorem dX9_firstNotSo_73 : decode cX9_firstNotSo 73 = .ok (.goto 8, 3) := by decide +kernel
theorem dX9_firstNotSo_76 : decode cX9_firstNotSo 76 = .ok (.iload_n 1, 1) := by decide +kernel
theorem dX9_firstNotSo_77 : decode cX9_firstNotSo 77 = .ok (.iload_n 2, 1) := by decide +kernel
theorem dX9_firstNotSo_78 : decode cX9_firstNotSo 78 = .ok (.invokestatic 261, 3) := by decide +kernel
theorem dX9_firstNotSo_81 : decode cX9_firstNotSo 81 = .ok (.ireturn, 1) := by decide +kernel
