theorem dX0_init_0 : decode cX0_init 0 = .ok (.aload_n 0, 1) := by decide +kernel
theorem dX0_init_1 : decode cX0_init 1 = .ok (.invokespecial 1, 3) := by decide +kernel
theorem dX0_init_4 : decode cX0_init 4 = .ok (.return_, 1) := by decide +kernel
theorem dX0_become_0 : decode cX0_become 0 = .ok (.aload_n 0, 1) := by decide +kernel
theorem dX0_become_1 : decode cX0_become 1 = .ok (.iload_n 1, 1) := by decide +kernel
theorem dX0_become_2 : decode cX0_become 2 = .ok (.putfield 7, 3) := by decide +kernel
theorem dX0_become_5 : decode cX0_become 5 = .ok (.aload_n 0, 1) := by decide +kernel
theorem dX0_become_6 : decode cX0_become 6 = .ok (.iload_n 2, 1) := by decide +kernel
theorem dX0_become_7 : decode cX0_become 7 = .ok (.putfield 13, 3) := by decide +kernel
theorem dX0_become_10 : decode cX0_become 10 = .ok (.aload_n 0, 1) := by decide +kernel
theorem dX0_become_11 : decode cX0_become 11 = .ok (.iload_n 3, 1) := by decide +kernel
theorem dX0_become_12 : decode cX0_become 12 = .ok (.putfield 16, 3) := by decide +kernel
theorem dX0_become_15 : decode cX0_become 15 = .ok (.aload_n 0, 1) := by decide +kernel
theorem dX0_become_16 : decode cX0_become 16 = .ok (.iload 4, 2) := by decide +kernel
theorem dX0_become_18 : decode cX0_become 18 = .ok (.putfield 19, 3) := by decide +kernel
theorem dX0_become_21 : decode cX0_become 21 = .ok (.return_, 1) := by decide +kernel
theorem dX0_windAt_0 : decode cX0_windAt 0 = .ok (.iload_n 1, 1) := by decide +kernel
theorem dX0_windAt_1 : decode cX0_windAt 1 = .ok (.aload_n 0, 1) := by decide +kernel
theorem dX0_windAt_2 : decode cX0_windAt 2 = .ok (.getfield 16, 3) := by decide +kernel
theorem dX0_windAt_5 : decode cX0_windAt 5 = .ok (.if_icmp .ne 13, 3) := by decide +kernel
theorem dX0_windAt_8 : decode cX0_windAt 8 = .ok (.aload_n 0, 1) := by decide +kernel
theorem dX0_windAt_9 : decode cX0_windAt 9 = .ok (.getfield 13, 3) := by decide +kernel
theorem dX0_windAt_12 : decode cX0_windAt 12 = .ok (.aload_n 0, 1) := by decide +kernel
theorem dX0_windAt_13 : decode cX0_windAt 13 = .ok (.getfield 13, 3) := by decide +kernel
theorem dX0_windAt_16 : decode cX0_windAt 16 = .ok (.imul, 1) := by decide +kernel
theorem dX0_windAt_17 : decode cX0_windAt 17 = .ok (.ireturn, 1) := by decide +kernel
theorem dX0_windAt_18 : decode cX0_windAt 18 = .ok (.iload_n 1, 1) := by decide +kernel
theorem dX0_windAt_19 : decode cX0_windAt 19 = .ok (.aload_n 0, 1) := by decide +kernel
theorem dX0_windAt_20 : decode cX0_windAt 20 = .ok (.getfield 16, 3) := by decide +kernel
theorem dX0_windAt_23 : decode cX0_windAt 23 = .ok (.iconst 2, 1) := by decide +kernel
theorem dX0_windAt_24 : decode cX0_windAt 24 = .ok (.iadd, 1) := by decide +kernel
theorem dX0_windAt_25 : decode cX0_windAt 25 = .ok (.iconst 3, 1) := by decide +kernel
theorem dX0_windAt_26 : decode cX0_windAt 26 = .ok (.iand, 1) := by decide +kernel
theorem dX0_windAt_27 : decode cX0_windAt 27 = .ok (.if_icmp .ne 18, 3) := by decide +kernel
theorem dX0_windAt_30 : decode cX0_windAt 30 = .ok (.aload_n 0, 1) := by decide +kernel
theorem dX0_windAt_31 : decode cX0_windAt 31 = .ok (.getfield 13, 3) := by decide +kernel
theorem dX0_windAt_34 : decode cX0_windAt 34 = .ok (.aload_n 0, 1) := by decide +kernel
theorem dX0_windAt_35 : decode cX0_windAt 35 = .ok (.getfield 13, 3) := by decide +kernel
theorem dX0_windAt_38 : decode cX0_windAt 38 = .ok (.imul, 1) := by decide +kernel
theorem dX0_windAt_39 : decode cX0_windAt 39 = .ok (.iconst 2, 1) := by decide +kernel
theorem dX0_windAt_40 : decode cX0_windAt 40 = .ok (.idiv, 1) := by decide +kernel
theorem dX0_windAt_41 : decode cX0_windAt 41 = .ok (.ineg, 1) := by decide +kernel
theorem dX0_windAt_42 : decode cX0_windAt 42 = .ok (.goto 4, 3) := by decide +kernel
theorem dX0_windAt_45 : decode cX0_windAt 45 = .ok (.iconst 0, 1) := by decide +kernel
theorem dX0_windAt_46 : decode cX0_windAt 46 = .ok (.ireturn, 1) := by decide +kernel
theorem dX1_init_0 : decode cX1_init 0 = .ok (.aload_n 0, 1) := by decide +kernel
theorem dX1_init_1 : decode cX1_init 1 = .ok (.invokespecial 3, 3) := by decide +kernel
theorem dX1_init_4 : decode cX1_init 4 = .ok (.aload_n 0, 1) := by decide +kernel
theorem dX1_init_5 : decode cX1_init 5 = .ok (.aload_n 1, 1) := by decide +kernel
theorem dX1_init_6 : decode cX1_init 6 = .ok (.putfield 9, 3) := by decide +kernel
theorem dX1_init_9 : decode cX1_init 9 = .ok (.aload_n 0, 1) := by decide +kernel
theorem dX1_init_10 : decode cX1_init 10 = .ok (.bipush 10, 2) := by decide +kernel
theorem dX1_init_12 : decode cX1_init 12 = .ok (.newarray .int, 2) := by decide +kernel
theorem dX1_init_14 : decode cX1_init 14 = .ok (.putfield 15, 3) := by decide +kernel
theorem dX1_init_17 : decode cX1_init 17 = .ok (.aload_n 0, 1) := by decide +kernel
theorem dX1_init_18 : decode cX1_init 18 = .ok (.bipush 10, 2) := by decide +kernel
theorem dX1_init_20 : decode cX1_init 20 = .ok (.newarray .int, 2) := by decide +kernel
theorem dX1_init_22 : decode cX1_init 22 = .ok (.putfield 19, 3) := by decide +kernel
theorem dX1_init_25 : decode cX1_init 25 = .ok (.aload_n 0, 1) := by decide +kernel
theorem dX1_init_26 : decode cX1_init 26 = .ok (.bipush 10, 2) := by decide +kernel
theorem dX1_init_28 : decode cX1_init 28 = .ok (.newarray .int, 2) := by decide +kernel
theorem dX1_init_30 : decode cX1_init 30 = .ok (.putfield 22, 3) := by decide +kernel
theorem dX1_init_33 : decode cX1_init 33 = .ok (.aload_n 0, 1) := by decide +kernel
theorem dX1_init_34 : decode cX1_init 34 = .ok (.bipush 10, 2) := by decide +kernel
theorem dX1_init_36 : decode cX1_init 36 = .ok (.newarray .int, 2) := by decide +kernel
theorem dX1_init_38 : decode cX1_init 38 = .ok (.putfield 25, 3) := by decide +kernel
theorem dX1_init_41 : decode cX1_init 41 = .ok (.aload_n 0, 1) := by decide +kernel
theorem dX1_init_42 : decode cX1_init 42 = .ok (.bipush 6, 2) := by decide +kernel
theorem dX1_init_44 : decode cX1_init 44 = .ok (.newarray .int, 2) := by decide +kernel
theorem dX1_init_46 : decode cX1_init 46 = .ok (.putfield 28, 3) := by decide +kernel
theorem dX1_init_49 : decode cX1_init 49 = .ok (.aload_n 0, 1) := by decide +kernel
theorem dX1_init_50 : decode cX1_init 50 = .ok (.bipush 6, 2) := by decide +kernel
theorem dX1_init_52 : decode cX1_init 52 = .ok (.newarray .int, 2) := by decide +kernel
theorem dX1_init_54 : decode cX1_init 54 = .ok (.putfield 31, 3) := by decide +kernel
theorem dX1_init_57 : decode cX1_init 57 = .ok (.aload_n 0, 1) := by decide +kernel
theorem dX1_init_58 : decode cX1_init 58 = .ok (.sipush 1201, 3) := by decide +kernel
theorem dX1_init_61 : decode cX1_init 61 = .ok (.newarray .int, 2) := by decide +kernel
theorem dX1_init_63 : decode cX1_init 63 = .ok (.putfield 34, 3) := by decide +kernel
theorem dX1_init_66 : decode cX1_init 66 = .ok (.iconst 0, 1) := by decide +kernel
theorem dX1_init_67 : decode cX1_init 67 = .ok (.istore_n 2, 1) := by decide +kernel
theorem dX1_init_68 : decode cX1_init 68 = .ok (.iconst 0, 1) := by decide +kernel
theorem dX1_init_69 : decode cX1_init 69 = .ok (.istore_n 3, 1) := by decide +kernel
theorem dX1_init_70 : decode cX1_init 70 = .ok (.iload_n 3, 1) := by decide +kernel
theorem dX1_init_71 : decode cX1_init 71 = .ok (.aload_n 0, 1) := by decide +kernel
theorem dX1_init_72 : decode cX1_init 72 = .ok (.getfield 34, 3) := by decide +kernel
theorem dX1_init_75 : decode cX1_init 75 = .ok (.arraylength, 1) := by decide +kernel
theorem dX1_init_76 : decode cX1_init 76 = .ok (.if_icmp .ge 30, 3) := by decide +kernel
theorem dX1_init_79 : decode cX1_init 79 = .ok (.iload_n 2, 1) := by decide +kernel
theorem dX1_init_80 : decode cX1_init 80 = .ok (.iconst 1, 1) := by decide +kernel
theorem dX1_init_81 : decode cX1_init 81 = .ok (.iadd, 1) := by decide +kernel
theorem dX1_init_82 : decode cX1_init 82 = .ok (.iload_n 2, 1) := by decide +kernel
theorem dX1_init_83 : decode cX1_init 83 = .ok (.iconst 1, 1) := by decide +kernel
theorem dX1_init_84 : decode cX1_init 84 = .ok (.iadd, 1) := by decide +kernel
theorem dX1_init_85 : decode cX1_init 85 = .ok (.imul, 1) := by decide +kernel
theorem dX1_init_86 : decode cX1_init 86 = .ok (.iload_n 3, 1) := by decide +kernel
theorem dX1_init_87 : decode cX1_init 87 = .ok (.if_icmp .gt 6, 3) := by decide +kernel
theorem dX1_init_90 : decode cX1_init 90 = .ok (.iinc 2 1, 3) := by decide +kernel
theorem dX1_init_93 : decode cX1_init 93 = .ok (.aload_n 0, 1) := by decide +kernel
theorem dX1_init_94 : decode cX1_init 94 = .ok (.getfield 34, 3) := by decide +kernel
theorem dX1_init_97 : decode cX1_init 97 = .ok (.iload_n 3, 1) := by decide +kernel
theorem dX1_init_98 : decode cX1_init 98 = .ok (.iload_n 2, 1) := by decide +kernel
theorem dX1_init_99 : decode cX1_init 99 = .ok (.iastore, 1) := by decide +kernel
theorem dX1_init_100 : decode cX1_init 100 = .ok (.iinc 3 1, 3) := by decide +kernel
theorem dX1_init_103 : decode cX1_init 103 = .ok (.goto (-33), 3) := by decide +kernel
theorem dX1_init_106 : decode cX1_init 106 = .ok (.return_, 1) := by decide +kernel
theorem dX1_takeSizes_0 : decode cX1_takeSizes 0 = .ok (.iconst 0, 1) := by decide +kernel
theorem dX1_takeSizes_1 : decode cX1_takeSizes 1 = .ok (.istore_n 2, 1) := by decide +kernel
theorem dX1_takeSizes_2 : decode cX1_takeSizes 2 = .ok (.iload_n 2, 1) := by decide +kernel
theorem dX1_takeSizes_3 : decode cX1_takeSizes 3 = .ok (.aload_n 0, 1) := by decide +kernel
theorem dX1_takeSizes_4 : decode cX1_takeSizes 4 = .ok (.getfield 9, 3) := by decide +kernel
theorem dX1_takeSizes_7 : decode cX1_takeSizes 7 = .ok (.getfield 37, 3) := by decide +kernel
theorem dX1_takeSizes_10 : decode cX1_takeSizes 10 = .ok (.getfield 43, 3) := by decide +kernel
theorem dX1_takeSizes_13 : decode cX1_takeSizes 13 = .ok (.if_icmp .ge 44, 3) := by decide +kernel
theorem dX1_takeSizes_16 : decode cX1_takeSizes 16 = .ok (.aload_n 0, 1) := by decide +kernel
theorem dX1_takeSizes_17 : decode cX1_takeSizes 17 = .ok (.getfield 15, 3) := by decide +kernel
theorem dX1_takeSizes_20 : decode cX1_takeSizes 20 = .ok (.iload_n 2, 1) := by decide +kernel
theorem dX1_takeSizes_21 : decode cX1_takeSizes 21 = .ok (.iload_n 1, 1) := by decide +kernel
theorem dX1_takeSizes_22 : decode cX1_takeSizes 22 = .ok (.iload_n 2, 1) := by decide +kernel
theorem dX1_takeSizes_23 : decode cX1_takeSizes 23 = .ok (.ishr, 1) := by decide +kernel
theorem dX1_takeSizes_24 : decode cX1_takeSizes 24 = .ok (.iconst 1, 1) := by decide +kernel
theorem dX1_takeSizes_25 : decode cX1_takeSizes 25 = .ok (.iand, 1) := by decide +kernel
theorem dX1_takeSizes_26 : decode cX1_takeSizes 26 = .ok (.iconst 1, 1) := by decide +kernel
theorem dX1_takeSizes_27 : decode cX1_takeSizes 27 = .ok (.if_icmp .ne 7, 3) := by decide +kernel
theorem dX1_takeSizes_30 : decode cX1_takeSizes 30 = .ok (.iconst 0, 1) := by decide +kernel
theorem dX1_takeSizes_31 : decode cX1_takeSizes 31 = .ok (.goto 17, 3) := by decide +kernel
theorem dX1_takeSizes_34 : decode cX1_takeSizes 34 = .ok (.aload_n 0, 1) := by decide +kernel
theorem dX1_takeSizes_35 : decode cX1_takeSizes 35 = .ok (.getfield 9, 3) := by decide +kernel
theorem dX1_takeSizes_38 : decode cX1_takeSizes 38 = .ok (.getfield 37, 3) := by decide +kernel
theorem dX1_takeSizes_41 : decode cX1_takeSizes 41 = .ok (.getfield 49, 3) := by decide +kernel
theorem dX1_takeSizes_44 : decode cX1_takeSizes 44 = .ok (.iload_n 2, 1) := by decide +kernel
theorem dX1_takeSizes_45 : decode cX1_takeSizes 45 = .ok (.invokestatic 52, 3) := by decide +kernel
theorem dX1_takeSizes_48 : decode cX1_takeSizes 48 = .ok (.invokestatic 58, 3) := by decide +kernel
theorem dX1_takeSizes_51 : decode cX1_takeSizes 51 = .ok (.iinc 2 1, 3) := by decide +kernel
theorem dX1_takeSizes_54 : decode cX1_takeSizes 54 = .ok (.goto (-52), 3) := by decide +kernel
theorem dX1_takeSizes_57 : decode cX1_takeSizes 57 = .ok (.return_, 1) := by decide +kernel
theorem dX1_changeSize_0 : decode cX1_changeSize 0 = .ok (.aload_n 0, 1) := by decide +kernel
theorem dX1_changeSize_1 : decode cX1_changeSize 1 = .ok (.getfield 15, 3) := by decide +kernel
theorem dX1_changeSize_4 : decode cX1_changeSize 4 = .ok (.iload_n 1, 1) := by decide +kernel
theorem dX1_changeSize_5 : decode cX1_changeSize 5 = .ok (.iload_n 2, 1) := by decide +kernel
theorem dX1_changeSize_6 : decode cX1_changeSize 6 = .ok (.invokestatic 58, 3) := by decide +kernel
theorem dX1_changeSize_9 : decode cX1_changeSize 9 = .ok (.return_, 1) := by decide +kernel
theorem dX1_settle_0 : decode cX1_settle 0 = .ok (.aload_n 0, 1) := by decide +kernel
theorem dX1_settle_1 : decode cX1_settle 1 = .ok (.aload_n 1, 1) := by decide +kernel
theorem dX1_settle_2 : decode cX1_settle 2 = .ok (.invokevirtual 62, 3) := by decide +kernel
theorem dX1_settle_5 : decode cX1_settle 5 = .ok (.iconst 0, 1) := by decide +kernel
theorem dX1_settle_6 : decode cX1_settle 6 = .ok (.istore_n 2, 1) := by decide +kernel
theorem dX1_settle_7 : decode cX1_settle 7 = .ok (.iload_n 2, 1) := by decide +kernel
theorem dX1_settle_8 : decode cX1_settle 8 = .ok (.bipush 100, 2) := by decide +kernel
theorem dX1_settle_10 : decode cX1_settle 10 = .ok (.if_icmp .ge 38, 3) := by decide +kernel
theorem dX1_settle_13 : decode cX1_settle 13 = .ok (.aload_n 0, 1) := by decide +kernel
theorem dX1_settle_14 : decode cX1_settle 14 = .ok (.getfield 28, 3) := by decide +kernel
theorem dX1_settle_17 : decode cX1_settle 17 = .ok (.aload_n 0, 1) := by decide +kernel
theorem dX1_settle_18 : decode cX1_settle 18 = .ok (.getfield 31, 3) := by decide +kernel
theorem dX1_settle_21 : decode cX1_settle 21 = .ok (.invokestatic 66, 3) := by decide +kernel
theorem dX1_settle_24 : decode cX1_settle 24 = .ok (.aload_n 0, 1) := by decide +kernel
theorem dX1_settle_25 : decode cX1_settle 25 = .ok (.invokevirtual 70, 3) := by decide +kernel
theorem dX1_settle_28 : decode cX1_settle 28 = .ok (.aload_n 0, 1) := by decide +kernel
theorem dX1_settle_29 : decode cX1_settle 29 = .ok (.invokevirtual 70, 3) := by decide +kernel
theorem dX1_settle_32 : decode cX1_settle 32 = .ok (.aload_n 0, 1) := by decide +kernel
theorem dX1_settle_33 : decode cX1_settle 33 = .ok (.invokevirtual 73, 3) := by decide +kernel
theorem dX1_settle_36 : decode cX1_settle 36 = .ok (.ifCond .eq 6, 3) := by decide +kernel
theorem dX1_settle_39 : decode cX1_settle 39 = .ok (.goto 9, 3) := by decide +kernel
theorem dX1_settle_42 : decode cX1_settle 42 = .ok (.iinc 2 1, 3) := by decide +kernel
theorem dX1_settle_45 : decode cX1_settle 45 = .ok (.goto (-38), 3) := by decide +kernel
theorem dX1_settle_48 : decode cX1_settle 48 = .ok (.return_, 1) := by decide +kernel
theorem dX1_begin_0 : decode cX1_begin 0 = .ok (.iconst 0, 1) := by decide +kernel
theorem dX1_begin_1 : decode cX1_begin 1 = .ok (.istore_n 2, 1) := by decide +kernel
theorem dX1_begin_2 : decode cX1_begin 2 = .ok (.iload_n 2, 1) := by decide +kernel
theorem dX1_begin_3 : decode cX1_begin 3 = .ok (.aload_n 0, 1) := by decide +kernel
theorem dX1_begin_4 : decode cX1_begin 4 = .ok (.getfield 9, 3) := by decide +kernel
theorem dX1_begin_7 : decode cX1_begin 7 = .ok (.getfield 37, 3) := by decide +kernel
theorem dX1_begin_10 : decode cX1_begin 10 = .ok (.getfield 43, 3) := by decide +kernel
theorem dX1_begin_13 : decode cX1_begin 13 = .ok (.if_icmp .ge 106, 3) := by decide +kernel
theorem dX1_begin_16 : decode cX1_begin 16 = .ok (.aload_n 0, 1) := by decide +kernel
theorem dX1_begin_17 : decode cX1_begin 17 = .ok (.getfield 9, 3) := by decide +kernel
theorem dX1_begin_20 : decode cX1_begin 20 = .ok (.getfield 37, 3) := by decide +kernel
theorem dX1_begin_23 : decode cX1_begin 23 = .ok (.iload_n 2, 1) := by decide +kernel
theorem dX1_begin_24 : decode cX1_begin 24 = .ok (.invokevirtual 77, 3) := by decide +kernel
theorem dX1_begin_27 : decode cX1_begin 27 = .ok (.istore_n 3, 1) := by decide +kernel
theorem dX1_begin_28 : decode cX1_begin 28 = .ok (.aload_n 0, 1) := by decide +kernel
theorem dX1_begin_29 : decode cX1_begin 29 = .ok (.getfield 9, 3) := by decide +kernel
theorem dX1_begin_32 : decode cX1_begin 32 = .ok (.getfield 37, 3) := by decide +kernel
theorem dX1_begin_35 : decode cX1_begin 35 = .ok (.getfield 81, 3) := by decide +kernel
theorem dX1_begin_38 : decode cX1_begin 38 = .ok (.iload_n 2, 1) := by decide +kernel
theorem dX1_begin_39 : decode cX1_begin 39 = .ok (.invokestatic 52, 3) := by decide +kernel
theorem dX1_begin_42 : decode cX1_begin 42 = .ok (.istore 4, 2) := by decide +kernel
theorem dX1_begin_44 : decode cX1_begin 44 = .ok (.aload_n 0, 1) := by decide +kernel
theorem dX1_begin_45 : decode cX1_begin 45 = .ok (.getfield 19, 3) := by decide +kernel
theorem dX1_begin_48 : decode cX1_begin 48 = .ok (.iload_n 2, 1) := by decide +kernel
theorem dX1_begin_49 : decode cX1_begin 49 = .ok (.iload_n 3, 1) := by decide +kernel
theorem dX1_begin_50 : decode cX1_begin 50 = .ok (.ifCond .eq 8, 3) := by decide +kernel
theorem dX1_begin_53 : decode cX1_begin 53 = .ok (.iload 4, 2) := by decide +kernel
theorem dX1_begin_55 : decode cX1_begin 55 = .ok (.goto 4, 3) := by decide +kernel
theorem dX1_begin_58 : decode cX1_begin 58 = .ok (.iconst (-1), 1) := by decide +kernel
theorem dX1_begin_59 : decode cX1_begin 59 = .ok (.invokestatic 58, 3) := by decide +kernel
theorem dX1_begin_62 : decode cX1_begin 62 = .ok (.aload_n 0, 1) := by decide +kernel
theorem dX1_begin_63 : decode cX1_begin 63 = .ok (.getfield 22, 3) := by decide +kernel
theorem dX1_begin_66 : decode cX1_begin 66 = .ok (.iload_n 2, 1) := by decide +kernel
theorem dX1_begin_67 : decode cX1_begin 67 = .ok (.iload_n 3, 1) := by decide +kernel
theorem dX1_begin_68 : decode cX1_begin 68 = .ok (.ifCond .eq 20, 3) := by decide +kernel
theorem dX1_begin_71 : decode cX1_begin 71 = .ok (.aload_n 0, 1) := by decide +kernel
theorem dX1_begin_72 : decode cX1_begin 72 = .ok (.getfield 9, 3) := by decide +kernel
theorem dX1_begin_75 : decode cX1_begin 75 = .ok (.getfield 37, 3) := by decide +kernel
theorem dX1_begin_78 : decode cX1_begin 78 = .ok (.getfield 84, 3) := by decide +kernel
theorem dX1_begin_81 : decode cX1_begin 81 = .ok (.iload_n 2, 1) := by decide +kernel
theorem dX1_begin_82 : decode cX1_begin 82 = .ok (.invokestatic 52, 3) := by decide +kernel
theorem dX1_begin_85 : decode cX1_begin 85 = .ok (.goto 5, 3) := by decide +kernel
theorem dX1_begin_88 : decode cX1_begin 88 = .ok (.iload 4, 2) := by decide +kernel
theorem dX1_begin_90 : decode cX1_begin 90 = .ok (.invokestatic 58, 3) := by decide +kernel
theorem dX1_begin_93 : decode cX1_begin 93 = .ok (.aload_n 0, 1) := by decide +kernel
theorem dX1_begin_94 : decode cX1_begin 94 = .ok (.getfield 25, 3) := by decide +kernel
theorem dX1_begin_97 : decode cX1_begin 97 = .ok (.iload_n 2, 1) := by decide +kernel
theorem dX1_begin_98 : decode cX1_begin 98 = .ok (.aload_n 0, 1) := by decide +kernel
theorem dX1_begin_99 : decode cX1_begin 99 = .ok (.getfield 9, 3) := by decide +kernel
theorem dX1_begin_102 : decode cX1_begin 102 = .ok (.getfield 37, 3) := by decide +kernel
theorem dX1_begin_105 : decode cX1_begin 105 = .ok (.iload_n 2, 1) := by decide +kernel
theorem dX1_begin_106 : decode cX1_begin 106 = .ok (.aload_n 1, 1) := by decide +kernel
theorem dX1_begin_107 : decode cX1_begin 107 = .ok (.invokevirtual 87, 3) := by decide +kernel
theorem dX1_begin_110 : decode cX1_begin 110 = .ok (.invokestatic 58, 3) := by decide +kernel
theorem dX1_begin_113 : decode cX1_begin 113 = .ok (.iinc 2 1, 3) := by decide +kernel
theorem dX1_begin_116 : decode cX1_begin 116 = .ok (.goto (-114), 3) := by decide +kernel
theorem dX1_begin_119 : decode cX1_begin 119 = .ok (.iconst 0, 1) := by decide +kernel
theorem dX1_begin_120 : decode cX1_begin 120 = .ok (.istore_n 2, 1) := by decide +kernel
theorem dX1_begin_121 : decode cX1_begin 121 = .ok (.iload_n 2, 1) := by decide +kernel
theorem dX1_begin_122 : decode cX1_begin 122 = .ok (.aload_n 0, 1) := by decide +kernel
theorem dX1_begin_123 : decode cX1_begin 123 = .ok (.getfield 28, 3) := by decide +kernel
theorem dX1_begin_126 : decode cX1_begin 126 = .ok (.arraylength, 1) := by decide +kernel
theorem dX1_begin_127 : decode cX1_begin 127 = .ok (.if_icmp .ge 16, 3) := by decide +kernel
theorem dX1_begin_130 : decode cX1_begin 130 = .ok (.aload_n 0, 1) := by decide +kernel
theorem dX1_begin_131 : decode cX1_begin 131 = .ok (.getfield 28, 3) := by decide +kernel
theorem dX1_begin_134 : decode cX1_begin 134 = .ok (.iload_n 2, 1) := by decide +kernel
theorem dX1_begin_135 : decode cX1_begin 135 = .ok (.iconst 0, 1) := by decide +kernel
theorem dX1_begin_136 : decode cX1_begin 136 = .ok (.iastore, 1) := by decide +kernel
theorem dX1_begin_137 : decode cX1_begin 137 = .ok (.iinc 2 1, 3) := by decide +kernel
theorem dX1_begin_140 : decode cX1_begin 140 = .ok (.goto (-19), 3) := by decide +kernel
theorem dX1_begin_143 : decode cX1_begin 143 = .ok (.return_, 1) := by decide +kernel
theorem dX1_doRound_0 : decode cX1_doRound 0 = .ok (.iconst 0, 1) := by decide +kernel
theorem dX1_doRound_1 : decode cX1_doRound 1 = .ok (.istore_n 1, 1) := by decide +kernel
theorem dX1_doRound_2 : decode cX1_doRound 2 = .ok (.iload_n 1, 1) := by decide +kernel
theorem dX1_doRound_3 : decode cX1_doRound 3 = .ok (.aload_n 0, 1) := by decide +kernel
theorem dX1_doRound_4 : decode cX1_doRound 4 = .ok (.getfield 9, 3) := by decide +kernel
theorem dX1_doRound_7 : decode cX1_doRound 7 = .ok (.getfield 91, 3) := by decide +kernel
theorem dX1_doRound_10 : decode cX1_doRound 10 = .ok (.if_icmp .ge 98, 3) := by decide +kernel
theorem dX1_doRound_13 : decode cX1_doRound 13 = .ok (.iconst 0, 1) := by decide +kernel
theorem dX1_doRound_14 : decode cX1_doRound 14 = .ok (.istore_n 2, 1) := by decide +kernel
theorem dX1_doRound_15 : decode cX1_doRound 15 = .ok (.iconst 0, 1) := by decide +kernel
theorem dX1_doRound_16 : decode cX1_doRound 16 = .ok (.istore_n 3, 1) := by decide +kernel
theorem dX1_doRound_17 : decode cX1_doRound 17 = .ok (.iload_n 3, 1) := by decide +kernel
theorem dX1_doRound_18 : decode cX1_doRound 18 = .ok (.aload_n 0, 1) := by decide +kernel
theorem dX1_doRound_19 : decode cX1_doRound 19 = .ok (.getfield 9, 3) := by decide +kernel
theorem dX1_doRound_22 : decode cX1_doRound 22 = .ok (.getfield 37, 3) := by decide +kernel
theorem dX1_doRound_25 : decode cX1_doRound 25 = .ok (.getfield 43, 3) := by decide +kernel
theorem dX1_doRound_28 : decode cX1_doRound 28 = .ok (.if_icmp .ge 52, 3) := by decide +kernel
theorem dX1_doRound_31 : decode cX1_doRound 31 = .ok (.aload_n 0, 1) := by decide +kernel
theorem dX1_doRound_32 : decode cX1_doRound 32 = .ok (.getfield 22, 3) := by decide +kernel
theorem dX1_doRound_35 : decode cX1_doRound 35 = .ok (.iload_n 3, 1) := by decide +kernel
theorem dX1_doRound_36 : decode cX1_doRound 36 = .ok (.invokestatic 52, 3) := by decide +kernel
theorem dX1_doRound_39 : decode cX1_doRound 39 = .ok (.iload_n 1, 1) := by decide +kernel
theorem dX1_doRound_40 : decode cX1_doRound 40 = .ok (.if_icmp .ne 14, 3) := by decide +kernel
theorem dX1_doRound_43 : decode cX1_doRound 43 = .ok (.iload_n 2, 1) := by decide +kernel
theorem dX1_doRound_44 : decode cX1_doRound 44 = .ok (.aload_n 0, 1) := by decide +kernel
theorem dX1_doRound_45 : decode cX1_doRound 45 = .ok (.iload_n 3, 1) := by decide +kernel
theorem dX1_doRound_46 : decode cX1_doRound 46 = .ok (.invokevirtual 94, 3) := by decide +kernel
theorem dX1_doRound_49 : decode cX1_doRound 49 = .ok (.iadd, 1) := by decide +kernel
theorem dX1_doRound_50 : decode cX1_doRound 50 = .ok (.istore_n 2, 1) := by decide +kernel
theorem dX1_doRound_51 : decode cX1_doRound 51 = .ok (.goto 23, 3) := by decide +kernel
theorem dX1_doRound_54 : decode cX1_doRound 54 = .ok (.aload_n 0, 1) := by decide +kernel
theorem dX1_doRound_55 : decode cX1_doRound 55 = .ok (.getfield 19, 3) := by decide +kernel
theorem dX1_doRound_58 : decode cX1_doRound 58 = .ok (.iload_n 3, 1) := by decide +kernel
theorem dX1_doRound_59 : decode cX1_doRound 59 = .ok (.invokestatic 52, 3) := by decide +kernel
theorem dX1_doRound_62 : decode cX1_doRound 62 = .ok (.iload_n 1, 1) := by decide +kernel
theorem dX1_doRound_63 : decode cX1_doRound 63 = .ok (.if_icmp .ne 11, 3) := by decide +kernel
theorem dX1_doRound_66 : decode cX1_doRound 66 = .ok (.iload_n 2, 1) := by decide +kernel
theorem dX1_doRound_67 : decode cX1_doRound 67 = .ok (.aload_n 0, 1) := by decide +kernel
theorem dX1_doRound_68 : decode cX1_doRound 68 = .ok (.iload_n 3, 1) := by decide +kernel
theorem dX1_doRound_69 : decode cX1_doRound 69 = .ok (.invokevirtual 94, 3) := by decide +kernel
theorem dX1_doRound_72 : decode cX1_doRound 72 = .ok (.isub, 1) := by decide +kernel
theorem dX1_doRound_73 : decode cX1_doRound 73 = .ok (.istore_n 2, 1) := by decide +kernel
theorem dX1_doRound_74 : decode cX1_doRound 74 = .ok (.iinc 3 1, 3) := by decide +kernel
theorem dX1_doRound_77 : decode cX1_doRound 77 = .ok (.goto (-60), 3) := by decide +kernel
theorem dX1_doRound_80 : decode cX1_doRound 80 = .ok (.aload_n 0, 1) := by decide +kernel
theorem dX1_doRound_81 : decode cX1_doRound 81 = .ok (.getfield 28, 3) := by decide +kernel
theorem dX1_doRound_84 : decode cX1_doRound 84 = .ok (.iload_n 1, 1) := by decide +kernel
theorem dX1_doRound_85 : decode cX1_doRound 85 = .ok (.aload_n 0, 1) := by decide +kernel
theorem dX1_doRound_86 : decode cX1_doRound 86 = .ok (.getfield 28, 3) := by decide +kernel
theorem dX1_doRound_89 : decode cX1_doRound 89 = .ok (.iload_n 1, 1) := by decide +kernel
theorem dX1_doRound_90 : decode cX1_doRound 90 = .ok (.invokestatic 52, 3) := by decide +kernel
theorem dX1_doRound_93 : decode cX1_doRound 93 = .ok (.iload_n 2, 1) := by decide +kernel
theorem dX1_doRound_94 : decode cX1_doRound 94 = .ok (.iconst 0, 1) := by decide +kernel
theorem dX1_doRound_95 : decode cX1_doRound 95 = .ok (.invokestatic 98, 3) := by decide +kernel
theorem dX1_doRound_98 : decode cX1_doRound 98 = .ok (.iadd, 1) := by decide +kernel
theorem dX1_doRound_99 : decode cX1_doRound 99 = .ok (.invokestatic 58, 3) := by decide +kernel
theorem dX1_doRound_102 : decode cX1_doRound 102 = .ok (.iinc 1 1, 3) := by decide +kernel
theorem dX1_doRound_105 : decode cX1_doRound 105 = .ok (.goto (-103), 3) := by decide +kernel
theorem dX1_doRound_108 : decode cX1_doRound 108 = .ok (.return_, 1) := by decide +kernel
theorem dX1_isAsEarlier_0 : decode cX1_isAsEarlier 0 = .ok (.iconst 0, 1) := by decide +kernel
theorem dX1_isAsEarlier_1 : decode cX1_isAsEarlier 1 = .ok (.istore_n 1, 1) := by decide +kernel
theorem dX1_isAsEarlier_2 : decode cX1_isAsEarlier 2 = .ok (.iload_n 1, 1) := by decide +kernel
theorem dX1_isAsEarlier_3 : decode cX1_isAsEarlier 3 = .ok (.aload_n 0, 1) := by decide +kernel
theorem dX1_isAsEarlier_4 : decode cX1_isAsEarlier 4 = .ok (.getfield 9, 3) := by decide +kernel
theorem dX1_isAsEarlier_7 : decode cX1_isAsEarlier 7 = .ok (.getfield 91, 3) := by decide +kernel
theorem dX1_isAsEarlier_10 : decode cX1_isAsEarlier 10 = .ok (.if_icmp .ge 30, 3) := by decide +kernel
theorem dX1_isAsEarlier_13 : decode cX1_isAsEarlier 13 = .ok (.aload_n 0, 1) := by decide +kernel
theorem dX1_isAsEarlier_14 : decode cX1_isAsEarlier 14 = .ok (.getfield 28, 3) := by decide +kernel
theorem dX1_isAsEarlier_17 : decode cX1_isAsEarlier 17 = .ok (.iload_n 1, 1) := by decide +kernel
theorem dX1_isAsEarlier_18 : decode cX1_isAsEarlier 18 = .ok (.invokestatic 52, 3) := by decide +kernel
theorem dX1_isAsEarlier_21 : decode cX1_isAsEarlier 21 = .ok (.aload_n 0, 1) := by decide +kernel
theorem dX1_isAsEarlier_22 : decode cX1_isAsEarlier 22 = .ok (.getfield 31, 3) := by decide +kernel
theorem dX1_isAsEarlier_25 : decode cX1_isAsEarlier 25 = .ok (.iload_n 1, 1) := by decide +kernel
theorem dX1_isAsEarlier_26 : decode cX1_isAsEarlier 26 = .ok (.invokestatic 52, 3) := by decide +kernel
theorem dX1_isAsEarlier_29 : decode cX1_isAsEarlier 29 = .ok (.if_icmp .eq 5, 3) := by decide +kernel
theorem dX1_isAsEarlier_32 : decode cX1_isAsEarlier 32 = .ok (.iconst 0, 1) := by decide +kernel
theorem dX1_isAsEarlier_33 : decode cX1_isAsEarlier 33 = .ok (.ireturn, 1) := by decide +kernel
theorem dX1_isAsEarlier_34 : decode cX1_isAsEarlier 34 = .ok (.iinc 1 1, 3) := by decide +kernel
theorem dX1_isAsEarlier_37 : decode cX1_isAsEarlier 37 = .ok (.goto (-35), 3) := by decide +kernel
theorem dX1_isAsEarlier_40 : decode cX1_isAsEarlier 40 = .ok (.iconst 1, 1) := by decide +kernel
theorem dX1_isAsEarlier_41 : decode cX1_isAsEarlier 41 = .ok (.ireturn, 1) := by decide +kernel
theorem dX1_flowThrough_0 : decode cX1_flowThrough 0 = .ok (.aload_n 0, 1) := by decide +kernel
theorem dX1_flowThrough_1 : decode cX1_flowThrough 1 = .ok (.getfield 19, 3) := by decide +kernel
theorem dX1_flowThrough_4 : decode cX1_flowThrough 4 = .ok (.iload_n 1, 1) := by decide +kernel
theorem dX1_flowThrough_5 : decode cX1_flowThrough 5 = .ok (.invokestatic 52, 3) := by decide +kernel
theorem dX1_flowThrough_8 : decode cX1_flowThrough 8 = .ok (.istore_n 2, 1) := by decide +kernel
theorem dX1_flowThrough_9 : decode cX1_flowThrough 9 = .ok (.iload_n 2, 1) := by decide +kernel
theorem dX1_flowThrough_10 : decode cX1_flowThrough 10 = .ok (.iconst (-1), 1) := by decide +kernel
theorem dX1_flowThrough_11 : decode cX1_flowThrough 11 = .ok (.if_icmp .ne 14, 3) := by decide +kernel
theorem dX1_flowThrough_14 : decode cX1_flowThrough 14 = .ok (.aload_n 0, 1) := by decide +kernel
theorem dX1_flowThrough_15 : decode cX1_flowThrough 15 = .ok (.getfield 25, 3) := by decide +kernel
theorem dX1_flowThrough_18 : decode cX1_flowThrough 18 = .ok (.iload_n 1, 1) := by decide +kernel
theorem dX1_flowThrough_19 : decode cX1_flowThrough 19 = .ok (.invokestatic 52, 3) := by decide +kernel
theorem dX1_flowThrough_22 : decode cX1_flowThrough 22 = .ok (.goto 11, 3) := by decide +kernel
theorem dX1_flowThrough_25 : decode cX1_flowThrough 25 = .ok (.aload_n 0, 1) := by decide +kernel
theorem dX1_flowThrough_26 : decode cX1_flowThrough 26 = .ok (.getfield 28, 3) := by decide +kernel
theorem dX1_flowThrough_29 : decode cX1_flowThrough 29 = .ok (.iload_n 2, 1) := by decide +kernel
theorem dX1_flowThrough_30 : decode cX1_flowThrough 30 = .ok (.invokestatic 52, 3) := by decide +kernel
theorem dX1_flowThrough_33 : decode cX1_flowThrough 33 = .ok (.istore_n 3, 1) := by decide +kernel
theorem dX1_flowThrough_34 : decode cX1_flowThrough 34 = .ok (.iload_n 3, 1) := by decide +kernel
theorem dX1_flowThrough_35 : decode cX1_flowThrough 35 = .ok (.aload_n 0, 1) := by decide +kernel
theorem dX1_flowThrough_36 : decode cX1_flowThrough 36 = .ok (.getfield 28, 3) := by decide +kernel
theorem dX1_flowThrough_39 : decode cX1_flowThrough 39 = .ok (.aload_n 0, 1) := by decide +kernel
theorem dX1_flowThrough_40 : decode cX1_flowThrough 40 = .ok (.getfield 22, 3) := by decide +kernel
theorem dX1_flowThrough_43 : decode cX1_flowThrough 43 = .ok (.iload_n 1, 1) := by decide +kernel
theorem dX1_flowThrough_44 : decode cX1_flowThrough 44 = .ok (.invokestatic 52, 3) := by decide +kernel
theorem dX1_flowThrough_47 : decode cX1_flowThrough 47 = .ok (.invokestatic 52, 3) := by decide +kernel
theorem dX1_flowThrough_50 : decode cX1_flowThrough 50 = .ok (.isub, 1) := by decide +kernel
theorem dX1_flowThrough_51 : decode cX1_flowThrough 51 = .ok (.istore 4, 2) := by decide +kernel
theorem dX1_flowThrough_53 : decode cX1_flowThrough 53 = .ok (.aload_n 0, 1) := by decide +kernel
theorem dX1_flowThrough_54 : decode cX1_flowThrough 54 = .ok (.getfield 15, 3) := by decide +kernel
theorem dX1_flowThrough_57 : decode cX1_flowThrough 57 = .ok (.iload_n 1, 1) := by decide +kernel
theorem dX1_flowThrough_58 : decode cX1_flowThrough 58 = .ok (.invokestatic 52, 3) := by decide +kernel
theorem dX1_flowThrough_61 : decode cX1_flowThrough 61 = .ok (.aload_n 0, 1) := by decide +kernel
theorem dX1_flowThrough_62 : decode cX1_flowThrough 62 = .ok (.getfield 34, 3) := by decide +kernel
theorem dX1_flowThrough_65 : decode cX1_flowThrough 65 = .ok (.iload 4, 2) := by decide +kernel
theorem dX1_flowThrough_67 : decode cX1_flowThrough 67 = .ok (.invokestatic 104, 3) := by decide +kernel
theorem dX1_flowThrough_70 : decode cX1_flowThrough 70 = .ok (.sipush 1200, 3) := by decide +kernel
theorem dX1_flowThrough_73 : decode cX1_flowThrough 73 = .ok (.invokestatic 109, 3) := by decide +kernel
theorem dX1_flowThrough_76 : decode cX1_flowThrough 76 = .ok (.invokestatic 52, 3) := by decide +kernel
theorem dX1_flowThrough_79 : decode cX1_flowThrough 79 = .ok (.imul, 1) := by decide +kernel
theorem dX1_flowThrough_80 : decode cX1_flowThrough 80 = .ok (.istore 5, 2) := by decide +kernel
theorem dX1_flowThrough_82 : decode cX1_flowThrough 82 = .ok (.iload 4, 2) := by decide +kernel
theorem dX1_flowThrough_84 : decode cX1_flowThrough 84 = .ok (.ifCond .ge 9, 3) := by decide +kernel
theorem dX1_flowThrough_87 : decode cX1_flowThrough 87 = .ok (.iload 5, 2) := by decide +kernel
theorem dX1_flowThrough_89 : decode cX1_flowThrough 89 = .ok (.ineg, 1) := by decide +kernel
theorem dX1_flowThrough_90 : decode cX1_flowThrough 90 = .ok (.goto 5, 3) := by decide +kernel
theorem dX1_flowThrough_93 : decode cX1_flowThrough 93 = .ok (.iload 5, 2) := by decide +kernel
theorem dX1_flowThrough_95 : decode cX1_flowThrough 95 = .ok (.ireturn, 1) := by decide +kernel
theorem dX1_inflow_0 : decode cX1_inflow 0 = .ok (.iconst 0, 1) := by decide +kernel
theorem dX1_inflow_1 : decode cX1_inflow 1 = .ok (.istore_n 1, 1) := by decide +kernel
theorem dX1_inflow_2 : decode cX1_inflow 2 = .ok (.iconst 0, 1) := by decide +kernel
theorem dX1_inflow_3 : decode cX1_inflow 3 = .ok (.istore_n 2, 1) := by decide +kernel
theorem dX1_inflow_4 : decode cX1_inflow 4 = .ok (.iload_n 2, 1) := by decide +kernel
theorem dX1_inflow_5 : decode cX1_inflow 5 = .ok (.aload_n 0, 1) := by decide +kernel
theorem dX1_inflow_6 : decode cX1_inflow 6 = .ok (.getfield 9, 3) := by decide +kernel
theorem dX1_inflow_9 : decode cX1_inflow 9 = .ok (.getfield 37, 3) := by decide +kernel
theorem dX1_inflow_12 : decode cX1_inflow 12 = .ok (.getfield 43, 3) := by decide +kernel
theorem dX1_inflow_15 : decode cX1_inflow 15 = .ok (.if_icmp .ge 35, 3) := by decide +kernel
theorem dX1_inflow_18 : decode cX1_inflow 18 = .ok (.aload_n 0, 1) := by decide +kernel
theorem dX1_inflow_19 : decode cX1_inflow 19 = .ok (.getfield 9, 3) := by decide +kernel
theorem dX1_inflow_22 : decode cX1_inflow 22 = .ok (.getfield 37, 3) := by decide +kernel
theorem dX1_inflow_25 : decode cX1_inflow 25 = .ok (.iload_n 2, 1) := by decide +kernel
theorem dX1_inflow_26 : decode cX1_inflow 26 = .ok (.invokevirtual 77, 3) := by decide +kernel
theorem dX1_inflow_29 : decode cX1_inflow 29 = .ok (.ifCond .ne 15, 3) := by decide +kernel
theorem dX1_inflow_32 : decode cX1_inflow 32 = .ok (.iload_n 1, 1) := by decide +kernel
theorem dX1_inflow_33 : decode cX1_inflow 33 = .ok (.aload_n 0, 1) := by decide +kernel
theorem dX1_inflow_34 : decode cX1_inflow 34 = .ok (.iload_n 2, 1) := by decide +kernel
theorem dX1_inflow_35 : decode cX1_inflow 35 = .ok (.invokevirtual 94, 3) := by decide +kernel
theorem dX1_inflow_38 : decode cX1_inflow 38 = .ok (.iconst 0, 1) := by decide +kernel
theorem dX1_inflow_39 : decode cX1_inflow 39 = .ok (.invokestatic 112, 3) := by decide +kernel
theorem dX1_inflow_42 : decode cX1_inflow 42 = .ok (.iadd, 1) := by decide +kernel
theorem dX1_inflow_43 : decode cX1_inflow 43 = .ok (.istore_n 1, 1) := by decide +kernel
theorem dX1_inflow_44 : decode cX1_inflow 44 = .ok (.iinc 2 1, 3) := by decide +kernel
theorem dX1_inflow_47 : decode cX1_inflow 47 = .ok (.goto (-43), 3) := by decide +kernel
theorem dX1_inflow_50 : decode cX1_inflow 50 = .ok (.iload_n 1, 1) := by decide +kernel
theorem dX1_inflow_51 : decode cX1_inflow 51 = .ok (.ireturn, 1) := by decide +kernel
theorem dX1_smoking_0 : decode cX1_smoking 0 = .ok (.iconst 0, 1) := by decide +kernel
theorem dX1_smoking_1 : decode cX1_smoking 1 = .ok (.istore_n 1, 1) := by decide +kernel
theorem dX1_smoking_2 : decode cX1_smoking 2 = .ok (.iload_n 1, 1) := by decide +kernel
theorem dX1_smoking_3 : decode cX1_smoking 3 = .ok (.aload_n 0, 1) := by decide +kernel
theorem dX1_smoking_4 : decode cX1_smoking 4 = .ok (.getfield 9, 3) := by decide +kernel
theorem dX1_smoking_7 : decode cX1_smoking 7 = .ok (.getfield 37, 3) := by decide +kernel
theorem dX1_smoking_10 : decode cX1_smoking 10 = .ok (.getfield 43, 3) := by decide +kernel
theorem dX1_smoking_13 : decode cX1_smoking 13 = .ok (.if_icmp .ge 59, 3) := by decide +kernel
theorem dX1_smoking_16 : decode cX1_smoking 16 = .ok (.aload_n 0, 1) := by decide +kernel
theorem dX1_smoking_17 : decode cX1_smoking 17 = .ok (.getfield 9, 3) := by decide +kernel
theorem dX1_smoking_20 : decode cX1_smoking 20 = .ok (.getfield 37, 3) := by decide +kernel
theorem dX1_smoking_23 : decode cX1_smoking 23 = .ok (.getfield 115, 3) := by decide +kernel
theorem dX1_smoking_26 : decode cX1_smoking 26 = .ok (.iload_n 1, 1) := by decide +kernel
theorem dX1_smoking_27 : decode cX1_smoking 27 = .ok (.invokestatic 52, 3) := by decide +kernel
theorem dX1_smoking_30 : decode cX1_smoking 30 = .ok (.bipush 6, 2) := by decide +kernel
theorem dX1_smoking_32 : decode cX1_smoking 32 = .ok (.if_icmp .ne 7, 3) := by decide +kernel
theorem dX1_smoking_35 : decode cX1_smoking 35 = .ok (.iconst 1, 1) := by decide +kernel
theorem dX1_smoking_36 : decode cX1_smoking 36 = .ok (.goto 4, 3) := by decide +kernel
theorem dX1_smoking_39 : decode cX1_smoking 39 = .ok (.iconst 0, 1) := by decide +kernel
theorem dX1_smoking_40 : decode cX1_smoking 40 = .ok (.istore_n 2, 1) := by decide +kernel
theorem dX1_smoking_41 : decode cX1_smoking 41 = .ok (.iload_n 2, 1) := by decide +kernel
theorem dX1_smoking_42 : decode cX1_smoking 42 = .ok (.ifCond .eq 24, 3) := by decide +kernel
theorem dX1_smoking_45 : decode cX1_smoking 45 = .ok (.aload_n 0, 1) := by decide +kernel
theorem dX1_smoking_46 : decode cX1_smoking 46 = .ok (.getfield 15, 3) := by decide +kernel
theorem dX1_smoking_49 : decode cX1_smoking 49 = .ok (.iload_n 1, 1) := by decide +kernel
theorem dX1_smoking_50 : decode cX1_smoking 50 = .ok (.invokestatic 52, 3) := by decide +kernel
theorem dX1_smoking_53 : decode cX1_smoking 53 = .ok (.ifCond .le 13, 3) := by decide +kernel
theorem dX1_smoking_56 : decode cX1_smoking 56 = .ok (.aload_n 0, 1) := by decide +kernel
theorem dX1_smoking_57 : decode cX1_smoking 57 = .ok (.iload_n 1, 1) := by decide +kernel
theorem dX1_smoking_58 : decode cX1_smoking 58 = .ok (.invokevirtual 94, 3) := by decide +kernel
theorem dX1_smoking_61 : decode cX1_smoking 61 = .ok (.ifCond .lt 5, 3) := by decide +kernel
theorem dX1_smoking_64 : decode cX1_smoking 64 = .ok (.iconst 1, 1) := by decide +kernel
theorem dX1_smoking_65 : decode cX1_smoking 65 = .ok (.ireturn, 1) := by decide +kernel
theorem dX1_smoking_66 : decode cX1_smoking 66 = .ok (.iinc 1 1, 3) := by decide +kernel
theorem dX1_smoking_69 : decode cX1_smoking 69 = .ok (.goto (-67), 3) := by decide +kernel
theorem dX1_smoking_72 : decode cX1_smoking 72 = .ok (.iconst 0, 1) := by decide +kernel
theorem dX1_smoking_73 : decode cX1_smoking 73 = .ok (.ireturn, 1) := by decide +kernel
theorem dX1_throughRoom_0 : decode cX1_throughRoom 0 = .ok (.iconst 0, 1) := by decide +kernel
theorem dX1_throughRoom_1 : decode cX1_throughRoom 1 = .ok (.istore_n 2, 1) := by decide +kernel
theorem dX1_throughRoom_2 : decode cX1_throughRoom 2 = .ok (.iconst 0, 1) := by decide +kernel
theorem dX1_throughRoom_3 : decode cX1_throughRoom 3 = .ok (.istore_n 3, 1) := by decide +kernel
theorem dX1_throughRoom_4 : decode cX1_throughRoom 4 = .ok (.iload_n 3, 1) := by decide +kernel
theorem dX1_throughRoom_5 : decode cX1_throughRoom 5 = .ok (.aload_n 0, 1) := by decide +kernel
theorem dX1_throughRoom_6 : decode cX1_throughRoom 6 = .ok (.getfield 9, 3) := by decide +kernel
theorem dX1_throughRoom_9 : decode cX1_throughRoom 9 = .ok (.getfield 37, 3) := by decide +kernel
theorem dX1_throughRoom_12 : decode cX1_throughRoom 12 = .ok (.getfield 43, 3) := by decide +kernel
theorem dX1_throughRoom_15 : decode cX1_throughRoom 15 = .ok (.if_icmp .ge 44, 3) := by decide +kernel
theorem dX1_throughRoom_18 : decode cX1_throughRoom 18 = .ok (.aload_n 0, 1) := by decide +kernel
theorem dX1_throughRoom_19 : decode cX1_throughRoom 19 = .ok (.getfield 22, 3) := by decide +kernel
theorem dX1_throughRoom_22 : decode cX1_throughRoom 22 = .ok (.iload_n 3, 1) := by decide +kernel
theorem dX1_throughRoom_23 : decode cX1_throughRoom 23 = .ok (.invokestatic 52, 3) := by decide +kernel
theorem dX1_throughRoom_26 : decode cX1_throughRoom 26 = .ok (.iload_n 1, 1) := by decide +kernel
theorem dX1_throughRoom_27 : decode cX1_throughRoom 27 = .ok (.if_icmp .eq 15, 3) := by decide +kernel
theorem dX1_throughRoom_30 : decode cX1_throughRoom 30 = .ok (.aload_n 0, 1) := by decide +kernel
theorem dX1_throughRoom_31 : decode cX1_throughRoom 31 = .ok (.getfield 19, 3) := by decide +kernel
theorem dX1_throughRoom_34 : decode cX1_throughRoom 34 = .ok (.iload_n 3, 1) := by decide +kernel
theorem dX1_throughRoom_35 : decode cX1_throughRoom 35 = .ok (.invokestatic 52, 3) := by decide +kernel
theorem dX1_throughRoom_38 : decode cX1_throughRoom 38 = .ok (.iload_n 1, 1) := by decide +kernel
theorem dX1_throughRoom_39 : decode cX1_throughRoom 39 = .ok (.if_icmp .ne 14, 3) := by decide +kernel
theorem dX1_throughRoom_42 : decode cX1_throughRoom 42 = .ok (.iload_n 2, 1) := by decide +kernel
theorem dX1_throughRoom_43 : decode cX1_throughRoom 43 = .ok (.aload_n 0, 1) := by decide +kernel
theorem dX1_throughRoom_44 : decode cX1_throughRoom 44 = .ok (.iload_n 3, 1) := by decide +kernel
theorem dX1_throughRoom_45 : decode cX1_throughRoom 45 = .ok (.invokevirtual 94, 3) := by decide +kernel
theorem dX1_throughRoom_48 : decode cX1_throughRoom 48 = .ok (.invokestatic 104, 3) := by decide +kernel
theorem dX1_throughRoom_51 : decode cX1_throughRoom 51 = .ok (.iadd, 1) := by decide +kernel
theorem dX1_throughRoom_52 : decode cX1_throughRoom 52 = .ok (.istore_n 2, 1) := by decide +kernel
theorem dX1_throughRoom_53 : decode cX1_throughRoom 53 = .ok (.iinc 3 1, 3) := by decide +kernel
theorem dX1_throughRoom_56 : decode cX1_throughRoom 56 = .ok (.goto (-52), 3) := by decide +kernel
theorem dX1_throughRoom_59 : decode cX1_throughRoom 59 = .ok (.iload_n 2, 1) := by decide +kernel
theorem dX1_throughRoom_60 : decode cX1_throughRoom 60 = .ok (.ireturn, 1) := by decide +kernel
theorem dX2_init_0 : decode cX2_init 0 = .ok (.aload_n 0, 1) := by decide +kernel
theorem dX2_init_1 : decode cX2_init 1 = .ok (.invokespecial 3, 3) := by decide +kernel
theorem dX2_init_4 : decode cX2_init 4 = .ok (.aload_n 0, 1) := by decide +kernel
theorem dX2_init_5 : decode cX2_init 5 = .ok (.bipush 10, 2) := by decide +kernel
theorem dX2_init_7 : decode cX2_init 7 = .ok (.newarray .int, 2) := by decide +kernel
theorem dX2_init_9 : decode cX2_init 9 = .ok (.putfield 9, 3) := by decide +kernel
theorem dX2_init_12 : decode cX2_init 12 = .ok (.aload_n 0, 1) := by decide +kernel
theorem dX2_init_13 : decode cX2_init 13 = .ok (.bipush 10, 2) := by decide +kernel
theorem dX2_init_15 : decode cX2_init 15 = .ok (.newarray .int, 2) := by decide +kernel
theorem dX2_init_17 : decode cX2_init 17 = .ok (.putfield 15, 3) := by decide +kernel
theorem dX2_init_20 : decode cX2_init 20 = .ok (.aload_n 0, 1) := by decide +kernel
theorem dX2_init_21 : decode cX2_init 21 = .ok (.bipush 10, 2) := by decide +kernel
theorem dX2_init_23 : decode cX2_init 23 = .ok (.newarray .int, 2) := by decide +kernel
theorem dX2_init_25 : decode cX2_init 25 = .ok (.putfield 18, 3) := by decide +kernel
theorem dX2_init_28 : decode cX2_init 28 = .ok (.aload_n 0, 1) := by decide +kernel
theorem dX2_init_29 : decode cX2_init 29 = .ok (.bipush 10, 2) := by decide +kernel
theorem dX2_init_31 : decode cX2_init 31 = .ok (.newarray .int, 2) := by decide +kernel
theorem dX2_init_33 : decode cX2_init 33 = .ok (.putfield 21, 3) := by decide +kernel
theorem dX2_init_36 : decode cX2_init 36 = .ok (.aload_n 0, 1) := by decide +kernel
theorem dX2_init_37 : decode cX2_init 37 = .ok (.bipush 10, 2) := by decide +kernel
theorem dX2_init_39 : decode cX2_init 39 = .ok (.newarray .int, 2) := by decide +kernel
theorem dX2_init_41 : decode cX2_init 41 = .ok (.putfield 24, 3) := by decide +kernel
theorem dX2_init_44 : decode cX2_init 44 = .ok (.aload_n 0, 1) := by decide +kernel
theorem dX2_init_45 : decode cX2_init 45 = .ok (.bipush 10, 2) := by decide +kernel
theorem dX2_init_47 : decode cX2_init 47 = .ok (.newarray .int, 2) := by decide +kernel
theorem dX2_init_49 : decode cX2_init 49 = .ok (.putfield 27, 3) := by decide +kernel
theorem dX2_init_52 : decode cX2_init 52 = .ok (.aload_n 0, 1) := by decide +kernel
theorem dX2_init_53 : decode cX2_init 53 = .ok (.bipush 10, 2) := by decide +kernel
theorem dX2_init_55 : decode cX2_init 55 = .ok (.newarray .int, 2) := by decide +kernel
theorem dX2_init_57 : decode cX2_init 57 = .ok (.putfield 30, 3) := by decide +kernel
theorem dX2_init_60 : decode cX2_init 60 = .ok (.return_, 1) := by decide +kernel
theorem dX2_has_0 : decode cX2_has 0 = .ok (.iload_n 1, 1) := by decide +kernel
theorem dX2_has_1 : decode cX2_has 1 = .ok (.ifCond .lt 15, 3) := by decide +kernel
theorem dX2_has_4 : decode cX2_has 4 = .ok (.iload_n 1, 1) := by decide +kernel
theorem dX2_has_5 : decode cX2_has 5 = .ok (.aload_n 0, 1) := by decide +kernel
theorem dX2_has_6 : decode cX2_has 6 = .ok (.getfield 33, 3) := by decide +kernel
theorem dX2_has_9 : decode cX2_has 9 = .ok (.if_icmp .ge 7, 3) := by decide +kernel
theorem dX2_has_12 : decode cX2_has 12 = .ok (.iconst 1, 1) := by decide +kernel
theorem dX2_has_13 : decode cX2_has 13 = .ok (.goto 4, 3) := by decide +kernel
theorem dX2_has_16 : decode cX2_has 16 = .ok (.iconst 0, 1) := by decide +kernel
theorem dX2_has_17 : decode cX2_has 17 = .ok (.ireturn, 1) := by decide +kernel
theorem dX2_isFull_0 : decode cX2_isFull 0 = .ok (.aload_n 0, 1) := by decide +kernel
theorem dX2_isFull_1 : decode cX2_isFull 1 = .ok (.getfield 33, 3) := by decide +kernel
theorem dX2_isFull_4 : decode cX2_isFull 4 = .ok (.bipush 10, 2) := by decide +kernel
theorem dX2_isFull_6 : decode cX2_isFull 6 = .ok (.if_icmp .lt 7, 3) := by decide +kernel
theorem dX2_isFull_9 : decode cX2_isFull 9 = .ok (.iconst 1, 1) := by decide +kernel
theorem dX2_isFull_10 : decode cX2_isFull 10 = .ok (.goto 4, 3) := by decide +kernel
theorem dX2_isFull_13 : decode cX2_isFull 13 = .ok (.iconst 0, 1) := by decide +kernel
theorem dX2_isFull_14 : decode cX2_isFull 14 = .ok (.ireturn, 1) := by decide +kernel
theorem dX2_isDoor_0 : decode cX2_isDoor 0 = .ok (.aload_n 0, 1) := by decide +kernel
theorem dX2_isDoor_1 : decode cX2_isDoor 1 = .ok (.getfield 18, 3) := by decide +kernel
theorem dX2_isDoor_4 : decode cX2_isDoor 4 = .ok (.iload_n 1, 1) := by decide +kernel
theorem dX2_isDoor_5 : decode cX2_isDoor 5 = .ok (.invokestatic 37, 3) := by decide +kernel
theorem dX2_isDoor_8 : decode cX2_isDoor 8 = .ok (.bipush 7, 2) := by decide +kernel
theorem dX2_isDoor_10 : decode cX2_isDoor 10 = .ok (.if_icmp .ne 7, 3) := by decide +kernel
theorem dX2_isDoor_13 : decode cX2_isDoor 13 = .ok (.iconst 1, 1) := by decide +kernel
theorem dX2_isDoor_14 : decode cX2_isDoor 14 = .ok (.goto 4, 3) := by decide +kernel
theorem dX2_isDoor_17 : decode cX2_isDoor 17 = .ok (.iconst 0, 1) := by decide +kernel
theorem dX2_isDoor_18 : decode cX2_isDoor 18 = .ok (.ireturn, 1) := by decide +kernel
theorem dX2_add_0 : decode cX2_add 0 = .ok (.aload_n 0, 1) := by decide +kernel
theorem dX2_add_1 : decode cX2_add 1 = .ok (.invokevirtual 43, 3) := by decide +kernel
theorem dX2_add_4 : decode cX2_add 4 = .ok (.ifCond .ne 101, 3) := by decide +kernel
theorem dX2_add_7 : decode cX2_add 7 = .ok (.aload_n 0, 1) := by decide +kernel
theorem dX2_add_8 : decode cX2_add 8 = .ok (.getfield 9, 3) := by decide +kernel
theorem dX2_add_11 : decode cX2_add 11 = .ok (.aload_n 0, 1) := by decide +kernel
theorem dX2_add_12 : decode cX2_add 12 = .ok (.getfield 33, 3) := by decide +kernel
theorem dX2_add_15 : decode cX2_add 15 = .ok (.iload_n 1, 1) := by decide +kernel
theorem dX2_add_16 : decode cX2_add 16 = .ok (.invokestatic 47, 3) := by decide +kernel
theorem dX2_add_19 : decode cX2_add 19 = .ok (.aload_n 0, 1) := by decide +kernel
theorem dX2_add_20 : decode cX2_add 20 = .ok (.getfield 15, 3) := by decide +kernel
theorem dX2_add_23 : decode cX2_add 23 = .ok (.aload_n 0, 1) := by decide +kernel
theorem dX2_add_24 : decode cX2_add 24 = .ok (.getfield 33, 3) := by decide +kernel
theorem dX2_add_27 : decode cX2_add 27 = .ok (.iload_n 2, 1) := by decide +kernel
theorem dX2_add_28 : decode cX2_add 28 = .ok (.invokestatic 47, 3) := by decide +kernel
theorem dX2_add_31 : decode cX2_add 31 = .ok (.aload_n 0, 1) := by decide +kernel
theorem dX2_add_32 : decode cX2_add 32 = .ok (.getfield 18, 3) := by decide +kernel
theorem dX2_add_35 : decode cX2_add 35 = .ok (.aload_n 0, 1) := by decide +kernel
theorem dX2_add_36 : decode cX2_add 36 = .ok (.getfield 33, 3) := by decide +kernel
theorem dX2_add_39 : decode cX2_add 39 = .ok (.iload_n 3, 1) := by decide +kernel
theorem dX2_add_40 : decode cX2_add 40 = .ok (.invokestatic 47, 3) := by decide +kernel
theorem dX2_add_43 : decode cX2_add 43 = .ok (.aload_n 0, 1) := by decide +kernel
theorem dX2_add_44 : decode cX2_add 44 = .ok (.getfield 21, 3) := by decide +kernel
theorem dX2_add_47 : decode cX2_add 47 = .ok (.aload_n 0, 1) := by decide +kernel
theorem dX2_add_48 : decode cX2_add 48 = .ok (.getfield 33, 3) := by decide +kernel
theorem dX2_add_51 : decode cX2_add 51 = .ok (.iload 4, 2) := by decide +kernel
theorem dX2_add_53 : decode cX2_add 53 = .ok (.invokestatic 47, 3) := by decide +kernel
theorem dX2_add_56 : decode cX2_add 56 = .ok (.aload_n 0, 1) := by decide +kernel
theorem dX2_add_57 : decode cX2_add 57 = .ok (.getfield 24, 3) := by decide +kernel
theorem dX2_add_60 : decode cX2_add 60 = .ok (.aload_n 0, 1) := by decide +kernel
theorem dX2_add_61 : decode cX2_add 61 = .ok (.getfield 33, 3) := by decide +kernel
theorem dX2_add_64 : decode cX2_add 64 = .ok (.iload 5, 2) := by decide +kernel
theorem dX2_add_66 : decode cX2_add 66 = .ok (.invokestatic 47, 3) := by decide +kernel
theorem dX2_add_69 : decode cX2_add 69 = .ok (.aload_n 0, 1) := by decide +kernel
theorem dX2_add_70 : decode cX2_add 70 = .ok (.getfield 27, 3) := by decide +kernel
theorem dX2_add_73 : decode cX2_add 73 = .ok (.aload_n 0, 1) := by decide +kernel
theorem dX2_add_74 : decode cX2_add 74 = .ok (.getfield 33, 3) := by decide +kernel
theorem dX2_add_77 : decode cX2_add 77 = .ok (.iload 6, 2) := by decide +kernel
theorem dX2_add_79 : decode cX2_add 79 = .ok (.invokestatic 47, 3) := by decide +kernel
theorem dX2_add_82 : decode cX2_add 82 = .ok (.aload_n 0, 1) := by decide +kernel
theorem dX2_add_83 : decode cX2_add 83 = .ok (.getfield 30, 3) := by decide +kernel
theorem dX2_add_86 : decode cX2_add 86 = .ok (.aload_n 0, 1) := by decide +kernel
theorem dX2_add_87 : decode cX2_add 87 = .ok (.getfield 33, 3) := by decide +kernel
theorem dX2_add_90 : decode cX2_add 90 = .ok (.iload 7, 2) := by decide +kernel
theorem dX2_add_92 : decode cX2_add 92 = .ok (.invokestatic 47, 3) := by decide +kernel
theorem dX2_add_95 : decode cX2_add 95 = .ok (.aload_n 0, 1) := by decide +kernel
theorem dX2_add_96 : decode cX2_add 96 = .ok (.dup, 1) := by decide +kernel
theorem dX2_add_97 : decode cX2_add 97 = .ok (.getfield 33, 3) := by decide +kernel
theorem dX2_add_100 : decode cX2_add 100 = .ok (.iconst 1, 1) := by decide +kernel
theorem dX2_add_101 : decode cX2_add 101 = .ok (.iadd, 1) := by decide +kernel
theorem dX2_add_102 : decode cX2_add 102 = .ok (.putfield 33, 3) := by decide +kernel
theorem dX2_add_105 : decode cX2_add 105 = .ok (.return_, 1) := by decide +kernel
theorem dX2_dropLast_0 : decode cX2_dropLast 0 = .ok (.aload_n 0, 1) := by decide +kernel
theorem dX2_dropLast_1 : decode cX2_dropLast 1 = .ok (.aload_n 0, 1) := by decide +kernel
theorem dX2_dropLast_2 : decode cX2_dropLast 2 = .ok (.getfield 33, 3) := by decide +kernel
theorem dX2_dropLast_5 : decode cX2_dropLast 5 = .ok (.iconst 1, 1) := by decide +kernel
theorem dX2_dropLast_6 : decode cX2_dropLast 6 = .ok (.isub, 1) := by decide +kernel
theorem dX2_dropLast_7 : decode cX2_dropLast 7 = .ok (.iconst 0, 1) := by decide +kernel
theorem dX2_dropLast_8 : decode cX2_dropLast 8 = .ok (.invokestatic 51, 3) := by decide +kernel
theorem dX2_dropLast_11 : decode cX2_dropLast 11 = .ok (.putfield 33, 3) := by decide +kernel
theorem dX2_dropLast_14 : decode cX2_dropLast 14 = .ok (.return_, 1) := by decide +kernel
theorem dX2_become_0 : decode cX2_become 0 = .ok (.aload_n 1, 1) := by decide +kernel
theorem dX2_become_1 : decode cX2_become 1 = .ok (.getfield 9, 3) := by decide +kernel
theorem dX2_become_4 : decode cX2_become 4 = .ok (.aload_n 0, 1) := by decide +kernel
theorem dX2_become_5 : decode cX2_become 5 = .ok (.getfield 9, 3) := by decide +kernel
theorem dX2_become_8 : decode cX2_become 8 = .ok (.invokestatic 57, 3) := by decide +kernel
theorem dX2_become_11 : decode cX2_become 11 = .ok (.aload_n 1, 1) := by decide +kernel
theorem dX2_become_12 : decode cX2_become 12 = .ok (.getfield 15, 3) := by decide +kernel
theorem dX2_become_15 : decode cX2_become 15 = .ok (.aload_n 0, 1) := by decide +kernel
theorem dX2_become_16 : decode cX2_become 16 = .ok (.getfield 15, 3) := by decide +kernel
theorem dX2_become_19 : decode cX2_become 19 = .ok (.invokestatic 57, 3) := by decide +kernel
theorem dX2_become_22 : decode cX2_become 22 = .ok (.aload_n 1, 1) := by decide +kernel
theorem dX2_become_23 : decode cX2_become 23 = .ok (.getfield 18, 3) := by decide +kernel
theorem dX2_become_26 : decode cX2_become 26 = .ok (.aload_n 0, 1) := by decide +kernel
theorem dX2_become_27 : decode cX2_become 27 = .ok (.getfield 18, 3) := by decide +kernel
theorem dX2_become_30 : decode cX2_become 30 = .ok (.invokestatic 57, 3) := by decide +kernel
theorem dX2_become_33 : decode cX2_become 33 = .ok (.aload_n 1, 1) := by decide +kernel
theorem dX2_become_34 : decode cX2_become 34 = .ok (.getfield 21, 3) := by decide +kernel
theorem dX2_become_37 : decode cX2_become 37 = .ok (.aload_n 0, 1) := by decide +kernel
theorem dX2_become_38 : decode cX2_become 38 = .ok (.getfield 21, 3) := by decide +kernel
theorem dX2_become_41 : decode cX2_become 41 = .ok (.invokestatic 57, 3) := by decide +kernel
theorem dX2_become_44 : decode cX2_become 44 = .ok (.aload_n 1, 1) := by decide +kernel
theorem dX2_become_45 : decode cX2_become 45 = .ok (.getfield 24, 3) := by decide +kernel
theorem dX2_become_48 : decode cX2_become 48 = .ok (.aload_n 0, 1) := by decide +kernel
theorem dX2_become_49 : decode cX2_become 49 = .ok (.getfield 24, 3) := by decide +kernel
theorem dX2_become_52 : decode cX2_become 52 = .ok (.invokestatic 57, 3) := by decide +kernel
theorem dX2_become_55 : decode cX2_become 55 = .ok (.aload_n 1, 1) := by decide +kernel
theorem dX2_become_56 : decode cX2_become 56 = .ok (.getfield 27, 3) := by decide +kernel
theorem dX2_become_59 : decode cX2_become 59 = .ok (.aload_n 0, 1) := by decide +kernel
theorem dX2_become_60 : decode cX2_become 60 = .ok (.getfield 27, 3) := by decide +kernel
theorem dX2_become_63 : decode cX2_become 63 = .ok (.invokestatic 57, 3) := by decide +kernel
theorem dX2_become_66 : decode cX2_become 66 = .ok (.aload_n 1, 1) := by decide +kernel
theorem dX2_become_67 : decode cX2_become 67 = .ok (.getfield 30, 3) := by decide +kernel
theorem dX2_become_70 : decode cX2_become 70 = .ok (.aload_n 0, 1) := by decide +kernel
theorem dX2_become_71 : decode cX2_become 71 = .ok (.getfield 30, 3) := by decide +kernel
theorem dX2_become_74 : decode cX2_become 74 = .ok (.invokestatic 57, 3) := by decide +kernel
theorem dX2_become_77 : decode cX2_become 77 = .ok (.aload_n 0, 1) := by decide +kernel
theorem dX2_become_78 : decode cX2_become 78 = .ok (.aload_n 1, 1) := by decide +kernel
theorem dX2_become_79 : decode cX2_become 79 = .ok (.getfield 33, 3) := by decide +kernel
theorem dX2_become_82 : decode cX2_become 82 = .ok (.putfield 33, 3) := by decide +kernel
theorem dX2_become_85 : decode cX2_become 85 = .ok (.return_, 1) := by decide +kernel
theorem dX2_roomsToldOf_0 : decode cX2_roomsToldOf 0 = .ok (.iconst 0, 1) := by decide +kernel
theorem dX2_roomsToldOf_1 : decode cX2_roomsToldOf 1 = .ok (.istore_n 1, 1) := by decide +kernel
theorem dX2_roomsToldOf_2 : decode cX2_roomsToldOf 2 = .ok (.iconst 0, 1) := by decide +kernel
theorem dX2_roomsToldOf_3 : decode cX2_roomsToldOf 3 = .ok (.istore_n 2, 1) := by decide +kernel
theorem dX2_roomsToldOf_4 : decode cX2_roomsToldOf 4 = .ok (.iload_n 2, 1) := by decide +kernel
theorem dX2_roomsToldOf_5 : decode cX2_roomsToldOf 5 = .ok (.aload_n 0, 1) := by decide +kernel
theorem dX2_roomsToldOf_6 : decode cX2_roomsToldOf 6 = .ok (.getfield 33, 3) := by decide +kernel
theorem dX2_roomsToldOf_9 : decode cX2_roomsToldOf 9 = .ok (.if_icmp .ge 35, 3) := by decide +kernel
theorem dX2_roomsToldOf_12 : decode cX2_roomsToldOf 12 = .ok (.iload_n 1, 1) := by decide +kernel
theorem dX2_roomsToldOf_13 : decode cX2_roomsToldOf 13 = .ok (.aload_n 0, 1) := by decide +kernel
theorem dX2_roomsToldOf_14 : decode cX2_roomsToldOf 14 = .ok (.getfield 9, 3) := by decide +kernel
theorem dX2_roomsToldOf_17 : decode cX2_roomsToldOf 17 = .ok (.iload_n 2, 1) := by decide +kernel
theorem dX2_roomsToldOf_18 : decode cX2_roomsToldOf 18 = .ok (.invokestatic 37, 3) := by decide +kernel
theorem dX2_roomsToldOf_21 : decode cX2_roomsToldOf 21 = .ok (.aload_n 0, 1) := by decide +kernel
theorem dX2_roomsToldOf_22 : decode cX2_roomsToldOf 22 = .ok (.getfield 15, 3) := by decide +kernel
theorem dX2_roomsToldOf_25 : decode cX2_roomsToldOf 25 = .ok (.iload_n 2, 1) := by decide +kernel
theorem dX2_roomsToldOf_26 : decode cX2_roomsToldOf 26 = .ok (.invokestatic 37, 3) := by decide +kernel
theorem dX2_roomsToldOf_29 : decode cX2_roomsToldOf 29 = .ok (.invokestatic 51, 3) := by decide +kernel
theorem dX2_roomsToldOf_32 : decode cX2_roomsToldOf 32 = .ok (.iconst 1, 1) := by decide +kernel
theorem dX2_roomsToldOf_33 : decode cX2_roomsToldOf 33 = .ok (.iadd, 1) := by decide +kernel
theorem dX2_roomsToldOf_34 : decode cX2_roomsToldOf 34 = .ok (.invokestatic 51, 3) := by decide +kernel
theorem dX2_roomsToldOf_37 : decode cX2_roomsToldOf 37 = .ok (.istore_n 1, 1) := by decide +kernel
theorem dX2_roomsToldOf_38 : decode cX2_roomsToldOf 38 = .ok (.iinc 2 1, 3) := by decide +kernel
theorem dX2_roomsToldOf_41 : decode cX2_roomsToldOf 41 = .ok (.goto (-37), 3) := by decide +kernel
theorem dX2_roomsToldOf_44 : decode cX2_roomsToldOf 44 = .ok (.iload_n 1, 1) := by decide +kernel
theorem dX2_roomsToldOf_45 : decode cX2_roomsToldOf 45 = .ok (.ireturn, 1) := by decide +kernel
theorem dX2_doors_0 : decode cX2_doors 0 = .ok (.iconst 0, 1) := by decide +kernel
theorem dX2_doors_1 : decode cX2_doors 1 = .ok (.istore_n 1, 1) := by decide +kernel
theorem dX2_doors_2 : decode cX2_doors 2 = .ok (.iconst 0, 1) := by decide +kernel
theorem dX2_doors_3 : decode cX2_doors 3 = .ok (.istore_n 2, 1) := by decide +kernel
theorem dX2_doors_4 : decode cX2_doors 4 = .ok (.iload_n 2, 1) := by decide +kernel
theorem dX2_doors_5 : decode cX2_doors 5 = .ok (.aload_n 0, 1) := by decide +kernel
theorem dX2_doors_6 : decode cX2_doors 6 = .ok (.getfield 33, 3) := by decide +kernel
theorem dX2_doors_9 : decode cX2_doors 9 = .ok (.if_icmp .ge 25, 3) := by decide +kernel
theorem dX2_doors_12 : decode cX2_doors 12 = .ok (.iload_n 1, 1) := by decide +kernel
theorem dX2_doors_13 : decode cX2_doors 13 = .ok (.aload_n 0, 1) := by decide +kernel
theorem dX2_doors_14 : decode cX2_doors 14 = .ok (.iload_n 2, 1) := by decide +kernel
theorem dX2_doors_15 : decode cX2_doors 15 = .ok (.invokevirtual 61, 3) := by decide +kernel
theorem dX2_doors_18 : decode cX2_doors 18 = .ok (.ifCond .eq 7, 3) := by decide +kernel
theorem dX2_doors_21 : decode cX2_doors 21 = .ok (.iconst 1, 1) := by decide +kernel
theorem dX2_doors_22 : decode cX2_doors 22 = .ok (.goto 4, 3) := by decide +kernel
theorem dX2_doors_25 : decode cX2_doors 25 = .ok (.iconst 0, 1) := by decide +kernel
theorem dX2_doors_26 : decode cX2_doors 26 = .ok (.iadd, 1) := by decide +kernel
theorem dX2_doors_27 : decode cX2_doors 27 = .ok (.istore_n 1, 1) := by decide +kernel
theorem dX2_doors_28 : decode cX2_doors 28 = .ok (.iinc 2 1, 3) := by decide +kernel
theorem dX2_doors_31 : decode cX2_doors 31 = .ok (.goto (-27), 3) := by decide +kernel
theorem dX2_doors_34 : decode cX2_doors 34 = .ok (.iload_n 1, 1) := by decide +kernel
theorem dX2_doors_35 : decode cX2_doors 35 = .ok (.ireturn, 1) := by decide +kernel
theorem dX2_allSizes_0 : decode cX2_allSizes 0 = .ok (.iconst 0, 1) := by decide +kernel
theorem dX2_allSizes_1 : decode cX2_allSizes 1 = .ok (.istore_n 1, 1) := by decide +kernel
theorem dX2_allSizes_2 : decode cX2_allSizes 2 = .ok (.iconst 0, 1) := by decide +kernel
theorem dX2_allSizes_3 : decode cX2_allSizes 3 = .ok (.istore_n 2, 1) := by decide +kernel
theorem dX2_allSizes_4 : decode cX2_allSizes 4 = .ok (.iload_n 2, 1) := by decide +kernel
theorem dX2_allSizes_5 : decode cX2_allSizes 5 = .ok (.aload_n 0, 1) := by decide +kernel
theorem dX2_allSizes_6 : decode cX2_allSizes 6 = .ok (.getfield 33, 3) := by decide +kernel
theorem dX2_allSizes_9 : decode cX2_allSizes 9 = .ok (.if_icmp .ge 20, 3) := by decide +kernel
theorem dX2_allSizes_12 : decode cX2_allSizes 12 = .ok (.iload_n 1, 1) := by decide +kernel
theorem dX2_allSizes_13 : decode cX2_allSizes 13 = .ok (.aload_n 0, 1) := by decide +kernel
theorem dX2_allSizes_14 : decode cX2_allSizes 14 = .ok (.getfield 21, 3) := by decide +kernel
theorem dX2_allSizes_17 : decode cX2_allSizes 17 = .ok (.iload_n 2, 1) := by decide +kernel
theorem dX2_allSizes_18 : decode cX2_allSizes 18 = .ok (.invokestatic 37, 3) := by decide +kernel
theorem dX2_allSizes_21 : decode cX2_allSizes 21 = .ok (.iadd, 1) := by decide +kernel
theorem dX2_allSizes_22 : decode cX2_allSizes 22 = .ok (.istore_n 1, 1) := by decide +kernel
theorem dX2_allSizes_23 : decode cX2_allSizes 23 = .ok (.iinc 2 1, 3) := by decide +kernel
theorem dX2_allSizes_26 : decode cX2_allSizes 26 = .ok (.goto (-22), 3) := by decide +kernel
theorem dX2_allSizes_29 : decode cX2_allSizes 29 = .ok (.iload_n 1, 1) := by decide +kernel
theorem dX2_allSizes_30 : decode cX2_allSizes 30 = .ok (.ireturn, 1) := by decide +kernel
theorem dX2_canBeStopped_0 : decode cX2_canBeStopped 0 = .ok (.iconst 0, 1) := by decide +kernel
theorem dX2_canBeStopped_1 : decode cX2_canBeStopped 1 = .ok (.istore_n 3, 1) := by decide +kernel
theorem dX2_canBeStopped_2 : decode cX2_canBeStopped 2 = .ok (.iconst 0, 1) := by decide +kernel
theorem dX2_canBeStopped_3 : decode cX2_canBeStopped 3 = .ok (.istore 4, 2) := by decide +kernel
theorem dX2_canBeStopped_5 : decode cX2_canBeStopped 5 = .ok (.iload 4, 2) := by decide +kernel
theorem dX2_canBeStopped_7 : decode cX2_canBeStopped 7 = .ok (.aload_n 0, 1) := by decide +kernel
theorem dX2_canBeStopped_8 : decode cX2_canBeStopped 8 = .ok (.getfield 33, 3) := by decide +kernel
theorem dX2_canBeStopped_11 : decode cX2_canBeStopped 11 = .ok (.if_icmp .ge 42, 3) := by decide +kernel
theorem dX2_canBeStopped_14 : decode cX2_canBeStopped 14 = .ok (.iload_n 1, 1) := by decide +kernel
theorem dX2_canBeStopped_15 : decode cX2_canBeStopped 15 = .ok (.iload 4, 2) := by decide +kernel
theorem dX2_canBeStopped_17 : decode cX2_canBeStopped 17 = .ok (.ishr, 1) := by decide +kernel
theorem dX2_canBeStopped_18 : decode cX2_canBeStopped 18 = .ok (.iconst 1, 1) := by decide +kernel
theorem dX2_canBeStopped_19 : decode cX2_canBeStopped 19 = .ok (.iand, 1) := by decide +kernel
theorem dX2_canBeStopped_20 : decode cX2_canBeStopped 20 = .ok (.iconst 1, 1) := by decide +kernel
theorem dX2_canBeStopped_21 : decode cX2_canBeStopped 21 = .ok (.if_icmp .ne 26, 3) := by decide +kernel
theorem dX2_canBeStopped_24 : decode cX2_canBeStopped 24 = .ok (.aload_n 0, 1) := by decide +kernel
theorem dX2_canBeStopped_25 : decode cX2_canBeStopped 25 = .ok (.iload 4, 2) := by decide +kernel
theorem dX2_canBeStopped_27 : decode cX2_canBeStopped 27 = .ok (.invokevirtual 61, 3) := by decide +kernel
theorem dX2_canBeStopped_30 : decode cX2_canBeStopped 30 = .ok (.ifCond .eq 5, 3) := by decide +kernel
theorem dX2_canBeStopped_33 : decode cX2_canBeStopped 33 = .ok (.iconst 0, 1) := by decide +kernel
theorem dX2_canBeStopped_34 : decode cX2_canBeStopped 34 = .ok (.ireturn, 1) := by decide +kernel
theorem dX2_canBeStopped_35 : decode cX2_canBeStopped 35 = .ok (.iload_n 3, 1) := by decide +kernel
theorem dX2_canBeStopped_36 : decode cX2_canBeStopped 36 = .ok (.aload_n 0, 1) := by decide +kernel
theorem dX2_canBeStopped_37 : decode cX2_canBeStopped 37 = .ok (.getfield 30, 3) := by decide +kernel
theorem dX2_canBeStopped_40 : decode cX2_canBeStopped 40 = .ok (.iload 4, 2) := by decide +kernel
theorem dX2_canBeStopped_42 : decode cX2_canBeStopped 42 = .ok (.invokestatic 37, 3) := by decide +kernel
theorem dX2_canBeStopped_45 : decode cX2_canBeStopped 45 = .ok (.iadd, 1) := by decide +kernel
theorem dX2_canBeStopped_46 : decode cX2_canBeStopped 46 = .ok (.istore_n 3, 1) := by decide +kernel
theorem dX2_canBeStopped_47 : decode cX2_canBeStopped 47 = .ok (.iinc 4 1, 3) := by decide +kernel
theorem dX2_canBeStopped_50 : decode cX2_canBeStopped 50 = .ok (.goto (-45), 3) := by decide +kernel
theorem dX2_canBeStopped_53 : decode cX2_canBeStopped 53 = .ok (.iload_n 1, 1) := by decide +kernel
theorem dX2_canBeStopped_54 : decode cX2_canBeStopped 54 = .ok (.invokestatic 65, 3) := by decide +kernel
theorem dX2_canBeStopped_57 : decode cX2_canBeStopped 57 = .ok (.iconst 3, 1) := by decide +kernel
theorem dX2_canBeStopped_58 : decode cX2_canBeStopped 58 = .ok (.if_icmp .gt 12, 3) := by decide +kernel
theorem dX2_canBeStopped_61 : decode cX2_canBeStopped 61 = .ok (.iload_n 3, 1) := by decide +kernel
theorem dX2_canBeStopped_62 : decode cX2_canBeStopped 62 = .ok (.iload_n 2, 1) := by decide +kernel
theorem dX2_canBeStopped_63 : decode cX2_canBeStopped 63 = .ok (.if_icmp .gt 7, 3) := by decide +kernel
theorem dX2_canBeStopped_66 : decode cX2_canBeStopped 66 = .ok (.iconst 1, 1) := by decide +kernel
theorem dX2_canBeStopped_67 : decode cX2_canBeStopped 67 = .ok (.goto 4, 3) := by decide +kernel
theorem dX2_canBeStopped_70 : decode cX2_canBeStopped 70 = .ok (.iconst 0, 1) := by decide +kernel
theorem dX2_canBeStopped_71 : decode cX2_canBeStopped 71 = .ok (.ireturn, 1) := by decide +kernel
theorem dX2_outsidePush_0 : decode cX2_outsidePush 0 = .ok (.aload_n 2, 1) := by decide +kernel
theorem dX2_outsidePush_1 : decode cX2_outsidePush 1 = .ok (.aload_n 0, 1) := by decide +kernel
theorem dX2_outsidePush_2 : decode cX2_outsidePush 2 = .ok (.getfield 27, 3) := by decide +kernel
theorem dX2_outsidePush_5 : decode cX2_outsidePush 5 = .ok (.iload_n 1, 1) := by decide +kernel
theorem dX2_outsidePush_6 : decode cX2_outsidePush 6 = .ok (.invokestatic 37, 3) := by decide +kernel
theorem dX2_outsidePush_9 : decode cX2_outsidePush 9 = .ok (.invokevirtual 71, 3) := by decide +kernel
theorem dX2_outsidePush_12 : decode cX2_outsidePush 12 = .ok (.istore_n 3, 1) := by decide +kernel
theorem dX2_outsidePush_13 : decode cX2_outsidePush 13 = .ok (.aload_n 2, 1) := by decide +kernel
theorem dX2_outsidePush_14 : decode cX2_outsidePush 14 = .ok (.getfield 76, 3) := by decide +kernel
theorem dX2_outsidePush_17 : decode cX2_outsidePush 17 = .ok (.iconst 5, 1) := by decide +kernel
theorem dX2_outsidePush_18 : decode cX2_outsidePush 18 = .ok (.aload_n 0, 1) := by decide +kernel
theorem dX2_outsidePush_19 : decode cX2_outsidePush 19 = .ok (.getfield 24, 3) := by decide +kernel
theorem dX2_outsidePush_22 : decode cX2_outsidePush 22 = .ok (.iload_n 1, 1) := by decide +kernel
theorem dX2_outsidePush_23 : decode cX2_outsidePush 23 = .ok (.invokestatic 37, 3) := by decide +kernel
theorem dX2_outsidePush_26 : decode cX2_outsidePush 26 = .ok (.isub, 1) := by decide +kernel
theorem dX2_outsidePush_27 : decode cX2_outsidePush 27 = .ok (.imul, 1) := by decide +kernel
theorem dX2_outsidePush_28 : decode cX2_outsidePush 28 = .ok (.iload_n 3, 1) := by decide +kernel
theorem dX2_outsidePush_29 : decode cX2_outsidePush 29 = .ok (.iadd, 1) := by decide +kernel
theorem dX2_outsidePush_30 : decode cX2_outsidePush 30 = .ok (.istore 4, 2) := by decide +kernel
theorem dX2_outsidePush_32 : decode cX2_outsidePush 32 = .ok (.iload 4, 2) := by decide +kernel
theorem dX2_outsidePush_34 : decode cX2_outsidePush 34 = .ok (.aload_n 2, 1) := by decide +kernel
theorem dX2_outsidePush_35 : decode cX2_outsidePush 35 = .ok (.getfield 76, 3) := by decide +kernel
theorem dX2_outsidePush_38 : decode cX2_outsidePush 38 = .ok (.isub, 1) := by decide +kernel
theorem dX2_outsidePush_39 : decode cX2_outsidePush 39 = .ok (.istore 5, 2) := by decide +kernel
theorem dX2_outsidePush_41 : decode cX2_outsidePush 41 = .ok (.iload 5, 2) := by decide +kernel
theorem dX2_outsidePush_43 : decode cX2_outsidePush 43 = .ok (.iconst 3, 1) := by decide +kernel
theorem dX2_outsidePush_44 : decode cX2_outsidePush 44 = .ok (.aload_n 2, 1) := by decide +kernel
theorem dX2_outsidePush_45 : decode cX2_outsidePush 45 = .ok (.getfield 76, 3) := by decide +kernel
theorem dX2_outsidePush_48 : decode cX2_outsidePush 48 = .ok (.imul, 1) := by decide +kernel
theorem dX2_outsidePush_49 : decode cX2_outsidePush 49 = .ok (.isub, 1) := by decide +kernel
theorem dX2_outsidePush_50 : decode cX2_outsidePush 50 = .ok (.iconst 2, 1) := by decide +kernel
theorem dX2_outsidePush_51 : decode cX2_outsidePush 51 = .ok (.aload_n 2, 1) := by decide +kernel
theorem dX2_outsidePush_52 : decode cX2_outsidePush 52 = .ok (.getfield 79, 3) := by decide +kernel
theorem dX2_outsidePush_55 : decode cX2_outsidePush 55 = .ok (.imul, 1) := by decide +kernel
theorem dX2_outsidePush_56 : decode cX2_outsidePush 56 = .ok (.isub, 1) := by decide +kernel
theorem dX2_outsidePush_57 : decode cX2_outsidePush 57 = .ok (.istore 6, 2) := by decide +kernel
theorem dX2_outsidePush_59 : decode cX2_outsidePush 59 = .ok (.aload_n 0, 1) := by decide +kernel
theorem dX2_outsidePush_60 : decode cX2_outsidePush 60 = .ok (.getfield 18, 3) := by decide +kernel
theorem dX2_outsidePush_63 : decode cX2_outsidePush 63 = .ok (.iload_n 1, 1) := by decide +kernel
theorem dX2_outsidePush_64 : decode cX2_outsidePush 64 = .ok (.invokestatic 37, 3) := by decide +kernel
theorem dX2_outsidePush_67 : decode cX2_outsidePush 67 = .ok (.tableswitch 70 1 6 #[37, 45, 48, 53, 56, 64], 37) := by decide +kernel
theorem dX2_outsidePush_104 : decode cX2_outsidePush 104 = .ok (.iload 4, 2) := by decide +kernel
theorem dX2_outsidePush_106 : decode cX2_outsidePush 106 = .ok (.aload_n 2, 1) := by decide +kernel
theorem dX2_outsidePush_107 : decode cX2_outsidePush 107 = .ok (.getfield 76, 3) := by decide +kernel
theorem dX2_outsidePush_110 : decode cX2_outsidePush 110 = .ok (.iadd, 1) := by decide +kernel
theorem dX2_outsidePush_111 : decode cX2_outsidePush 111 = .ok (.ireturn, 1) := by decide +kernel
theorem dX2_outsidePush_112 : decode cX2_outsidePush 112 = .ok (.iload 5, 2) := by decide +kernel
theorem dX2_outsidePush_114 : decode cX2_outsidePush 114 = .ok (.ireturn, 1) := by decide +kernel
theorem dX2_outsidePush_115 : decode cX2_outsidePush 115 = .ok (.iload 4, 2) := by decide +kernel
theorem dX2_outsidePush_117 : decode cX2_outsidePush 117 = .ok (.iload_n 3, 1) := by decide +kernel
theorem dX2_outsidePush_118 : decode cX2_outsidePush 118 = .ok (.iadd, 1) := by decide +kernel
theorem dX2_outsidePush_119 : decode cX2_outsidePush 119 = .ok (.ireturn, 1) := by decide +kernel
theorem dX2_outsidePush_120 : decode cX2_outsidePush 120 = .ok (.iload 6, 2) := by decide +kernel
theorem dX2_outsidePush_122 : decode cX2_outsidePush 122 = .ok (.ireturn, 1) := by decide +kernel
theorem dX2_outsidePush_123 : decode cX2_outsidePush 123 = .ok (.iload 4, 2) := by decide +kernel
theorem dX2_outsidePush_125 : decode cX2_outsidePush 125 = .ok (.aload_n 2, 1) := by decide +kernel
theorem dX2_outsidePush_126 : decode cX2_outsidePush 126 = .ok (.getfield 82, 3) := by decide +kernel
theorem dX2_outsidePush_129 : decode cX2_outsidePush 129 = .ok (.iadd, 1) := by decide +kernel
theorem dX2_outsidePush_130 : decode cX2_outsidePush 130 = .ok (.ireturn, 1) := by decide +kernel
theorem dX2_outsidePush_131 : decode cX2_outsidePush 131 = .ok (.iload 6, 2) := by decide +kernel
theorem dX2_outsidePush_133 : decode cX2_outsidePush 133 = .ok (.bipush 20, 2) := by decide +kernel
theorem dX2_outsidePush_135 : decode cX2_outsidePush 135 = .ok (.isub, 1) := by decide +kernel
theorem dX2_outsidePush_136 : decode cX2_outsidePush 136 = .ok (.ireturn, 1) := by decide +kernel
theorem dX2_outsidePush_137 : decode cX2_outsidePush 137 = .ok (.iload 4, 2) := by decide +kernel
theorem dX2_outsidePush_139 : decode cX2_outsidePush 139 = .ok (.ireturn, 1) := by decide +kernel
theorem dX3_init_0 : decode cX3_init 0 = .ok (.aload_n 0, 1) := by decide +kernel
theorem dX3_init_1 : decode cX3_init 1 = .ok (.invokespecial 3, 3) := by decide +kernel
theorem dX3_init_4 : decode cX3_init 4 = .ok (.aload_n 0, 1) := by decide +kernel
theorem dX3_init_5 : decode cX3_init 5 = .ok (.aload_n 1, 1) := by decide +kernel
theorem dX3_init_6 : decode cX3_init 6 = .ok (.putfield 9, 3) := by decide +kernel
theorem dX3_init_9 : decode cX3_init 9 = .ok (.aload_n 0, 1) := by decide +kernel
theorem dX3_init_10 : decode cX3_init 10 = .ok (.new 15, 3) := by decide +kernel
theorem dX3_init_13 : decode cX3_init 13 = .ok (.dup, 1) := by decide +kernel
theorem dX3_init_14 : decode cX3_init 14 = .ok (.bipush 6, 2) := by decide +kernel
theorem dX3_init_16 : decode cX3_init 16 = .ok (.invokespecial 17, 3) := by decide +kernel
theorem dX3_init_19 : decode cX3_init 19 = .ok (.putfield 20, 3) := by decide +kernel
theorem dX3_init_22 : decode cX3_init 22 = .ok (.return_, 1) := by decide +kernel
theorem dX3_faultOfLetters_0 : decode cX3_faultOfLetters 0 = .ok (.aload_n 0, 1) := by decide +kernel
theorem dX3_faultOfLetters_1 : decode cX3_faultOfLetters 1 = .ok (.iconst 0, 1) := by decide +kernel
theorem dX3_faultOfLetters_2 : decode cX3_faultOfLetters 2 = .ok (.putfield 24, 3) := by decide +kernel
theorem dX3_faultOfLetters_5 : decode cX3_faultOfLetters 5 = .ok (.aload_n 0, 1) := by decide +kernel
theorem dX3_faultOfLetters_6 : decode cX3_faultOfLetters 6 = .ok (.invokevirtual 28, 3) := by decide +kernel
theorem dX3_faultOfLetters_9 : decode cX3_faultOfLetters 9 = .ok (.istore_n 1, 1) := by decide +kernel
theorem dX3_faultOfLetters_10 : decode cX3_faultOfLetters 10 = .ok (.iconst 0, 1) := by decide +kernel
theorem dX3_faultOfLetters_11 : decode cX3_faultOfLetters 11 = .ok (.istore_n 2, 1) := by decide +kernel
theorem dX3_faultOfLetters_12 : decode cX3_faultOfLetters 12 = .ok (.iload_n 2, 1) := by decide +kernel
theorem dX3_faultOfLetters_13 : decode cX3_faultOfLetters 13 = .ok (.bipush 80, 2) := by decide +kernel
theorem dX3_faultOfLetters_15 : decode cX3_faultOfLetters 15 = .ok (.if_icmp .ge 35, 3) := by decide +kernel
theorem dX3_faultOfLetters_18 : decode cX3_faultOfLetters 18 = .ok (.iload_n 1, 1) := by decide +kernel
theorem dX3_faultOfLetters_19 : decode cX3_faultOfLetters 19 = .ok (.ifCond .eq 31, 3) := by decide +kernel
theorem dX3_faultOfLetters_22 : decode cX3_faultOfLetters 22 = .ok (.aload_n 0, 1) := by decide +kernel
theorem dX3_faultOfLetters_23 : decode cX3_faultOfLetters 23 = .ok (.getfield 24, 3) := by decide +kernel
theorem dX3_faultOfLetters_26 : decode cX3_faultOfLetters 26 = .ok (.aload_n 0, 1) := by decide +kernel
theorem dX3_faultOfLetters_27 : decode cX3_faultOfLetters 27 = .ok (.getfield 9, 3) := by decide +kernel
theorem dX3_faultOfLetters_30 : decode cX3_faultOfLetters 30 = .ok (.getfield 32, 3) := by decide +kernel
theorem dX3_faultOfLetters_33 : decode cX3_faultOfLetters 33 = .ok (.getfield 37, 3) := by decide +kernel
theorem dX3_faultOfLetters_36 : decode cX3_faultOfLetters 36 = .ok (.if_icmp .ge 14, 3) := by decide +kernel
theorem dX3_faultOfLetters_39 : decode cX3_faultOfLetters 39 = .ok (.aload_n 0, 1) := by decide +kernel
theorem dX3_faultOfLetters_40 : decode cX3_faultOfLetters 40 = .ok (.invokevirtual 28, 3) := by decide +kernel
theorem dX3_faultOfLetters_43 : decode cX3_faultOfLetters 43 = .ok (.istore_n 1, 1) := by decide +kernel
theorem dX3_faultOfLetters_44 : decode cX3_faultOfLetters 44 = .ok (.iinc 2 1, 3) := by decide +kernel
theorem dX3_faultOfLetters_47 : decode cX3_faultOfLetters 47 = .ok (.goto (-35), 3) := by decide +kernel
theorem dX3_faultOfLetters_50 : decode cX3_faultOfLetters 50 = .ok (.iload_n 1, 1) := by decide +kernel
theorem dX3_faultOfLetters_51 : decode cX3_faultOfLetters 51 = .ok (.ifCond .eq 7, 3) := by decide +kernel
theorem dX3_faultOfLetters_54 : decode cX3_faultOfLetters 54 = .ok (.iconst 0, 1) := by decide +kernel
theorem dX3_faultOfLetters_55 : decode cX3_faultOfLetters 55 = .ok (.goto 11, 3) := by decide +kernel
theorem dX3_faultOfLetters_58 : decode cX3_faultOfLetters 58 = .ok (.sipush (-1000), 3) := by decide +kernel
theorem dX3_faultOfLetters_61 : decode cX3_faultOfLetters 61 = .ok (.aload_n 0, 1) := by decide +kernel
theorem dX3_faultOfLetters_62 : decode cX3_faultOfLetters 62 = .ok (.getfield 24, 3) := by decide +kernel
theorem dX3_faultOfLetters_65 : decode cX3_faultOfLetters 65 = .ok (.isub, 1) := by decide +kernel
theorem dX3_faultOfLetters_66 : decode cX3_faultOfLetters 66 = .ok (.ireturn, 1) := by decide +kernel
theorem dX3_takeStatements_0 : decode cX3_takeStatements 0 = .ok (.aload_n 0, 1) := by decide +kernel
theorem dX3_takeStatements_1 : decode cX3_takeStatements 1 = .ok (.getfield 9, 3) := by decide +kernel
theorem dX3_takeStatements_4 : decode cX3_takeStatements 4 = .ok (.getfield 40, 3) := by decide +kernel
theorem dX3_takeStatements_7 : decode cX3_takeStatements 7 = .ok (.istore_n 1, 1) := by decide +kernel
theorem dX3_takeStatements_8 : decode cX3_takeStatements 8 = .ok (.aload_n 0, 1) := by decide +kernel
theorem dX3_takeStatements_9 : decode cX3_takeStatements 9 = .ok (.getfield 9, 3) := by decide +kernel
theorem dX3_takeStatements_12 : decode cX3_takeStatements 12 = .ok (.getfield 43, 3) := by decide +kernel
theorem dX3_takeStatements_15 : decode cX3_takeStatements 15 = .ok (.getfield 47, 3) := by decide +kernel
theorem dX3_takeStatements_18 : decode cX3_takeStatements 18 = .ok (.istore_n 2, 1) := by decide +kernel
theorem dX3_takeStatements_19 : decode cX3_takeStatements 19 = .ok (.aload_n 0, 1) := by decide +kernel
theorem dX3_takeStatements_20 : decode cX3_takeStatements 20 = .ok (.getfield 9, 3) := by decide +kernel
theorem dX3_takeStatements_23 : decode cX3_takeStatements 23 = .ok (.getfield 50, 3) := by decide +kernel
theorem dX3_takeStatements_26 : decode cX3_takeStatements 26 = .ok (.getfield 54, 3) := by decide +kernel
theorem dX3_takeStatements_29 : decode cX3_takeStatements 29 = .ok (.istore_n 3, 1) := by decide +kernel
theorem dX3_takeStatements_30 : decode cX3_takeStatements 30 = .ok (.iconst 0, 1) := by decide +kernel
theorem dX3_takeStatements_31 : decode cX3_takeStatements 31 = .ok (.istore 4, 2) := by decide +kernel
theorem dX3_takeStatements_33 : decode cX3_takeStatements 33 = .ok (.aload_n 0, 1) := by decide +kernel
theorem dX3_takeStatements_34 : decode cX3_takeStatements 34 = .ok (.iconst 0, 1) := by decide +kernel
theorem dX3_takeStatements_35 : decode cX3_takeStatements 35 = .ok (.putfield 24, 3) := by decide +kernel
theorem dX3_takeStatements_38 : decode cX3_takeStatements 38 = .ok (.iconst 0, 1) := by decide +kernel
theorem dX3_takeStatements_39 : decode cX3_takeStatements 39 = .ok (.istore 5, 2) := by decide +kernel
theorem dX3_takeStatements_41 : decode cX3_takeStatements 41 = .ok (.iload 5, 2) := by decide +kernel
theorem dX3_takeStatements_43 : decode cX3_takeStatements 43 = .ok (.bipush 80, 2) := by decide +kernel
theorem dX3_takeStatements_45 : decode cX3_takeStatements 45 = .ok (.if_icmp .ge 86, 3) := by decide +kernel
theorem dX3_takeStatements_48 : decode cX3_takeStatements 48 = .ok (.aload_n 0, 1) := by decide +kernel
theorem dX3_takeStatements_49 : decode cX3_takeStatements 49 = .ok (.getfield 24, 3) := by decide +kernel
theorem dX3_takeStatements_52 : decode cX3_takeStatements 52 = .ok (.aload_n 0, 1) := by decide +kernel
theorem dX3_takeStatements_53 : decode cX3_takeStatements 53 = .ok (.getfield 9, 3) := by decide +kernel
theorem dX3_takeStatements_56 : decode cX3_takeStatements 56 = .ok (.getfield 32, 3) := by decide +kernel
theorem dX3_takeStatements_59 : decode cX3_takeStatements 59 = .ok (.getfield 37, 3) := by decide +kernel
theorem dX3_takeStatements_62 : decode cX3_takeStatements 62 = .ok (.if_icmp .ge 69, 3) := by decide +kernel
theorem dX3_takeStatements_65 : decode cX3_takeStatements 65 = .ok (.aload_n 0, 1) := by decide +kernel
theorem dX3_takeStatements_66 : decode cX3_takeStatements 66 = .ok (.getfield 24, 3) := by decide +kernel
theorem dX3_takeStatements_69 : decode cX3_takeStatements 69 = .ok (.istore 6, 2) := by decide +kernel
theorem dX3_takeStatements_71 : decode cX3_takeStatements 71 = .ok (.aload_n 0, 1) := by decide +kernel
theorem dX3_takeStatements_72 : decode cX3_takeStatements 72 = .ok (.invokevirtual 28, 3) := by decide +kernel
theorem dX3_takeStatements_75 : decode cX3_takeStatements 75 = .ok (.ifCond .eq 10, 3) := by decide +kernel
theorem dX3_takeStatements_78 : decode cX3_takeStatements 78 = .ok (.aload_n 0, 1) := by decide +kernel
theorem dX3_takeStatements_79 : decode cX3_takeStatements 79 = .ok (.invokevirtual 57, 3) := by decide +kernel
theorem dX3_takeStatements_82 : decode cX3_takeStatements 82 = .ok (.ifCond .ne 40, 3) := by decide +kernel
theorem dX3_takeStatements_85 : decode cX3_takeStatements 85 = .ok (.aload_n 0, 1) := by decide +kernel
theorem dX3_takeStatements_86 : decode cX3_takeStatements 86 = .ok (.getfield 9, 3) := by decide +kernel
theorem dX3_takeStatements_89 : decode cX3_takeStatements 89 = .ok (.iload_n 1, 1) := by decide +kernel
theorem dX3_takeStatements_90 : decode cX3_takeStatements 90 = .ok (.putfield 40, 3) := by decide +kernel
theorem dX3_takeStatements_93 : decode cX3_takeStatements 93 = .ok (.aload_n 0, 1) := by decide +kernel
theorem dX3_takeStatements_94 : decode cX3_takeStatements 94 = .ok (.getfield 9, 3) := by decide +kernel
theorem dX3_takeStatements_97 : decode cX3_takeStatements 97 = .ok (.getfield 43, 3) := by decide +kernel
theorem dX3_takeStatements_100 : decode cX3_takeStatements 100 = .ok (.iload_n 2, 1) := by decide +kernel
theorem dX3_takeStatements_101 : decode cX3_takeStatements 101 = .ok (.putfield 47, 3) := by decide +kernel
theorem dX3_takeStatements_104 : decode cX3_takeStatements 104 = .ok (.aload_n 0, 1) := by decide +kernel
theorem dX3_takeStatements_105 : decode cX3_takeStatements 105 = .ok (.getfield 9, 3) := by decide +kernel
theorem dX3_takeStatements_108 : decode cX3_takeStatements 108 = .ok (.getfield 50, 3) := by decide +kernel
theorem dX3_takeStatements_111 : decode cX3_takeStatements 111 = .ok (.iload_n 3, 1) := by decide +kernel
theorem dX3_takeStatements_112 : decode cX3_takeStatements 112 = .ok (.putfield 54, 3) := by decide +kernel
theorem dX3_takeStatements_115 : decode cX3_takeStatements 115 = .ok (.sipush (-2000), 3) := by decide +kernel
theorem dX3_takeStatements_118 : decode cX3_takeStatements 118 = .ok (.iload 6, 2) := by decide +kernel
theorem dX3_takeStatements_120 : decode cX3_takeStatements 120 = .ok (.isub, 1) := by decide +kernel
theorem dX3_takeStatements_121 : decode cX3_takeStatements 121 = .ok (.ireturn, 1) := by decide +kernel
theorem dX3_takeStatements_122 : decode cX3_takeStatements 122 = .ok (.iinc 4 1, 3) := by decide +kernel
theorem dX3_takeStatements_125 : decode cX3_takeStatements 125 = .ok (.iinc 5 1, 3) := by decide +kernel
theorem dX3_takeStatements_128 : decode cX3_takeStatements 128 = .ok (.goto (-87), 3) := by decide +kernel
theorem dX3_takeStatements_131 : decode cX3_takeStatements 131 = .ok (.iload 4, 2) := by decide +kernel
theorem dX3_takeStatements_133 : decode cX3_takeStatements 133 = .ok (.ireturn, 1) := by decide +kernel
theorem dX3_passStatement_0 : decode cX3_passStatement 0 = .ok (.aload_n 0, 1) := by decide +kernel
theorem dX3_passStatement_1 : decode cX3_passStatement 1 = .ok (.getfield 20, 3) := by decide +kernel
theorem dX3_passStatement_4 : decode cX3_passStatement 4 = .ok (.invokevirtual 60, 3) := by decide +kernel
theorem dX3_passStatement_7 : decode cX3_passStatement 7 = .ok (.aload_n 0, 1) := by decide +kernel
theorem dX3_passStatement_8 : decode cX3_passStatement 8 = .ok (.aload_n 0, 1) := by decide +kernel
theorem dX3_passStatement_9 : decode cX3_passStatement 9 = .ok (.getfield 9, 3) := by decide +kernel
theorem dX3_passStatement_12 : decode cX3_passStatement 12 = .ok (.getfield 32, 3) := by decide +kernel
theorem dX3_passStatement_15 : decode cX3_passStatement 15 = .ok (.aload_n 0, 1) := by decide +kernel
theorem dX3_passStatement_16 : decode cX3_passStatement 16 = .ok (.getfield 24, 3) := by decide +kernel
theorem dX3_passStatement_19 : decode cX3_passStatement 19 = .ok (.invokevirtual 63, 3) := by decide +kernel
theorem dX3_passStatement_22 : decode cX3_passStatement 22 = .ok (.putfield 67, 3) := by decide +kernel
theorem dX3_passStatement_25 : decode cX3_passStatement 25 = .ok (.aload_n 0, 1) := by decide +kernel
theorem dX3_passStatement_26 : decode cX3_passStatement 26 = .ok (.getfield 67, 3) := by decide +kernel
theorem dX3_passStatement_29 : decode cX3_passStatement 29 = .ok (.invokestatic 70, 3) := by decide +kernel
theorem dX3_passStatement_32 : decode cX3_passStatement 32 = .ok (.astore_n 1, 1) := by decide +kernel
theorem dX3_passStatement_33 : decode cX3_passStatement 33 = .ok (.aload_n 1, 1) := by decide +kernel
theorem dX3_passStatement_34 : decode cX3_passStatement 34 = .ok (.invokevirtual 74, 3) := by decide +kernel
theorem dX3_passStatement_37 : decode cX3_passStatement 37 = .ok (.ifCond .eq 5, 3) := by decide +kernel
theorem dX3_passStatement_40 : decode cX3_passStatement 40 = .ok (.iconst 0, 1) := by decide +kernel
theorem dX3_passStatement_41 : decode cX3_passStatement 41 = .ok (.ireturn, 1) := by decide +kernel
theorem dX3_passStatement_42 : decode cX3_passStatement 42 = .ok (.aload_n 0, 1) := by decide +kernel
theorem dX3_passStatement_43 : decode cX3_passStatement 43 = .ok (.dup, 1) := by decide +kernel
theorem dX3_passStatement_44 : decode cX3_passStatement 44 = .ok (.getfield 24, 3) := by decide +kernel
theorem dX3_passStatement_47 : decode cX3_passStatement 47 = .ok (.iconst 1, 1) := by decide +kernel
theorem dX3_passStatement_48 : decode cX3_passStatement 48 = .ok (.iadd, 1) := by decide +kernel
theorem dX3_passStatement_49 : decode cX3_passStatement 49 = .ok (.putfield 24, 3) := by decide +kernel
theorem dX3_passStatement_52 : decode cX3_passStatement 52 = .ok (.iconst 0, 1) := by decide +kernel
theorem dX3_passStatement_53 : decode cX3_passStatement 53 = .ok (.istore_n 2, 1) := by decide +kernel
theorem dX3_passStatement_54 : decode cX3_passStatement 54 = .ok (.iload_n 2, 1) := by decide +kernel
theorem dX3_passStatement_55 : decode cX3_passStatement 55 = .ok (.aload_n 1, 1) := by decide +kernel
theorem dX3_passStatement_56 : decode cX3_passStatement 56 = .ok (.invokevirtual 79, 3) := by decide +kernel
theorem dX3_passStatement_59 : decode cX3_passStatement 59 = .ok (.if_icmp .ge 23, 3) := by decide +kernel
theorem dX3_passStatement_62 : decode cX3_passStatement 62 = .ok (.aload_n 0, 1) := by decide +kernel
theorem dX3_passStatement_63 : decode cX3_passStatement 63 = .ok (.aload_n 1, 1) := by decide +kernel
theorem dX3_passStatement_64 : decode cX3_passStatement 64 = .ok (.iload_n 2, 1) := by decide +kernel
theorem dX3_passStatement_65 : decode cX3_passStatement 65 = .ok (.invokevirtual 83, 3) := by decide +kernel
theorem dX3_passStatement_68 : decode cX3_passStatement 68 = .ok (.invokevirtual 87, 3) := by decide +kernel
theorem dX3_passStatement_71 : decode cX3_passStatement 71 = .ok (.ifCond .ne 5, 3) := by decide +kernel
theorem dX3_passStatement_74 : decode cX3_passStatement 74 = .ok (.iconst 0, 1) := by decide +kernel
theorem dX3_passStatement_75 : decode cX3_passStatement 75 = .ok (.ireturn, 1) := by decide +kernel
theorem dX3_passStatement_76 : decode cX3_passStatement 76 = .ok (.iinc 2 1, 3) := by decide +kernel
theorem dX3_passStatement_79 : decode cX3_passStatement 79 = .ok (.goto (-25), 3) := by decide +kernel
theorem dX3_passStatement_82 : decode cX3_passStatement 82 = .ok (.iconst 1, 1) := by decide +kernel
theorem dX3_passStatement_83 : decode cX3_passStatement 83 = .ok (.ireturn, 1) := by decide +kernel
theorem dX3_shapeBehind_0 : decode cX3_shapeBehind 0 = .ok (.iload_n 0, 1) := by decide +kernel
theorem dX3_shapeBehind_1 : decode cX3_shapeBehind 1 = .ok (.lookupswitch 55 #[(100, 46), (104, 49), (110, 43), (119, 52)], 43) := by decide +kernel
theorem dX3_shapeBehind_44 : decode cX3_shapeBehind 44 = .ok (.ldc 91, 2) := by decide +kernel
theorem dX3_shapeBehind_46 : decode cX3_shapeBehind 46 = .ok (.areturn, 1) := by decide +kernel
theorem dX3_shapeBehind_47 : decode cX3_shapeBehind 47 = .ok (.ldc 93, 2) := by decide +kernel
theorem dX3_shapeBehind_49 : decode cX3_shapeBehind 49 = .ok (.areturn, 1) := by decide +kernel
theorem dX3_shapeBehind_50 : decode cX3_shapeBehind 50 = .ok (.ldc 95, 2) := by decide +kernel
theorem dX3_shapeBehind_52 : decode cX3_shapeBehind 52 = .ok (.areturn, 1) := by decide +kernel
theorem dX3_shapeBehind_53 : decode cX3_shapeBehind 53 = .ok (.ldc 97, 2) := by decide +kernel
theorem dX3_shapeBehind_55 : decode cX3_shapeBehind 55 = .ok (.areturn, 1) := by decide +kernel
theorem dX3_shapeBehind_56 : decode cX3_shapeBehind 56 = .ok (.ldc 99, 2) := by decide +kernel
theorem dX3_shapeBehind_58 : decode cX3_shapeBehind 58 = .ok (.areturn, 1) := by decide +kernel
theorem dX3_passPart_0 : decode cX3_passPart 0 = .ok (.iload_n 1, 1) := by decide +kernel
theorem dX3_passPart_1 : decode cX3_passPart 1 = .ok (.lookupswitch 52 #[(35, 41), (57, 35), (107, 47)], 35) := by decide +kernel
theorem dX3_passPart_36 : decode cX3_passPart 36 = .ok (.aload_n 0, 1) := by decide +kernel
theorem dX3_passPart_37 : decode cX3_passPart 37 = .ok (.iconst 1, 1) := by decide +kernel
theorem dX3_passPart_38 : decode cX3_passPart 38 = .ok (.invokevirtual 101, 3) := by decide +kernel
theorem dX3_passPart_41 : decode cX3_passPart 41 = .ok (.ireturn, 1) := by decide +kernel
theorem dX3_passPart_42 : decode cX3_passPart 42 = .ok (.aload_n 0, 1) := by decide +kernel
theorem dX3_passPart_43 : decode cX3_passPart 43 = .ok (.iconst 2, 1) := by decide +kernel
theorem dX3_passPart_44 : decode cX3_passPart 44 = .ok (.invokevirtual 101, 3) := by decide +kernel
theorem dX3_passPart_47 : decode cX3_passPart 47 = .ok (.ireturn, 1) := by decide +kernel
theorem dX3_passPart_48 : decode cX3_passPart 48 = .ok (.aload_n 0, 1) := by decide +kernel
theorem dX3_passPart_49 : decode cX3_passPart 49 = .ok (.invokevirtual 105, 3) := by decide +kernel
theorem dX3_passPart_52 : decode cX3_passPart 52 = .ok (.ireturn, 1) := by decide +kernel
theorem dX3_passPart_53 : decode cX3_passPart 53 = .ok (.aload_n 0, 1) := by decide +kernel
theorem dX3_passPart_54 : decode cX3_passPart 54 = .ok (.iload_n 1, 1) := by decide +kernel
theorem dX3_passPart_55 : decode cX3_passPart 55 = .ok (.invokevirtual 108, 3) := by decide +kernel
theorem dX3_passPart_58 : decode cX3_passPart 58 = .ok (.ireturn, 1) := by decide +kernel
theorem dX3_passNumber_0 : decode cX3_passNumber 0 = .ok (.iconst 0, 1) := by decide +kernel
theorem dX3_passNumber_1 : decode cX3_passNumber 1 = .ok (.istore_n 2, 1) := by decide +kernel
theorem dX3_passNumber_2 : decode cX3_passNumber 2 = .ok (.iconst 0, 1) := by decide +kernel
theorem dX3_passNumber_3 : decode cX3_passNumber 3 = .ok (.istore_n 3, 1) := by decide +kernel
theorem dX3_passNumber_4 : decode cX3_passNumber 4 = .ok (.iconst 0, 1) := by decide +kernel
theorem dX3_passNumber_5 : decode cX3_passNumber 5 = .ok (.istore 4, 2) := by decide +kernel
theorem dX3_passNumber_7 : decode cX3_passNumber 7 = .ok (.iload 4, 2) := by decide +kernel
theorem dX3_passNumber_9 : decode cX3_passNumber 9 = .ok (.iload_n 1, 1) := by decide +kernel
theorem dX3_passNumber_10 : decode cX3_passNumber 10 = .ok (.if_icmp .ge 66, 3) := by decide +kernel
theorem dX3_passNumber_13 : decode cX3_passNumber 13 = .ok (.aload_n 0, 1) := by decide +kernel
theorem dX3_passNumber_14 : decode cX3_passNumber 14 = .ok (.getfield 9, 3) := by decide +kernel
theorem dX3_passNumber_17 : decode cX3_passNumber 17 = .ok (.getfield 32, 3) := by decide +kernel
theorem dX3_passNumber_20 : decode cX3_passNumber 20 = .ok (.aload_n 0, 1) := by decide +kernel
theorem dX3_passNumber_21 : decode cX3_passNumber 21 = .ok (.getfield 24, 3) := by decide +kernel
theorem dX3_passNumber_24 : decode cX3_passNumber 24 = .ok (.invokevirtual 63, 3) := by decide +kernel
theorem dX3_passNumber_27 : decode cX3_passNumber 27 = .ok (.istore 5, 2) := by decide +kernel
theorem dX3_passNumber_29 : decode cX3_passNumber 29 = .ok (.iload 5, 2) := by decide +kernel
theorem dX3_passNumber_31 : decode cX3_passNumber 31 = .ok (.bipush 48, 2) := by decide +kernel
theorem dX3_passNumber_33 : decode cX3_passNumber 33 = .ok (.if_icmp .lt 43, 3) := by decide +kernel
theorem dX3_passNumber_36 : decode cX3_passNumber 36 = .ok (.iload 5, 2) := by decide +kernel
theorem dX3_passNumber_38 : decode cX3_passNumber 38 = .ok (.bipush 57, 2) := by decide +kernel
theorem dX3_passNumber_40 : decode cX3_passNumber 40 = .ok (.if_icmp .le 6, 3) := by decide +kernel
theorem dX3_passNumber_43 : decode cX3_passNumber 43 = .ok (.goto 33, 3) := by decide +kernel
theorem dX3_passNumber_46 : decode cX3_passNumber 46 = .ok (.bipush 10, 2) := by decide +kernel
theorem dX3_passNumber_48 : decode cX3_passNumber 48 = .ok (.iload_n 2, 1) := by decide +kernel
theorem dX3_passNumber_49 : decode cX3_passNumber 49 = .ok (.imul, 1) := by decide +kernel
theorem dX3_passNumber_50 : decode cX3_passNumber 50 = .ok (.iload 5, 2) := by decide +kernel
theorem dX3_passNumber_52 : decode cX3_passNumber 52 = .ok (.iadd, 1) := by decide +kernel
theorem dX3_passNumber_53 : decode cX3_passNumber 53 = .ok (.bipush 48, 2) := by decide +kernel
theorem dX3_passNumber_55 : decode cX3_passNumber 55 = .ok (.isub, 1) := by decide +kernel
theorem dX3_passNumber_56 : decode cX3_passNumber 56 = .ok (.istore_n 2, 1) := by decide +kernel
theorem dX3_passNumber_57 : decode cX3_passNumber 57 = .ok (.iinc 3 1, 3) := by decide +kernel
theorem dX3_passNumber_60 : decode cX3_passNumber 60 = .ok (.aload_n 0, 1) := by decide +kernel
theorem dX3_passNumber_61 : decode cX3_passNumber 61 = .ok (.dup, 1) := by decide +kernel
theorem dX3_passNumber_62 : decode cX3_passNumber 62 = .ok (.getfield 24, 3) := by decide +kernel
theorem dX3_passNumber_65 : decode cX3_passNumber 65 = .ok (.iconst 1, 1) := by decide +kernel
theorem dX3_passNumber_66 : decode cX3_passNumber 66 = .ok (.iadd, 1) := by decide +kernel
theorem dX3_passNumber_67 : decode cX3_passNumber 67 = .ok (.putfield 24, 3) := by decide +kernel
theorem dX3_passNumber_70 : decode cX3_passNumber 70 = .ok (.iinc 4 1, 3) := by decide +kernel
theorem dX3_passNumber_73 : decode cX3_passNumber 73 = .ok (.goto (-66), 3) := by decide +kernel
theorem dX3_passNumber_76 : decode cX3_passNumber 76 = .ok (.aload_n 0, 1) := by decide +kernel
theorem dX3_passNumber_77 : decode cX3_passNumber 77 = .ok (.getfield 20, 3) := by decide +kernel
theorem dX3_passNumber_80 : decode cX3_passNumber 80 = .ok (.iload_n 2, 1) := by decide +kernel
theorem dX3_passNumber_81 : decode cX3_passNumber 81 = .ok (.invokevirtual 111, 3) := by decide +kernel
theorem dX3_passNumber_84 : decode cX3_passNumber 84 = .ok (.iload_n 3, 1) := by decide +kernel
theorem dX3_passNumber_85 : decode cX3_passNumber 85 = .ok (.ifCond .le 7, 3) := by decide +kernel
theorem dX3_passNumber_88 : decode cX3_passNumber 88 = .ok (.iconst 1, 1) := by decide +kernel
theorem dX3_passNumber_89 : decode cX3_passNumber 89 = .ok (.goto 4, 3) := by decide +kernel
theorem dX3_passNumber_92 : decode cX3_passNumber 92 = .ok (.iconst 0, 1) := by decide +kernel
theorem dX3_passNumber_93 : decode cX3_passNumber 93 = .ok (.ireturn, 1) := by decide +kernel
theorem dX3_passKind_0 : decode cX3_passKind 0 = .ok (.aload_n 0, 1) := by decide +kernel
theorem dX3_passKind_1 : decode cX3_passKind 1 = .ok (.getfield 9, 3) := by decide +kernel
theorem dX3_passKind_4 : decode cX3_passKind 4 = .ok (.getfield 32, 3) := by decide +kernel
theorem dX3_passKind_7 : decode cX3_passKind 7 = .ok (.aload_n 0, 1) := by decide +kernel
theorem dX3_passKind_8 : decode cX3_passKind 8 = .ok (.getfield 24, 3) := by decide +kernel
theorem dX3_passKind_11 : decode cX3_passKind 11 = .ok (.invokevirtual 63, 3) := by decide +kernel
theorem dX3_passKind_14 : decode cX3_passKind 14 = .ok (.istore_n 1, 1) := by decide +kernel
theorem dX3_passKind_15 : decode cX3_passKind 15 = .ok (.iload_n 1, 1) := by decide +kernel
theorem dX3_passKind_16 : decode cX3_passKind 16 = .ok (.ifCond .ge 7, 3) := by decide +kernel
theorem dX3_passKind_19 : decode cX3_passKind 19 = .ok (.iconst (-1), 1) := by decide +kernel
theorem dX3_passKind_20 : decode cX3_passKind 20 = .ok (.goto 10, 3) := by decide +kernel
theorem dX3_passKind_23 : decode cX3_passKind 23 = .ok (.ldc 114, 2) := by decide +kernel
theorem dX3_passKind_25 : decode cX3_passKind 25 = .ok (.iload_n 1, 1) := by decide +kernel
theorem dX3_passKind_26 : decode cX3_passKind 26 = .ok (.i2c, 1) := by decide +kernel
theorem dX3_passKind_27 : decode cX3_passKind 27 = .ok (.invokevirtual 116, 3) := by decide +kernel
theorem dX3_passKind_30 : decode cX3_passKind 30 = .ok (.istore_n 2, 1) := by decide +kernel
theorem dX3_passKind_31 : decode cX3_passKind 31 = .ok (.iload_n 2, 1) := by decide +kernel
theorem dX3_passKind_32 : decode cX3_passKind 32 = .ok (.ifCond .ge 5, 3) := by decide +kernel
theorem dX3_passKind_35 : decode cX3_passKind 35 = .ok (.iconst 0, 1) := by decide +kernel
theorem dX3_passKind_36 : decode cX3_passKind 36 = .ok (.ireturn, 1) := by decide +kernel
theorem dX3_passKind_37 : decode cX3_passKind 37 = .ok (.aload_n 0, 1) := by decide +kernel
theorem dX3_passKind_38 : decode cX3_passKind 38 = .ok (.getfield 20, 3) := by decide +kernel
theorem dX3_passKind_41 : decode cX3_passKind 41 = .ok (.iload_n 2, 1) := by decide +kernel
theorem dX3_passKind_42 : decode cX3_passKind 42 = .ok (.invokevirtual 111, 3) := by decide +kernel
theorem dX3_passKind_45 : decode cX3_passKind 45 = .ok (.aload_n 0, 1) := by decide +kernel
theorem dX3_passKind_46 : decode cX3_passKind 46 = .ok (.dup, 1) := by decide +kernel
theorem dX3_passKind_47 : decode cX3_passKind 47 = .ok (.getfield 24, 3) := by decide +kernel
theorem dX3_passKind_50 : decode cX3_passKind 50 = .ok (.iconst 1, 1) := by decide +kernel
theorem dX3_passKind_51 : decode cX3_passKind 51 = .ok (.iadd, 1) := by decide +kernel
theorem dX3_passKind_52 : decode cX3_passKind 52 = .ok (.putfield 24, 3) := by decide +kernel
theorem dX3_passKind_55 : decode cX3_passKind 55 = .ok (.iconst 1, 1) := by decide +kernel
theorem dX3_passKind_56 : decode cX3_passKind 56 = .ok (.ireturn, 1) := by decide +kernel
theorem dX3_passSign_0 : decode cX3_passSign 0 = .ok (.aload_n 0, 1) := by decide +kernel
theorem dX3_passSign_1 : decode cX3_passSign 1 = .ok (.getfield 9, 3) := by decide +kernel
theorem dX3_passSign_4 : decode cX3_passSign 4 = .ok (.getfield 32, 3) := by decide +kernel
theorem dX3_passSign_7 : decode cX3_passSign 7 = .ok (.aload_n 0, 1) := by decide +kernel
theorem dX3_passSign_8 : decode cX3_passSign 8 = .ok (.getfield 24, 3) := by decide +kernel
theorem dX3_passSign_11 : decode cX3_passSign 11 = .ok (.invokevirtual 63, 3) := by decide +kernel
theorem dX3_passSign_14 : decode cX3_passSign 14 = .ok (.iload_n 1, 1) := by decide +kernel
theorem dX3_passSign_15 : decode cX3_passSign 15 = .ok (.if_icmp .eq 5, 3) := by decide +kernel
theorem dX3_passSign_18 : decode cX3_passSign 18 = .ok (.iconst 0, 1) := by decide +kernel
theorem dX3_passSign_19 : decode cX3_passSign 19 = .ok (.ireturn, 1) := by decide +kernel
theorem dX3_passSign_20 : decode cX3_passSign 20 = .ok (.aload_n 0, 1) := by decide +kernel
theorem dX3_passSign_21 : decode cX3_passSign 21 = .ok (.dup, 1) := by decide +kernel
theorem dX3_passSign_22 : decode cX3_passSign 22 = .ok (.getfield 24, 3) := by decide +kernel
theorem dX3_passSign_25 : decode cX3_passSign 25 = .ok (.iconst 1, 1) := by decide +kernel
theorem dX3_passSign_26 : decode cX3_passSign 26 = .ok (.iadd, 1) := by decide +kernel
theorem dX3_passSign_27 : decode cX3_passSign 27 = .ok (.putfield 24, 3) := by decide +kernel
theorem dX3_passSign_30 : decode cX3_passSign 30 = .ok (.iconst 1, 1) := by decide +kernel
theorem dX3_passSign_31 : decode cX3_passSign 31 = .ok (.ireturn, 1) := by decide +kernel
theorem dX3_takeStatement_0 : decode cX3_takeStatement 0 = .ok (.aload_n 0, 1) := by decide +kernel
theorem dX3_takeStatement_1 : decode cX3_takeStatement 1 = .ok (.getfield 67, 3) := by decide +kernel
theorem dX3_takeStatement_4 : decode cX3_takeStatement 4 = .ok (.lookupswitch 83 #[(100, 49), (104, 78), (110, 36)], 36) := by decide +kernel
theorem dX3_takeStatement_40 : decode cX3_takeStatement 40 = .ok (.aload_n 0, 1) := by decide +kernel
theorem dX3_takeStatement_41 : decode cX3_takeStatement 41 = .ok (.aload_n 0, 1) := by decide +kernel
theorem dX3_takeStatement_42 : decode cX3_takeStatement 42 = .ok (.getfield 20, 3) := by decide +kernel
theorem dX3_takeStatement_45 : decode cX3_takeStatement 45 = .ok (.iconst 0, 1) := by decide +kernel
theorem dX3_takeStatement_46 : decode cX3_takeStatement 46 = .ok (.invokevirtual 63, 3) := by decide +kernel
theorem dX3_takeStatement_49 : decode cX3_takeStatement 49 = .ok (.invokevirtual 119, 3) := by decide +kernel
theorem dX3_takeStatement_52 : decode cX3_takeStatement 52 = .ok (.ireturn, 1) := by decide +kernel
theorem dX3_takeStatement_53 : decode cX3_takeStatement 53 = .ok (.aload_n 0, 1) := by decide +kernel
theorem dX3_takeStatement_54 : decode cX3_takeStatement 54 = .ok (.aload_n 0, 1) := by decide +kernel
theorem dX3_takeStatement_55 : decode cX3_takeStatement 55 = .ok (.getfield 20, 3) := by decide +kernel
theorem dX3_takeStatement_58 : decode cX3_takeStatement 58 = .ok (.iconst 0, 1) := by decide +kernel
theorem dX3_takeStatement_59 : decode cX3_takeStatement 59 = .ok (.invokevirtual 63, 3) := by decide +kernel
theorem dX3_takeStatement_62 : decode cX3_takeStatement 62 = .ok (.aload_n 0, 1) := by decide +kernel
theorem dX3_takeStatement_63 : decode cX3_takeStatement 63 = .ok (.getfield 20, 3) := by decide +kernel
theorem dX3_takeStatement_66 : decode cX3_takeStatement 66 = .ok (.iconst 1, 1) := by decide +kernel
theorem dX3_takeStatement_67 : decode cX3_takeStatement 67 = .ok (.invokevirtual 63, 3) := by decide +kernel
theorem dX3_takeStatement_70 : decode cX3_takeStatement 70 = .ok (.aload_n 0, 1) := by decide +kernel
theorem dX3_takeStatement_71 : decode cX3_takeStatement 71 = .ok (.getfield 20, 3) := by decide +kernel
theorem dX3_takeStatement_74 : decode cX3_takeStatement 74 = .ok (.iconst 2, 1) := by decide +kernel
theorem dX3_takeStatement_75 : decode cX3_takeStatement 75 = .ok (.invokevirtual 63, 3) := by decide +kernel
theorem dX3_takeStatement_78 : decode cX3_takeStatement 78 = .ok (.invokevirtual 122, 3) := by decide +kernel
theorem dX3_takeStatement_81 : decode cX3_takeStatement 81 = .ok (.ireturn, 1) := by decide +kernel
theorem dX3_takeStatement_82 : decode cX3_takeStatement 82 = .ok (.aload_n 0, 1) := by decide +kernel
theorem dX3_takeStatement_83 : decode cX3_takeStatement 83 = .ok (.invokevirtual 126, 3) := by decide +kernel
theorem dX3_takeStatement_86 : decode cX3_takeStatement 86 = .ok (.ireturn, 1) := by decide +kernel
theorem dX3_takeStatement_87 : decode cX3_takeStatement 87 = .ok (.aload_n 0, 1) := by decide +kernel
theorem dX3_takeStatement_88 : decode cX3_takeStatement 88 = .ok (.aload_n 0, 1) := by decide +kernel
theorem dX3_takeStatement_89 : decode cX3_takeStatement 89 = .ok (.getfield 20, 3) := by decide +kernel
theorem dX3_takeStatement_92 : decode cX3_takeStatement 92 = .ok (.iconst 0, 1) := by decide +kernel
theorem dX3_takeStatement_93 : decode cX3_takeStatement 93 = .ok (.invokevirtual 63, 3) := by decide +kernel
theorem dX3_takeStatement_96 : decode cX3_takeStatement 96 = .ok (.aload_n 0, 1) := by decide +kernel
theorem dX3_takeStatement_97 : decode cX3_takeStatement 97 = .ok (.getfield 20, 3) := by decide +kernel
theorem dX3_takeStatement_100 : decode cX3_takeStatement 100 = .ok (.iconst 1, 1) := by decide +kernel
theorem dX3_takeStatement_101 : decode cX3_takeStatement 101 = .ok (.invokevirtual 63, 3) := by decide +kernel
theorem dX3_takeStatement_104 : decode cX3_takeStatement 104 = .ok (.aload_n 0, 1) := by decide +kernel
theorem dX3_takeStatement_105 : decode cX3_takeStatement 105 = .ok (.getfield 20, 3) := by decide +kernel
theorem dX3_takeStatement_108 : decode cX3_takeStatement 108 = .ok (.iconst 2, 1) := by decide +kernel
theorem dX3_takeStatement_109 : decode cX3_takeStatement 109 = .ok (.invokevirtual 63, 3) := by decide +kernel
theorem dX3_takeStatement_112 : decode cX3_takeStatement 112 = .ok (.invokevirtual 129, 3) := by decide +kernel
theorem dX3_takeStatement_115 : decode cX3_takeStatement 115 = .ok (.ireturn, 1) := by decide +kernel
theorem dX3_takeRooms_0 : decode cX3_takeRooms 0 = .ok (.iload_n 1, 1) := by decide +kernel
theorem dX3_takeRooms_1 : decode cX3_takeRooms 1 = .ok (.iconst 1, 1) := by decide +kernel
theorem dX3_takeRooms_2 : decode cX3_takeRooms 2 = .ok (.if_icmp .lt 23, 3) := by decide +kernel
theorem dX3_takeRooms_5 : decode cX3_takeRooms 5 = .ok (.iload_n 1, 1) := by decide +kernel
theorem dX3_takeRooms_6 : decode cX3_takeRooms 6 = .ok (.bipush 6, 2) := by decide +kernel
theorem dX3_takeRooms_8 : decode cX3_takeRooms 8 = .ok (.if_icmp .gt 17, 3) := by decide +kernel
theorem dX3_takeRooms_11 : decode cX3_takeRooms 11 = .ok (.iload_n 1, 1) := by decide +kernel
theorem dX3_takeRooms_12 : decode cX3_takeRooms 12 = .ok (.aload_n 0, 1) := by decide +kernel
theorem dX3_takeRooms_13 : decode cX3_takeRooms 13 = .ok (.getfield 9, 3) := by decide +kernel
theorem dX3_takeRooms_16 : decode cX3_takeRooms 16 = .ok (.getfield 43, 3) := by decide +kernel
theorem dX3_takeRooms_19 : decode cX3_takeRooms 19 = .ok (.invokevirtual 132, 3) := by decide +kernel
theorem dX3_takeRooms_22 : decode cX3_takeRooms 22 = .ok (.if_icmp .ge 5, 3) := by decide +kernel
theorem dX3_takeRooms_25 : decode cX3_takeRooms 25 = .ok (.iconst 0, 1) := by decide +kernel
theorem dX3_takeRooms_26 : decode cX3_takeRooms 26 = .ok (.ireturn, 1) := by decide +kernel
theorem dX3_takeRooms_27 : decode cX3_takeRooms 27 = .ok (.aload_n 0, 1) := by decide +kernel
theorem dX3_takeRooms_28 : decode cX3_takeRooms 28 = .ok (.getfield 9, 3) := by decide +kernel
theorem dX3_takeRooms_31 : decode cX3_takeRooms 31 = .ok (.iload_n 1, 1) := by decide +kernel
theorem dX3_takeRooms_32 : decode cX3_takeRooms 32 = .ok (.putfield 40, 3) := by decide +kernel
theorem dX3_takeRooms_35 : decode cX3_takeRooms 35 = .ok (.iconst 1, 1) := by decide +kernel
theorem dX3_takeRooms_36 : decode cX3_takeRooms 36 = .ok (.ireturn, 1) := by decide +kernel
theorem dX3_takeDoor_0 : decode cX3_takeDoor 0 = .ok (.iload_n 1, 1) := by decide +kernel
theorem dX3_takeDoor_1 : decode cX3_takeDoor 1 = .ok (.iload_n 2, 1) := by decide +kernel
theorem dX3_takeDoor_2 : decode cX3_takeDoor 2 = .ok (.if_icmp .eq 38, 3) := by decide +kernel
theorem dX3_takeDoor_5 : decode cX3_takeDoor 5 = .ok (.iload_n 1, 1) := by decide +kernel
theorem dX3_takeDoor_6 : decode cX3_takeDoor 6 = .ok (.aload_n 0, 1) := by decide +kernel
theorem dX3_takeDoor_7 : decode cX3_takeDoor 7 = .ok (.getfield 9, 3) := by decide +kernel
theorem dX3_takeDoor_10 : decode cX3_takeDoor 10 = .ok (.getfield 40, 3) := by decide +kernel
theorem dX3_takeDoor_13 : decode cX3_takeDoor 13 = .ok (.if_icmp .ge 27, 3) := by decide +kernel
theorem dX3_takeDoor_16 : decode cX3_takeDoor 16 = .ok (.iload_n 2, 1) := by decide +kernel
theorem dX3_takeDoor_17 : decode cX3_takeDoor 17 = .ok (.aload_n 0, 1) := by decide +kernel
theorem dX3_takeDoor_18 : decode cX3_takeDoor 18 = .ok (.getfield 9, 3) := by decide +kernel
theorem dX3_takeDoor_21 : decode cX3_takeDoor 21 = .ok (.getfield 40, 3) := by decide +kernel
theorem dX3_takeDoor_24 : decode cX3_takeDoor 24 = .ok (.if_icmp .ge 16, 3) := by decide +kernel
theorem dX3_takeDoor_27 : decode cX3_takeDoor 27 = .ok (.aload_n 0, 1) := by decide +kernel
theorem dX3_takeDoor_28 : decode cX3_takeDoor 28 = .ok (.getfield 9, 3) := by decide +kernel
theorem dX3_takeDoor_31 : decode cX3_takeDoor 31 = .ok (.getfield 43, 3) := by decide +kernel
theorem dX3_takeDoor_34 : decode cX3_takeDoor 34 = .ok (.invokevirtual 135, 3) := by decide +kernel
theorem dX3_takeDoor_37 : decode cX3_takeDoor 37 = .ok (.ifCond .eq 5, 3) := by decide +kernel
theorem dX3_takeDoor_40 : decode cX3_takeDoor 40 = .ok (.iconst 0, 1) := by decide +kernel
theorem dX3_takeDoor_41 : decode cX3_takeDoor 41 = .ok (.ireturn, 1) := by decide +kernel
theorem dX3_takeDoor_42 : decode cX3_takeDoor 42 = .ok (.aload_n 0, 1) := by decide +kernel
theorem dX3_takeDoor_43 : decode cX3_takeDoor 43 = .ok (.getfield 9, 3) := by decide +kernel
theorem dX3_takeDoor_46 : decode cX3_takeDoor 46 = .ok (.getfield 43, 3) := by decide +kernel
theorem dX3_takeDoor_49 : decode cX3_takeDoor 49 = .ok (.iload_n 1, 1) := by decide +kernel
theorem dX3_takeDoor_50 : decode cX3_takeDoor 50 = .ok (.iload_n 2, 1) := by decide +kernel
theorem dX3_takeDoor_51 : decode cX3_takeDoor 51 = .ok (.bipush 7, 2) := by decide +kernel
theorem dX3_takeDoor_53 : decode cX3_takeDoor 53 = .ok (.iload_n 3, 1) := by decide +kernel
theorem dX3_takeDoor_54 : decode cX3_takeDoor 54 = .ok (.iconst 0, 1) := by decide +kernel
theorem dX3_takeDoor_55 : decode cX3_takeDoor 55 = .ok (.iconst 0, 1) := by decide +kernel
theorem dX3_takeDoor_56 : decode cX3_takeDoor 56 = .ok (.iconst 0, 1) := by decide +kernel
theorem dX3_takeDoor_57 : decode cX3_takeDoor 57 = .ok (.invokevirtual 138, 3) := by decide +kernel
theorem dX3_takeDoor_60 : decode cX3_takeDoor 60 = .ok (.iconst 1, 1) := by decide +kernel
theorem dX3_takeDoor_61 : decode cX3_takeDoor 61 = .ok (.ireturn, 1) := by decide +kernel
theorem dX3_takeHole_0 : decode cX3_takeHole 0 = .ok (.aload_n 0, 1) := by decide +kernel
theorem dX3_takeHole_1 : decode cX3_takeHole 1 = .ok (.getfield 20, 3) := by decide +kernel
theorem dX3_takeHole_4 : decode cX3_takeHole 4 = .ok (.iconst 0, 1) := by decide +kernel
theorem dX3_takeHole_5 : decode cX3_takeHole 5 = .ok (.invokevirtual 63, 3) := by decide +kernel
theorem dX3_takeHole_8 : decode cX3_takeHole 8 = .ok (.istore_n 1, 1) := by decide +kernel
theorem dX3_takeHole_9 : decode cX3_takeHole 9 = .ok (.aload_n 0, 1) := by decide +kernel
theorem dX3_takeHole_10 : decode cX3_takeHole 10 = .ok (.getfield 20, 3) := by decide +kernel
theorem dX3_takeHole_13 : decode cX3_takeHole 13 = .ok (.iconst 4, 1) := by decide +kernel
theorem dX3_takeHole_14 : decode cX3_takeHole 14 = .ok (.invokevirtual 63, 3) := by decide +kernel
theorem dX3_takeHole_17 : decode cX3_takeHole 17 = .ok (.istore_n 2, 1) := by decide +kernel
theorem dX3_takeHole_18 : decode cX3_takeHole 18 = .ok (.iload_n 1, 1) := by decide +kernel
theorem dX3_takeHole_19 : decode cX3_takeHole 19 = .ok (.aload_n 0, 1) := by decide +kernel
theorem dX3_takeHole_20 : decode cX3_takeHole 20 = .ok (.getfield 9, 3) := by decide +kernel
theorem dX3_takeHole_23 : decode cX3_takeHole 23 = .ok (.getfield 40, 3) := by decide +kernel
theorem dX3_takeHole_26 : decode cX3_takeHole 26 = .ok (.if_icmp .ge 21, 3) := by decide +kernel
theorem dX3_takeHole_29 : decode cX3_takeHole 29 = .ok (.iload_n 2, 1) := by decide +kernel
theorem dX3_takeHole_30 : decode cX3_takeHole 30 = .ok (.iconst 3, 1) := by decide +kernel
theorem dX3_takeHole_31 : decode cX3_takeHole 31 = .ok (.if_icmp .gt 16, 3) := by decide +kernel
theorem dX3_takeHole_34 : decode cX3_takeHole 34 = .ok (.aload_n 0, 1) := by decide +kernel
theorem dX3_takeHole_35 : decode cX3_takeHole 35 = .ok (.getfield 9, 3) := by decide +kernel
theorem dX3_takeHole_38 : decode cX3_takeHole 38 = .ok (.getfield 43, 3) := by decide +kernel
theorem dX3_takeHole_41 : decode cX3_takeHole 41 = .ok (.invokevirtual 135, 3) := by decide +kernel
theorem dX3_takeHole_44 : decode cX3_takeHole 44 = .ok (.ifCond .eq 5, 3) := by decide +kernel
theorem dX3_takeHole_47 : decode cX3_takeHole 47 = .ok (.iconst 0, 1) := by decide +kernel
theorem dX3_takeHole_48 : decode cX3_takeHole 48 = .ok (.ireturn, 1) := by decide +kernel
theorem dX3_takeHole_49 : decode cX3_takeHole 49 = .ok (.aload_n 0, 1) := by decide +kernel
theorem dX3_takeHole_50 : decode cX3_takeHole 50 = .ok (.getfield 9, 3) := by decide +kernel
theorem dX3_takeHole_53 : decode cX3_takeHole 53 = .ok (.getfield 43, 3) := by decide +kernel
theorem dX3_takeHole_56 : decode cX3_takeHole 56 = .ok (.iload_n 1, 1) := by decide +kernel
theorem dX3_takeHole_57 : decode cX3_takeHole 57 = .ok (.bipush (-9), 2) := by decide +kernel
theorem dX3_takeHole_59 : decode cX3_takeHole 59 = .ok (.aload_n 0, 1) := by decide +kernel
theorem dX3_takeHole_60 : decode cX3_takeHole 60 = .ok (.getfield 20, 3) := by decide +kernel
theorem dX3_takeHole_63 : decode cX3_takeHole 63 = .ok (.iconst 1, 1) := by decide +kernel
theorem dX3_takeHole_64 : decode cX3_takeHole 64 = .ok (.invokevirtual 63, 3) := by decide +kernel
theorem dX3_takeHole_67 : decode cX3_takeHole 67 = .ok (.aload_n 0, 1) := by decide +kernel
theorem dX3_takeHole_68 : decode cX3_takeHole 68 = .ok (.getfield 20, 3) := by decide +kernel
theorem dX3_takeHole_71 : decode cX3_takeHole 71 = .ok (.iconst 2, 1) := by decide +kernel
theorem dX3_takeHole_72 : decode cX3_takeHole 72 = .ok (.invokevirtual 63, 3) := by decide +kernel
theorem dX3_takeHole_75 : decode cX3_takeHole 75 = .ok (.aload_n 0, 1) := by decide +kernel
theorem dX3_takeHole_76 : decode cX3_takeHole 76 = .ok (.getfield 20, 3) := by decide +kernel
theorem dX3_takeHole_79 : decode cX3_takeHole 79 = .ok (.iconst 3, 1) := by decide +kernel
theorem dX3_takeHole_80 : decode cX3_takeHole 80 = .ok (.invokevirtual 63, 3) := by decide +kernel
theorem dX3_takeHole_83 : decode cX3_takeHole 83 = .ok (.iload_n 2, 1) := by decide +kernel
theorem dX3_takeHole_84 : decode cX3_takeHole 84 = .ok (.aload_n 0, 1) := by decide +kernel
theorem dX3_takeHole_85 : decode cX3_takeHole 85 = .ok (.getfield 20, 3) := by decide +kernel
theorem dX3_takeHole_88 : decode cX3_takeHole 88 = .ok (.iconst 5, 1) := by decide +kernel
theorem dX3_takeHole_89 : decode cX3_takeHole 89 = .ok (.invokevirtual 63, 3) := by decide +kernel
theorem dX3_takeHole_92 : decode cX3_takeHole 92 = .ok (.invokevirtual 138, 3) := by decide +kernel
theorem dX3_takeHole_95 : decode cX3_takeHole 95 = .ok (.iconst 1, 1) := by decide +kernel
theorem dX3_takeHole_96 : decode cX3_takeHole 96 = .ok (.ireturn, 1) := by decide +kernel
theorem dX3_takeWeather_0 : decode cX3_takeWeather 0 = .ok (.iload_n 1, 1) := by decide +kernel
theorem dX3_takeWeather_1 : decode cX3_takeWeather 1 = .ok (.bipush 40, 2) := by decide +kernel
theorem dX3_takeWeather_3 : decode cX3_takeWeather 3 = .ok (.if_icmp .gt 27, 3) := by decide +kernel
theorem dX3_takeWeather_6 : decode cX3_takeWeather 6 = .ok (.iload_n 2, 1) := by decide +kernel
theorem dX3_takeWeather_7 : decode cX3_takeWeather 7 = .ok (.bipush 20, 2) := by decide +kernel
theorem dX3_takeWeather_9 : decode cX3_takeWeather 9 = .ok (.if_icmp .gt 21, 3) := by decide +kernel
theorem dX3_takeWeather_12 : decode cX3_takeWeather 12 = .ok (.iload_n 3, 1) := by decide +kernel
theorem dX3_takeWeather_13 : decode cX3_takeWeather 13 = .ok (.iconst 3, 1) := by decide +kernel
theorem dX3_takeWeather_14 : decode cX3_takeWeather 14 = .ok (.if_icmp .gt 16, 3) := by decide +kernel
theorem dX3_takeWeather_17 : decode cX3_takeWeather 17 = .ok (.aload_n 0, 1) := by decide +kernel
theorem dX3_takeWeather_18 : decode cX3_takeWeather 18 = .ok (.getfield 9, 3) := by decide +kernel
theorem dX3_takeWeather_21 : decode cX3_takeWeather 21 = .ok (.getfield 50, 3) := by decide +kernel
theorem dX3_takeWeather_24 : decode cX3_takeWeather 24 = .ok (.invokevirtual 141, 3) := by decide +kernel
theorem dX3_takeWeather_27 : decode cX3_takeWeather 27 = .ok (.ifCond .eq 5, 3) := by decide +kernel
theorem dX3_takeWeather_30 : decode cX3_takeWeather 30 = .ok (.iconst 0, 1) := by decide +kernel
theorem dX3_takeWeather_31 : decode cX3_takeWeather 31 = .ok (.ireturn, 1) := by decide +kernel
theorem dX3_takeWeather_32 : decode cX3_takeWeather 32 = .ok (.aload_n 0, 1) := by decide +kernel
theorem dX3_takeWeather_33 : decode cX3_takeWeather 33 = .ok (.getfield 9, 3) := by decide +kernel
theorem dX3_takeWeather_36 : decode cX3_takeWeather 36 = .ok (.getfield 50, 3) := by decide +kernel
theorem dX3_takeWeather_39 : decode cX3_takeWeather 39 = .ok (.iload_n 1, 1) := by decide +kernel
theorem dX3_takeWeather_40 : decode cX3_takeWeather 40 = .ok (.iload_n 2, 1) := by decide +kernel
theorem dX3_takeWeather_41 : decode cX3_takeWeather 41 = .ok (.iload_n 3, 1) := by decide +kernel
theorem dX3_takeWeather_42 : decode cX3_takeWeather 42 = .ok (.invokevirtual 142, 3) := by decide +kernel
theorem dX3_takeWeather_45 : decode cX3_takeWeather 45 = .ok (.iconst 1, 1) := by decide +kernel
theorem dX3_takeWeather_46 : decode cX3_takeWeather 46 = .ok (.ireturn, 1) := by decide +kernel
theorem dX4_init_0 : decode cX4_init 0 = .ok (.aload_n 0, 1) := by decide +kernel
theorem dX4_init_1 : decode cX4_init 1 = .ok (.invokespecial 1, 3) := by decide +kernel
theorem dX4_init_4 : decode cX4_init 4 = .ok (.aload_n 0, 1) := by decide +kernel
theorem dX4_init_5 : decode cX4_init 5 = .ok (.iload_n 1, 1) := by decide +kernel
theorem dX4_init_6 : decode cX4_init 6 = .ok (.iconst 0, 1) := by decide +kernel
theorem dX4_init_7 : decode cX4_init 7 = .ok (.invokestatic 7, 3) := by decide +kernel
theorem dX4_init_10 : decode cX4_init 10 = .ok (.newarray .int, 2) := by decide +kernel
theorem dX4_init_12 : decode cX4_init 12 = .ok (.putfield 13, 3) := by decide +kernel
theorem dX4_init_15 : decode cX4_init 15 = .ok (.aload_n 0, 1) := by decide +kernel
theorem dX4_init_16 : decode cX4_init 16 = .ok (.iconst 0, 1) := by decide +kernel
theorem dX4_init_17 : decode cX4_init 17 = .ok (.putfield 19, 3) := by decide +kernel
theorem dX4_init_20 : decode cX4_init 20 = .ok (.return_, 1) := by decide +kernel
theorem dX4_isFull_0 : decode cX4_isFull 0 = .ok (.aload_n 0, 1) := by decide +kernel
theorem dX4_isFull_1 : decode cX4_isFull 1 = .ok (.getfield 19, 3) := by decide +kernel
theorem dX4_isFull_4 : decode cX4_isFull 4 = .ok (.aload_n 0, 1) := by decide +kernel
theorem dX4_isFull_5 : decode cX4_isFull 5 = .ok (.getfield 13, 3) := by decide +kernel
theorem dX4_isFull_8 : decode cX4_isFull 8 = .ok (.arraylength, 1) := by decide +kernel
theorem dX4_isFull_9 : decode cX4_isFull 9 = .ok (.if_icmp .lt 7, 3) := by decide +kernel
theorem dX4_isFull_12 : decode cX4_isFull 12 = .ok (.iconst 1, 1) := by decide +kernel
theorem dX4_isFull_13 : decode cX4_isFull 13 = .ok (.goto 4, 3) := by decide +kernel
theorem dX4_isFull_16 : decode cX4_isFull 16 = .ok (.iconst 0, 1) := by decide +kernel
theorem dX4_isFull_17 : decode cX4_isFull 17 = .ok (.ireturn, 1) := by decide +kernel
theorem dX4_add_0 : decode cX4_add 0 = .ok (.aload_n 0, 1) := by decide +kernel
theorem dX4_add_1 : decode cX4_add 1 = .ok (.invokevirtual 23, 3) := by decide +kernel
theorem dX4_add_4 : decode cX4_add 4 = .ok (.ifCond .ne 25, 3) := by decide +kernel
theorem dX4_add_7 : decode cX4_add 7 = .ok (.aload_n 0, 1) := by decide +kernel
theorem dX4_add_8 : decode cX4_add 8 = .ok (.getfield 13, 3) := by decide +kernel
theorem dX4_add_11 : decode cX4_add 11 = .ok (.aload_n 0, 1) := by decide +kernel
theorem dX4_add_12 : decode cX4_add 12 = .ok (.getfield 19, 3) := by decide +kernel
theorem dX4_add_15 : decode cX4_add 15 = .ok (.iload_n 1, 1) := by decide +kernel
theorem dX4_add_16 : decode cX4_add 16 = .ok (.invokestatic 27, 3) := by decide +kernel
theorem dX4_add_19 : decode cX4_add 19 = .ok (.aload_n 0, 1) := by decide +kernel
theorem dX4_add_20 : decode cX4_add 20 = .ok (.dup, 1) := by decide +kernel
theorem dX4_add_21 : decode cX4_add 21 = .ok (.getfield 19, 3) := by decide +kernel
theorem dX4_add_24 : decode cX4_add 24 = .ok (.iconst 1, 1) := by decide +kernel
theorem dX4_add_25 : decode cX4_add 25 = .ok (.iadd, 1) := by decide +kernel
theorem dX4_add_26 : decode cX4_add 26 = .ok (.putfield 19, 3) := by decide +kernel
theorem dX4_add_29 : decode cX4_add 29 = .ok (.return_, 1) := by decide +kernel
theorem dX4_get_0 : decode cX4_get 0 = .ok (.iload_n 1, 1) := by decide +kernel
theorem dX4_get_1 : decode cX4_get 1 = .ok (.aload_n 0, 1) := by decide +kernel
theorem dX4_get_2 : decode cX4_get 2 = .ok (.getfield 19, 3) := by decide +kernel
theorem dX4_get_5 : decode cX4_get 5 = .ok (.if_icmp .ge 14, 3) := by decide +kernel
theorem dX4_get_8 : decode cX4_get 8 = .ok (.aload_n 0, 1) := by decide +kernel
theorem dX4_get_9 : decode cX4_get 9 = .ok (.getfield 13, 3) := by decide +kernel
theorem dX4_get_12 : decode cX4_get 12 = .ok (.iload_n 1, 1) := by decide +kernel
theorem dX4_get_13 : decode cX4_get 13 = .ok (.invokestatic 33, 3) := by decide +kernel
theorem dX4_get_16 : decode cX4_get 16 = .ok (.goto 4, 3) := by decide +kernel
theorem dX4_get_19 : decode cX4_get 19 = .ok (.iconst (-1), 1) := by decide +kernel
theorem dX4_get_20 : decode cX4_get 20 = .ok (.ireturn, 1) := by decide +kernel
theorem dX4_clear_0 : decode cX4_clear 0 = .ok (.aload_n 0, 1) := by decide +kernel
theorem dX4_clear_1 : decode cX4_clear 1 = .ok (.iconst 0, 1) := by decide +kernel
theorem dX4_clear_2 : decode cX4_clear 2 = .ok (.putfield 19, 3) := by decide +kernel
theorem dX4_clear_5 : decode cX4_clear 5 = .ok (.return_, 1) := by decide +kernel
theorem dX4_become_0 : decode cX4_become 0 = .ok (.aload_n 1, 1) := by decide +kernel
theorem dX4_become_1 : decode cX4_become 1 = .ok (.getfield 13, 3) := by decide +kernel
theorem dX4_become_4 : decode cX4_become 4 = .ok (.aload_n 0, 1) := by decide +kernel
theorem dX4_become_5 : decode cX4_become 5 = .ok (.getfield 13, 3) := by decide +kernel
theorem dX4_become_8 : decode cX4_become 8 = .ok (.invokestatic 37, 3) := by decide +kernel
theorem dX4_become_11 : decode cX4_become 11 = .ok (.aload_n 0, 1) := by decide +kernel
theorem dX4_become_12 : decode cX4_become 12 = .ok (.aload_n 1, 1) := by decide +kernel
theorem dX4_become_13 : decode cX4_become 13 = .ok (.getfield 19, 3) := by decide +kernel
theorem dX4_become_16 : decode cX4_become 16 = .ok (.putfield 19, 3) := by decide +kernel
theorem dX4_become_19 : decode cX4_become 19 = .ok (.return_, 1) := by decide +kernel
theorem dX5_at_0 : decode cX5_at 0 = .ok (.iload_n 1, 1) := by decide +kernel
theorem dX5_at_1 : decode cX5_at 1 = .ok (.ifCond .lt 15, 3) := by decide +kernel
theorem dX5_at_4 : decode cX5_at 4 = .ok (.iload_n 1, 1) := by decide +kernel
theorem dX5_at_5 : decode cX5_at 5 = .ok (.aload_n 0, 1) := by decide +kernel
theorem dX5_at_6 : decode cX5_at 6 = .ok (.arraylength, 1) := by decide +kernel
theorem dX5_at_7 : decode cX5_at 7 = .ok (.if_icmp .ge 9, 3) := by decide +kernel
theorem dX5_at_10 : decode cX5_at 10 = .ok (.aload_n 0, 1) := by decide +kernel
theorem dX5_at_11 : decode cX5_at 11 = .ok (.iload_n 1, 1) := by decide +kernel
theorem dX5_at_12 : decode cX5_at 12 = .ok (.iaload, 1) := by decide +kernel
theorem dX5_at_13 : decode cX5_at 13 = .ok (.goto 4, 3) := by decide +kernel
theorem dX5_at_16 : decode cX5_at 16 = .ok (.iconst 0, 1) := by decide +kernel
theorem dX5_at_17 : decode cX5_at 17 = .ok (.ireturn, 1) := by decide +kernel
theorem dX5_put_0 : decode cX5_put 0 = .ok (.iload_n 1, 1) := by decide +kernel
theorem dX5_put_1 : decode cX5_put 1 = .ok (.ifCond .lt 13, 3) := by decide +kernel
theorem dX5_put_4 : decode cX5_put 4 = .ok (.iload_n 1, 1) := by decide +kernel
theorem dX5_put_5 : decode cX5_put 5 = .ok (.aload_n 0, 1) := by decide +kernel
theorem dX5_put_6 : decode cX5_put 6 = .ok (.arraylength, 1) := by decide +kernel
theorem dX5_put_7 : decode cX5_put 7 = .ok (.if_icmp .ge 7, 3) := by decide +kernel
theorem dX5_put_10 : decode cX5_put 10 = .ok (.aload_n 0, 1) := by decide +kernel
theorem dX5_put_11 : decode cX5_put 11 = .ok (.iload_n 1, 1) := by decide +kernel
theorem dX5_put_12 : decode cX5_put 12 = .ok (.iload_n 2, 1) := by decide +kernel
theorem dX5_put_13 : decode cX5_put 13 = .ok (.iastore, 1) := by decide +kernel
theorem dX5_put_14 : decode cX5_put 14 = .ok (.return_, 1) := by decide +kernel
theorem dX5_copy_0 : decode cX5_copy 0 = .ok (.iconst 0, 1) := by decide +kernel
theorem dX5_copy_1 : decode cX5_copy 1 = .ok (.istore_n 2, 1) := by decide +kernel
theorem dX5_copy_2 : decode cX5_copy 2 = .ok (.iload_n 2, 1) := by decide +kernel
theorem dX5_copy_3 : decode cX5_copy 3 = .ok (.aload_n 0, 1) := by decide +kernel
theorem dX5_copy_4 : decode cX5_copy 4 = .ok (.arraylength, 1) := by decide +kernel
theorem dX5_copy_5 : decode cX5_copy 5 = .ok (.if_icmp .ge 21, 3) := by decide +kernel
theorem dX5_copy_8 : decode cX5_copy 8 = .ok (.iload_n 2, 1) := by decide +kernel
theorem dX5_copy_9 : decode cX5_copy 9 = .ok (.aload_n 1, 1) := by decide +kernel
theorem dX5_copy_10 : decode cX5_copy 10 = .ok (.arraylength, 1) := by decide +kernel
theorem dX5_copy_11 : decode cX5_copy 11 = .ok (.if_icmp .ge 15, 3) := by decide +kernel
theorem dX5_copy_14 : decode cX5_copy 14 = .ok (.aload_n 1, 1) := by decide +kernel
theorem dX5_copy_15 : decode cX5_copy 15 = .ok (.iload_n 2, 1) := by decide +kernel
theorem dX5_copy_16 : decode cX5_copy 16 = .ok (.aload_n 0, 1) := by decide +kernel
theorem dX5_copy_17 : decode cX5_copy 17 = .ok (.iload_n 2, 1) := by decide +kernel
theorem dX5_copy_18 : decode cX5_copy 18 = .ok (.iaload, 1) := by decide +kernel
theorem dX5_copy_19 : decode cX5_copy 19 = .ok (.iastore, 1) := by decide +kernel
theorem dX5_copy_20 : decode cX5_copy 20 = .ok (.iinc 2 1, 3) := by decide +kernel
theorem dX5_copy_23 : decode cX5_copy 23 = .ok (.goto (-21), 3) := by decide +kernel
theorem dX5_copy_26 : decode cX5_copy 26 = .ok (.return_, 1) := by decide +kernel
theorem dX6_init_0 : decode cX6_init 0 = .ok (.aload_n 0, 1) := by decide +kernel
theorem dX6_init_1 : decode cX6_init 1 = .ok (.invokespecial 1, 3) := by decide +kernel
theorem dX6_init_4 : decode cX6_init 4 = .ok (.return_, 1) := by decide +kernel
theorem dX6_draw_0 : decode cX6_draw 0 = .ok (.aload_n 0, 1) := by decide +kernel
theorem dX6_draw_1 : decode cX6_draw 1 = .ok (.aload_n 0, 1) := by decide +kernel
theorem dX6_draw_2 : decode cX6_draw 2 = .ok (.getfield 7, 3) := by decide +kernel
theorem dX6_draw_5 : decode cX6_draw 5 = .ok (.ldc 13, 2) := by decide +kernel
theorem dX6_draw_7 : decode cX6_draw 7 = .ok (.imul, 1) := by decide +kernel
theorem dX6_draw_8 : decode cX6_draw 8 = .ok (.ldc 14, 2) := by decide +kernel
theorem dX6_draw_10 : decode cX6_draw 10 = .ok (.iadd, 1) := by decide +kernel
theorem dX6_draw_11 : decode cX6_draw 11 = .ok (.putfield 7, 3) := by decide +kernel
theorem dX6_draw_14 : decode cX6_draw 14 = .ok (.iload_n 1, 1) := by decide +kernel
theorem dX6_draw_15 : decode cX6_draw 15 = .ok (.ifCond .le 19, 3) := by decide +kernel
theorem dX6_draw_18 : decode cX6_draw 18 = .ok (.aload_n 0, 1) := by decide +kernel
theorem dX6_draw_19 : decode cX6_draw 19 = .ok (.getfield 7, 3) := by decide +kernel
theorem dX6_draw_22 : decode cX6_draw 22 = .ok (.ldc 15, 2) := by decide +kernel
theorem dX6_draw_24 : decode cX6_draw 24 = .ok (.iand, 1) := by decide +kernel
theorem dX6_draw_25 : decode cX6_draw 25 = .ok (.sipush 256, 3) := by decide +kernel
theorem dX6_draw_28 : decode cX6_draw 28 = .ok (.idiv, 1) := by decide +kernel
theorem dX6_draw_29 : decode cX6_draw 29 = .ok (.iload_n 1, 1) := by decide +kernel
theorem dX6_draw_30 : decode cX6_draw 30 = .ok (.irem, 1) := by decide +kernel
theorem dX6_draw_31 : decode cX6_draw 31 = .ok (.goto 4, 3) := by decide +kernel
theorem dX6_draw_34 : decode cX6_draw 34 = .ok (.iconst 0, 1) := by decide +kernel
theorem dX6_draw_35 : decode cX6_draw 35 = .ok (.ireturn, 1) := by decide +kernel
theorem dX7_init_0 : decode cX7_init 0 = .ok (.aload_n 0, 1) := by decide +kernel
theorem dX7_init_1 : decode cX7_init 1 = .ok (.invokespecial 3, 3) := by decide +kernel
theorem dX7_init_4 : decode cX7_init 4 = .ok (.aload_n 0, 1) := by decide +kernel
theorem dX7_init_5 : decode cX7_init 5 = .ok (.iconst 2, 1) := by decide +kernel
theorem dX7_init_6 : decode cX7_init 6 = .ok (.putfield 9, 3) := by decide +kernel
theorem dX7_init_9 : decode cX7_init 9 = .ok (.aload_n 0, 1) := by decide +kernel
theorem dX7_init_10 : decode cX7_init 10 = .ok (.new 15, 3) := by decide +kernel
theorem dX7_init_13 : decode cX7_init 13 = .ok (.dup, 1) := by decide +kernel
theorem dX7_init_14 : decode cX7_init 14 = .ok (.invokespecial 17, 3) := by decide +kernel
theorem dX7_init_17 : decode cX7_init 17 = .ok (.putfield 18, 3) := by decide +kernel
theorem dX7_init_20 : decode cX7_init 20 = .ok (.aload_n 0, 1) := by decide +kernel
theorem dX7_init_21 : decode cX7_init 21 = .ok (.new 22, 3) := by decide +kernel
theorem dX7_init_24 : decode cX7_init 24 = .ok (.dup, 1) := by decide +kernel
theorem dX7_init_25 : decode cX7_init 25 = .ok (.invokespecial 24, 3) := by decide +kernel
theorem dX7_init_28 : decode cX7_init 28 = .ok (.putfield 25, 3) := by decide +kernel
theorem dX7_init_31 : decode cX7_init 31 = .ok (.aload_n 0, 1) := by decide +kernel
theorem dX7_init_32 : decode cX7_init 32 = .ok (.new 29, 3) := by decide +kernel
theorem dX7_init_35 : decode cX7_init 35 = .ok (.dup, 1) := by decide +kernel
theorem dX7_init_36 : decode cX7_init 36 = .ok (.invokespecial 31, 3) := by decide +kernel
theorem dX7_init_39 : decode cX7_init 39 = .ok (.putfield 32, 3) := by decide +kernel
theorem dX7_init_42 : decode cX7_init 42 = .ok (.aload_n 0, 1) := by decide +kernel
theorem dX7_init_43 : decode cX7_init 43 = .ok (.getfield 32, 3) := by decide +kernel
theorem dX7_init_46 : decode cX7_init 46 = .ok (.bipush 10, 2) := by decide +kernel
theorem dX7_init_48 : decode cX7_init 48 = .ok (.putfield 36, 3) := by decide +kernel
theorem dX7_init_51 : decode cX7_init 51 = .ok (.aload_n 0, 1) := by decide +kernel
theorem dX7_init_52 : decode cX7_init 52 = .ok (.new 39, 3) := by decide +kernel
theorem dX7_init_55 : decode cX7_init 55 = .ok (.dup, 1) := by decide +kernel
theorem dX7_init_56 : decode cX7_init 56 = .ok (.bipush 80, 2) := by decide +kernel
theorem dX7_init_58 : decode cX7_init 58 = .ok (.invokespecial 41, 3) := by decide +kernel
theorem dX7_init_61 : decode cX7_init 61 = .ok (.putfield 44, 3) := by decide +kernel
theorem dX7_init_64 : decode cX7_init 64 = .ok (.aload_n 0, 1) := by decide +kernel
theorem dX7_init_65 : decode cX7_init 65 = .ok (.new 39, 3) := by decide +kernel
theorem dX7_init_68 : decode cX7_init 68 = .ok (.dup, 1) := by decide +kernel
theorem dX7_init_69 : decode cX7_init 69 = .ok (.bipush 10, 2) := by decide +kernel
theorem dX7_init_71 : decode cX7_init 71 = .ok (.invokespecial 41, 3) := by decide +kernel
theorem dX7_init_74 : decode cX7_init 74 = .ok (.putfield 48, 3) := by decide +kernel
theorem dX7_init_77 : decode cX7_init 77 = .ok (.return_, 1) := by decide +kernel
theorem dX7_become_0 : decode cX7_become 0 = .ok (.aload_n 0, 1) := by decide +kernel
theorem dX7_become_1 : decode cX7_become 1 = .ok (.aload_n 1, 1) := by decide +kernel
theorem dX7_become_2 : decode cX7_become 2 = .ok (.getfield 9, 3) := by decide +kernel
theorem dX7_become_5 : decode cX7_become 5 = .ok (.putfield 9, 3) := by decide +kernel
theorem dX7_become_8 : decode cX7_become 8 = .ok (.aload_n 0, 1) := by decide +kernel
theorem dX7_become_9 : decode cX7_become 9 = .ok (.getfield 18, 3) := by decide +kernel
theorem dX7_become_12 : decode cX7_become 12 = .ok (.aload_n 1, 1) := by decide +kernel
theorem dX7_become_13 : decode cX7_become 13 = .ok (.getfield 18, 3) := by decide +kernel
theorem dX7_become_16 : decode cX7_become 16 = .ok (.invokevirtual 51, 3) := by decide +kernel
theorem dX7_become_19 : decode cX7_become 19 = .ok (.aload_n 0, 1) := by decide +kernel
theorem dX7_become_20 : decode cX7_become 20 = .ok (.getfield 25, 3) := by decide +kernel
theorem dX7_become_23 : decode cX7_become 23 = .ok (.aload_n 1, 1) := by decide +kernel
theorem dX7_become_24 : decode cX7_become 24 = .ok (.getfield 25, 3) := by decide +kernel
theorem dX7_become_27 : decode cX7_become 27 = .ok (.invokevirtual 55, 3) := by decide +kernel
theorem dX7_become_30 : decode cX7_become 30 = .ok (.aload_n 0, 1) := by decide +kernel
theorem dX7_become_31 : decode cX7_become 31 = .ok (.getfield 32, 3) := by decide +kernel
theorem dX7_become_34 : decode cX7_become 34 = .ok (.aload_n 1, 1) := by decide +kernel
theorem dX7_become_35 : decode cX7_become 35 = .ok (.getfield 32, 3) := by decide +kernel
theorem dX7_become_38 : decode cX7_become 38 = .ok (.getfield 36, 3) := by decide +kernel
theorem dX7_become_41 : decode cX7_become 41 = .ok (.aload_n 1, 1) := by decide +kernel
theorem dX7_become_42 : decode cX7_become 42 = .ok (.getfield 32, 3) := by decide +kernel
theorem dX7_become_45 : decode cX7_become 45 = .ok (.getfield 58, 3) := by decide +kernel
theorem dX7_become_48 : decode cX7_become 48 = .ok (.aload_n 1, 1) := by decide +kernel
theorem dX7_become_49 : decode cX7_become 49 = .ok (.getfield 32, 3) := by decide +kernel
theorem dX7_become_52 : decode cX7_become 52 = .ok (.getfield 61, 3) := by decide +kernel
theorem dX7_become_55 : decode cX7_become 55 = .ok (.aload_n 1, 1) := by decide +kernel
theorem dX7_become_56 : decode cX7_become 56 = .ok (.getfield 32, 3) := by decide +kernel
theorem dX7_become_59 : decode cX7_become 59 = .ok (.getfield 64, 3) := by decide +kernel
theorem dX7_become_62 : decode cX7_become 62 = .ok (.invokevirtual 67, 3) := by decide +kernel
theorem dX7_become_65 : decode cX7_become 65 = .ok (.aload_n 0, 1) := by decide +kernel
theorem dX7_become_66 : decode cX7_become 66 = .ok (.getfield 44, 3) := by decide +kernel
theorem dX7_become_69 : decode cX7_become 69 = .ok (.aload_n 1, 1) := by decide +kernel
theorem dX7_become_70 : decode cX7_become 70 = .ok (.getfield 44, 3) := by decide +kernel
theorem dX7_become_73 : decode cX7_become 73 = .ok (.invokevirtual 70, 3) := by decide +kernel
theorem dX7_become_76 : decode cX7_become 76 = .ok (.aload_n 0, 1) := by decide +kernel
theorem dX7_become_77 : decode cX7_become 77 = .ok (.getfield 48, 3) := by decide +kernel
theorem dX7_become_80 : decode cX7_become 80 = .ok (.aload_n 1, 1) := by decide +kernel
theorem dX7_become_81 : decode cX7_become 81 = .ok (.getfield 48, 3) := by decide +kernel
theorem dX7_become_84 : decode cX7_become 84 = .ok (.invokevirtual 70, 3) := by decide +kernel
theorem dX7_become_87 : decode cX7_become 87 = .ok (.return_, 1) := by decide +kernel
theorem dX8_init_0 : decode cX8_init 0 = .ok (.aload_n 0, 1) := by decide +kernel
theorem dX8_init_1 : decode cX8_init 1 = .ok (.invokespecial 3, 3) := by decide +kernel
theorem dX8_init_4 : decode cX8_init 4 = .ok (.aload_n 0, 1) := by decide +kernel
theorem dX8_init_5 : decode cX8_init 5 = .ok (.iconst 4, 1) := by decide +kernel
theorem dX8_init_6 : decode cX8_init 6 = .ok (.newarray .int, 2) := by decide +kernel
theorem dX8_init_8 : decode cX8_init 8 = .ok (.putfield 9, 3) := by decide +kernel
theorem dX8_init_11 : decode cX8_init 11 = .ok (.aload_n 0, 1) := by decide +kernel
theorem dX8_init_12 : decode cX8_init 12 = .ok (.iconst 4, 1) := by decide +kernel
theorem dX8_init_13 : decode cX8_init 13 = .ok (.newarray .int, 2) := by decide +kernel
theorem dX8_init_15 : decode cX8_init 15 = .ok (.putfield 15, 3) := by decide +kernel
theorem dX8_init_18 : decode cX8_init 18 = .ok (.aload_n 0, 1) := by decide +kernel
theorem dX8_init_19 : decode cX8_init 19 = .ok (.iconst 4, 1) := by decide +kernel
theorem dX8_init_20 : decode cX8_init 20 = .ok (.newarray .int, 2) := by decide +kernel
theorem dX8_init_22 : decode cX8_init 22 = .ok (.putfield 18, 3) := by decide +kernel
theorem dX8_init_25 : decode cX8_init 25 = .ok (.return_, 1) := by decide +kernel
theorem dX8_isFull_0 : decode cX8_isFull 0 = .ok (.aload_n 0, 1) := by decide +kernel
theorem dX8_isFull_1 : decode cX8_isFull 1 = .ok (.getfield 21, 3) := by decide +kernel
theorem dX8_isFull_4 : decode cX8_isFull 4 = .ok (.iconst 4, 1) := by decide +kernel
theorem dX8_isFull_5 : decode cX8_isFull 5 = .ok (.if_icmp .lt 7, 3) := by decide +kernel
theorem dX8_isFull_8 : decode cX8_isFull 8 = .ok (.iconst 1, 1) := by decide +kernel
theorem dX8_isFull_9 : decode cX8_isFull 9 = .ok (.goto 4, 3) := by decide +kernel
theorem dX8_isFull_12 : decode cX8_isFull 12 = .ok (.iconst 0, 1) := by decide +kernel
theorem dX8_isFull_13 : decode cX8_isFull 13 = .ok (.ireturn, 1) := by decide +kernel
theorem dX8_add_0 : decode cX8_add 0 = .ok (.aload_n 0, 1) := by decide +kernel
theorem dX8_add_1 : decode cX8_add 1 = .ok (.invokevirtual 25, 3) := by decide +kernel
theorem dX8_add_4 : decode cX8_add 4 = .ok (.ifCond .ne 49, 3) := by decide +kernel
theorem dX8_add_7 : decode cX8_add 7 = .ok (.aload_n 0, 1) := by decide +kernel
theorem dX8_add_8 : decode cX8_add 8 = .ok (.getfield 9, 3) := by decide +kernel
theorem dX8_add_11 : decode cX8_add 11 = .ok (.aload_n 0, 1) := by decide +kernel
theorem dX8_add_12 : decode cX8_add 12 = .ok (.getfield 21, 3) := by decide +kernel
theorem dX8_add_15 : decode cX8_add 15 = .ok (.iload_n 1, 1) := by decide +kernel
theorem dX8_add_16 : decode cX8_add 16 = .ok (.invokestatic 29, 3) := by decide +kernel
theorem dX8_add_19 : decode cX8_add 19 = .ok (.aload_n 0, 1) := by decide +kernel
theorem dX8_add_20 : decode cX8_add 20 = .ok (.getfield 15, 3) := by decide +kernel
theorem dX8_add_23 : decode cX8_add 23 = .ok (.aload_n 0, 1) := by decide +kernel
theorem dX8_add_24 : decode cX8_add 24 = .ok (.getfield 21, 3) := by decide +kernel
theorem dX8_add_27 : decode cX8_add 27 = .ok (.iload_n 2, 1) := by decide +kernel
theorem dX8_add_28 : decode cX8_add 28 = .ok (.invokestatic 29, 3) := by decide +kernel
theorem dX8_add_31 : decode cX8_add 31 = .ok (.aload_n 0, 1) := by decide +kernel
theorem dX8_add_32 : decode cX8_add 32 = .ok (.getfield 18, 3) := by decide +kernel
theorem dX8_add_35 : decode cX8_add 35 = .ok (.aload_n 0, 1) := by decide +kernel
theorem dX8_add_36 : decode cX8_add 36 = .ok (.getfield 21, 3) := by decide +kernel
theorem dX8_add_39 : decode cX8_add 39 = .ok (.iload_n 3, 1) := by decide +kernel
theorem dX8_add_40 : decode cX8_add 40 = .ok (.invokestatic 29, 3) := by decide +kernel
theorem dX8_add_43 : decode cX8_add 43 = .ok (.aload_n 0, 1) := by decide +kernel
theorem dX8_add_44 : decode cX8_add 44 = .ok (.dup, 1) := by decide +kernel
theorem dX8_add_45 : decode cX8_add 45 = .ok (.getfield 21, 3) := by decide +kernel
theorem dX8_add_48 : decode cX8_add 48 = .ok (.iconst 1, 1) := by decide +kernel
theorem dX8_add_49 : decode cX8_add 49 = .ok (.iadd, 1) := by decide +kernel
theorem dX8_add_50 : decode cX8_add 50 = .ok (.putfield 21, 3) := by decide +kernel
theorem dX8_add_53 : decode cX8_add 53 = .ok (.return_, 1) := by decide +kernel
theorem dX8_become_0 : decode cX8_become 0 = .ok (.aload_n 1, 1) := by decide +kernel
theorem dX8_become_1 : decode cX8_become 1 = .ok (.getfield 9, 3) := by decide +kernel
theorem dX8_become_4 : decode cX8_become 4 = .ok (.aload_n 0, 1) := by decide +kernel
theorem dX8_become_5 : decode cX8_become 5 = .ok (.getfield 9, 3) := by decide +kernel
theorem dX8_become_8 : decode cX8_become 8 = .ok (.invokestatic 35, 3) := by decide +kernel
theorem dX8_become_11 : decode cX8_become 11 = .ok (.aload_n 1, 1) := by decide +kernel
theorem dX8_become_12 : decode cX8_become 12 = .ok (.getfield 15, 3) := by decide +kernel
theorem dX8_become_15 : decode cX8_become 15 = .ok (.aload_n 0, 1) := by decide +kernel
theorem dX8_become_16 : decode cX8_become 16 = .ok (.getfield 15, 3) := by decide +kernel
theorem dX8_become_19 : decode cX8_become 19 = .ok (.invokestatic 35, 3) := by decide +kernel
theorem dX8_become_22 : decode cX8_become 22 = .ok (.aload_n 1, 1) := by decide +kernel
theorem dX8_become_23 : decode cX8_become 23 = .ok (.getfield 18, 3) := by decide +kernel
theorem dX8_become_26 : decode cX8_become 26 = .ok (.aload_n 0, 1) := by decide +kernel
theorem dX8_become_27 : decode cX8_become 27 = .ok (.getfield 18, 3) := by decide +kernel
theorem dX8_become_30 : decode cX8_become 30 = .ok (.invokestatic 35, 3) := by decide +kernel
theorem dX8_become_33 : decode cX8_become 33 = .ok (.aload_n 0, 1) := by decide +kernel
theorem dX8_become_34 : decode cX8_become 34 = .ok (.aload_n 1, 1) := by decide +kernel
theorem dX8_become_35 : decode cX8_become 35 = .ok (.getfield 21, 3) := by decide +kernel
theorem dX8_become_38 : decode cX8_become 38 = .ok (.putfield 21, 3) := by decide +kernel
theorem dX8_become_41 : decode cX8_become 41 = .ok (.return_, 1) := by decide +kernel
