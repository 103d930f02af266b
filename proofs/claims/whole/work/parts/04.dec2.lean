theorem dX6_hang_64 : decode cX6_hang 64 = .ok (.aload_n 0, 1) := by decide +kernel
theorem dX6_hang_65 : decode cX6_hang 65 = .ok (.iconst 3, 1) := by decide +kernel
theorem dX6_hang_66 : decode cX6_hang 66 = .ok (.invokevirtual 104, 3) := by decide +kernel
theorem dX6_hang_69 : decode cX6_hang 69 = .ok (.ireturn, 1) := by decide +kernel
theorem dX6_hang_70 : decode cX6_hang 70 = .ok (.aload_n 0, 1) := by decide +kernel
theorem dX6_hang_71 : decode cX6_hang 71 = .ok (.getfield 31, 3) := by decide +kernel
theorem dX6_hang_74 : decode cX6_hang 74 = .ok (.getfield 60, 3) := by decide +kernel
theorem dX6_hang_77 : decode cX6_hang 77 = .ok (.iload 5, 2) := by decide +kernel
theorem dX6_hang_79 : decode cX6_hang 79 = .ok (.iload_n 3, 1) := by decide +kernel
theorem dX6_hang_80 : decode cX6_hang 80 = .ok (.iastore, 1) := by decide +kernel
theorem dX6_hang_81 : decode cX6_hang 81 = .ok (.aload_n 0, 1) := by decide +kernel
theorem dX6_hang_82 : decode cX6_hang 82 = .ok (.getfield 31, 3) := by decide +kernel
theorem dX6_hang_85 : decode cX6_hang 85 = .ok (.getfield 76, 3) := by decide +kernel
theorem dX6_hang_88 : decode cX6_hang 88 = .ok (.iload 5, 2) := by decide +kernel
theorem dX6_hang_90 : decode cX6_hang 90 = .ok (.iload 4, 2) := by decide +kernel
theorem dX6_hang_92 : decode cX6_hang 92 = .ok (.iastore, 1) := by decide +kernel
theorem dX6_hang_93 : decode cX6_hang 93 = .ok (.aload_n 0, 1) := by decide +kernel
theorem dX6_hang_94 : decode cX6_hang 94 = .ok (.getfield 31, 3) := by decide +kernel
theorem dX6_hang_97 : decode cX6_hang 97 = .ok (.getfield 79, 3) := by decide +kernel
theorem dX6_hang_100 : decode cX6_hang 100 = .ok (.iload 5, 2) := by decide +kernel
theorem dX6_hang_102 : decode cX6_hang 102 = .ok (.iload 4, 2) := by decide +kernel
theorem dX6_hang_104 : decode cX6_hang 104 = .ok (.iastore, 1) := by decide +kernel
theorem dX6_hang_105 : decode cX6_hang 105 = .ok (.aload_n 0, 1) := by decide +kernel
theorem dX6_hang_106 : decode cX6_hang 106 = .ok (.getfield 31, 3) := by decide +kernel
theorem dX6_hang_109 : decode cX6_hang 109 = .ok (.getfield 82, 3) := by decide +kernel
theorem dX6_hang_112 : decode cX6_hang 112 = .ok (.iload 5, 2) := by decide +kernel
theorem dX6_hang_114 : decode cX6_hang 114 = .ok (.iconst 0, 1) := by decide +kernel
theorem dX6_hang_115 : decode cX6_hang 115 = .ok (.iastore, 1) := by decide +kernel
theorem dX6_hang_116 : decode cX6_hang 116 = .ok (.aload_n 0, 1) := by decide +kernel
theorem dX6_hang_117 : decode cX6_hang 117 = .ok (.getfield 31, 3) := by decide +kernel
theorem dX6_hang_120 : decode cX6_hang 120 = .ok (.getfield 88, 3) := by decide +kernel
theorem dX6_hang_123 : decode cX6_hang 123 = .ok (.iload 5, 2) := by decide +kernel
theorem dX6_hang_125 : decode cX6_hang 125 = .ok (.iconst 0, 1) := by decide +kernel
theorem dX6_hang_126 : decode cX6_hang 126 = .ok (.iastore, 1) := by decide +kernel
theorem dX6_hang_127 : decode cX6_hang 127 = .ok (.aload_n 0, 1) := by decide +kernel
theorem dX6_hang_128 : decode cX6_hang 128 = .ok (.getfield 31, 3) := by decide +kernel
theorem dX6_hang_131 : decode cX6_hang 131 = .ok (.iconst 2, 1) := by decide +kernel
theorem dX6_hang_132 : decode cX6_hang 132 = .ok (.invokevirtual 114, 3) := by decide +kernel
theorem dX6_hang_135 : decode cX6_hang 135 = .ok (.ireturn, 1) := by decide +kernel
theorem dX6_take_0 : decode cX6_take 0 = .ok (.aload_n 0, 1) := by decide +kernel
theorem dX6_take_1 : decode cX6_take 1 = .ok (.iconst 0, 1) := by decide +kernel
theorem dX6_take_2 : decode cX6_take 2 = .ok (.putfield 41, 3) := by decide +kernel
theorem dX6_take_5 : decode cX6_take 5 = .ok (.iload_n 1, 1) := by decide +kernel
theorem dX6_take_6 : decode cX6_take 6 = .ok (.iload_n 2, 1) := by decide +kernel
theorem dX6_take_7 : decode cX6_take 7 = .ok (.invokestatic 107, 3) := by decide +kernel
theorem dX6_take_10 : decode cX6_take 10 = .ok (.ifCond .ne 9, 3) := by decide +kernel
theorem dX6_take_13 : decode cX6_take 13 = .ok (.aload_n 0, 1) := by decide +kernel
theorem dX6_take_14 : decode cX6_take 14 = .ok (.iconst 1, 1) := by decide +kernel
theorem dX6_take_15 : decode cX6_take 15 = .ok (.invokevirtual 104, 3) := by decide +kernel
theorem dX6_take_18 : decode cX6_take 18 = .ok (.ireturn, 1) := by decide +kernel
theorem dX6_take_19 : decode cX6_take 19 = .ok (.bipush 8, 2) := by decide +kernel
theorem dX6_take_21 : decode cX6_take 21 = .ok (.iload_n 1, 1) := by decide +kernel
theorem dX6_take_22 : decode cX6_take 22 = .ok (.imul, 1) := by decide +kernel
theorem dX6_take_23 : decode cX6_take 23 = .ok (.iload_n 2, 1) := by decide +kernel
theorem dX6_take_24 : decode cX6_take 24 = .ok (.iadd, 1) := by decide +kernel
theorem dX6_take_25 : decode cX6_take 25 = .ok (.istore_n 3, 1) := by decide +kernel
theorem dX6_take_26 : decode cX6_take 26 = .ok (.aload_n 0, 1) := by decide +kernel
theorem dX6_take_27 : decode cX6_take 27 = .ok (.getfield 31, 3) := by decide +kernel
theorem dX6_take_30 : decode cX6_take 30 = .ok (.iload_n 3, 1) := by decide +kernel
theorem dX6_take_31 : decode cX6_take 31 = .ok (.invokevirtual 56, 3) := by decide +kernel
theorem dX6_take_34 : decode cX6_take 34 = .ok (.ifCond .ne 9, 3) := by decide +kernel
theorem dX6_take_37 : decode cX6_take 37 = .ok (.aload_n 0, 1) := by decide +kernel
theorem dX6_take_38 : decode cX6_take 38 = .ok (.iconst 2, 1) := by decide +kernel
theorem dX6_take_39 : decode cX6_take 39 = .ok (.invokevirtual 104, 3) := by decide +kernel
theorem dX6_take_42 : decode cX6_take 42 = .ok (.ireturn, 1) := by decide +kernel
theorem dX6_take_43 : decode cX6_take 43 = .ok (.aload_n 0, 1) := by decide +kernel
theorem dX6_take_44 : decode cX6_take 44 = .ok (.getfield 31, 3) := by decide +kernel
theorem dX6_take_47 : decode cX6_take 47 = .ok (.getfield 60, 3) := by decide +kernel
theorem dX6_take_50 : decode cX6_take 50 = .ok (.iload_n 3, 1) := by decide +kernel
theorem dX6_take_51 : decode cX6_take 51 = .ok (.iconst (-1), 1) := by decide +kernel
theorem dX6_take_52 : decode cX6_take 52 = .ok (.iastore, 1) := by decide +kernel
theorem dX6_take_53 : decode cX6_take 53 = .ok (.aload_n 0, 1) := by decide +kernel
theorem dX6_take_54 : decode cX6_take 54 = .ok (.getfield 31, 3) := by decide +kernel
theorem dX6_take_57 : decode cX6_take 57 = .ok (.iload_n 3, 1) := by decide +kernel
theorem dX6_take_58 : decode cX6_take 58 = .ok (.invokevirtual 85, 3) := by decide +kernel
theorem dX6_take_61 : decode cX6_take 61 = .ok (.ireturn, 1) := by decide +kernel
theorem dX6_move_0 : decode cX6_move 0 = .ok (.aload_n 0, 1) := by decide +kernel
theorem dX6_move_1 : decode cX6_move 1 = .ok (.iconst 0, 1) := by decide +kernel
theorem dX6_move_2 : decode cX6_move 2 = .ok (.putfield 41, 3) := by decide +kernel
theorem dX6_move_5 : decode cX6_move 5 = .ok (.iload_n 1, 1) := by decide +kernel
theorem dX6_move_6 : decode cX6_move 6 = .ok (.iload_n 2, 1) := by decide +kernel
theorem dX6_move_7 : decode cX6_move 7 = .ok (.invokestatic 107, 3) := by decide +kernel
theorem dX6_move_10 : decode cX6_move 10 = .ok (.ifCond .eq 12, 3) := by decide +kernel
theorem dX6_move_13 : decode cX6_move 13 = .ok (.iload_n 3, 1) := by decide +kernel
theorem dX6_move_14 : decode cX6_move 14 = .ok (.iload 4, 2) := by decide +kernel
theorem dX6_move_16 : decode cX6_move 16 = .ok (.invokestatic 107, 3) := by decide +kernel
theorem dX6_move_19 : decode cX6_move 19 = .ok (.ifCond .ne 9, 3) := by decide +kernel
theorem dX6_move_22 : decode cX6_move 22 = .ok (.aload_n 0, 1) := by decide +kernel
theorem dX6_move_23 : decode cX6_move 23 = .ok (.iconst 1, 1) := by decide +kernel
theorem dX6_move_24 : decode cX6_move 24 = .ok (.invokevirtual 104, 3) := by decide +kernel
theorem dX6_move_27 : decode cX6_move 27 = .ok (.ireturn, 1) := by decide +kernel
theorem dX6_move_28 : decode cX6_move 28 = .ok (.bipush 8, 2) := by decide +kernel
theorem dX6_move_30 : decode cX6_move 30 = .ok (.iload_n 1, 1) := by decide +kernel
theorem dX6_move_31 : decode cX6_move 31 = .ok (.imul, 1) := by decide +kernel
theorem dX6_move_32 : decode cX6_move 32 = .ok (.iload_n 2, 1) := by decide +kernel
theorem dX6_move_33 : decode cX6_move 33 = .ok (.iadd, 1) := by decide +kernel
theorem dX6_move_34 : decode cX6_move 34 = .ok (.istore 5, 2) := by decide +kernel
theorem dX6_move_36 : decode cX6_move 36 = .ok (.bipush 8, 2) := by decide +kernel
theorem dX6_move_38 : decode cX6_move 38 = .ok (.iload_n 3, 1) := by decide +kernel
theorem dX6_move_39 : decode cX6_move 39 = .ok (.imul, 1) := by decide +kernel
theorem dX6_move_40 : decode cX6_move 40 = .ok (.iload 4, 2) := by decide +kernel
theorem dX6_move_42 : decode cX6_move 42 = .ok (.iadd, 1) := by decide +kernel
theorem dX6_move_43 : decode cX6_move 43 = .ok (.istore 6, 2) := by decide +kernel
theorem dX6_move_45 : decode cX6_move 45 = .ok (.aload_n 0, 1) := by decide +kernel
theorem dX6_move_46 : decode cX6_move 46 = .ok (.getfield 31, 3) := by decide +kernel
theorem dX6_move_49 : decode cX6_move 49 = .ok (.iload 5, 2) := by decide +kernel
theorem dX6_move_51 : decode cX6_move 51 = .ok (.invokevirtual 56, 3) := by decide +kernel
theorem dX6_move_54 : decode cX6_move 54 = .ok (.ifCond .eq 15, 3) := by decide +kernel
theorem dX6_move_57 : decode cX6_move 57 = .ok (.aload_n 0, 1) := by decide +kernel
theorem dX6_move_58 : decode cX6_move 58 = .ok (.getfield 31, 3) := by decide +kernel
theorem dX6_move_61 : decode cX6_move 61 = .ok (.iload 6, 2) := by decide +kernel
theorem dX6_move_63 : decode cX6_move 63 = .ok (.invokevirtual 56, 3) := by decide +kernel
theorem dX6_move_66 : decode cX6_move 66 = .ok (.ifCond .eq 9, 3) := by decide +kernel
theorem dX6_move_69 : decode cX6_move 69 = .ok (.aload_n 0, 1) := by decide +kernel
theorem dX6_move_70 : decode cX6_move 70 = .ok (.iconst 2, 1) := by decide +kernel
theorem dX6_move_71 : decode cX6_move 71 = .ok (.invokevirtual 104, 3) := by decide +kernel
theorem dX6_move_74 : decode cX6_move 74 = .ok (.ireturn, 1) := by decide +kernel
theorem dX6_move_75 : decode cX6_move 75 = .ok (.aload_n 0, 1) := by decide +kernel
theorem dX6_move_76 : decode cX6_move 76 = .ok (.getfield 31, 3) := by decide +kernel
theorem dX6_move_79 : decode cX6_move 79 = .ok (.iload 5, 2) := by decide +kernel
theorem dX6_move_81 : decode cX6_move 81 = .ok (.iload 6, 2) := by decide +kernel
theorem dX6_move_83 : decode cX6_move 83 = .ok (.invokevirtual 117, 3) := by decide +kernel
theorem dX6_move_86 : decode cX6_move 86 = .ok (.aload_n 0, 1) := by decide +kernel
theorem dX6_move_87 : decode cX6_move 87 = .ok (.getfield 31, 3) := by decide +kernel
theorem dX6_move_90 : decode cX6_move 90 = .ok (.iload 6, 2) := by decide +kernel
theorem dX6_move_92 : decode cX6_move 92 = .ok (.invokevirtual 121, 3) := by decide +kernel
theorem dX6_move_95 : decode cX6_move 95 = .ok (.ireturn, 1) := by decide +kernel
theorem dX6_turn_0 : decode cX6_turn 0 = .ok (.aload_n 0, 1) := by decide +kernel
theorem dX6_turn_1 : decode cX6_turn 1 = .ok (.iconst 0, 1) := by decide +kernel
theorem dX6_turn_2 : decode cX6_turn 2 = .ok (.putfield 41, 3) := by decide +kernel
theorem dX6_turn_5 : decode cX6_turn 5 = .ok (.iload_n 1, 1) := by decide +kernel
theorem dX6_turn_6 : decode cX6_turn 6 = .ok (.iconst 0, 1) := by decide +kernel
theorem dX6_turn_7 : decode cX6_turn 7 = .ok (.iconst 4, 1) := by decide +kernel
theorem dX6_turn_8 : decode cX6_turn 8 = .ok (.invokestatic 45, 3) := by decide +kernel
theorem dX6_turn_11 : decode cX6_turn 11 = .ok (.ifCond .ne 9, 3) := by decide +kernel
theorem dX6_turn_14 : decode cX6_turn 14 = .ok (.aload_n 0, 1) := by decide +kernel
theorem dX6_turn_15 : decode cX6_turn 15 = .ok (.iconst 1, 1) := by decide +kernel
theorem dX6_turn_16 : decode cX6_turn 16 = .ok (.invokevirtual 104, 3) := by decide +kernel
theorem dX6_turn_19 : decode cX6_turn 19 = .ok (.ireturn, 1) := by decide +kernel
theorem dX6_turn_20 : decode cX6_turn 20 = .ok (.aload_n 0, 1) := by decide +kernel
theorem dX6_turn_21 : decode cX6_turn 21 = .ok (.getfield 31, 3) := by decide +kernel
theorem dX6_turn_24 : decode cX6_turn 24 = .ok (.iload_n 1, 1) := by decide +kernel
theorem dX6_turn_25 : decode cX6_turn 25 = .ok (.invokevirtual 124, 3) := by decide +kernel
theorem dX6_turn_28 : decode cX6_turn 28 = .ok (.iconst 0, 1) := by decide +kernel
theorem dX6_turn_29 : decode cX6_turn 29 = .ok (.istore_n 2, 1) := by decide +kernel
theorem dX6_turn_30 : decode cX6_turn 30 = .ok (.iconst 0, 1) := by decide +kernel
theorem dX6_turn_31 : decode cX6_turn 31 = .ok (.istore_n 3, 1) := by decide +kernel
theorem dX6_turn_32 : decode cX6_turn 32 = .ok (.iload_n 3, 1) := by decide +kernel
theorem dX6_turn_33 : decode cX6_turn 33 = .ok (.bipush 8, 2) := by decide +kernel
theorem dX6_turn_35 : decode cX6_turn 35 = .ok (.if_icmp .ge 33, 3) := by decide +kernel
theorem dX6_turn_38 : decode cX6_turn 38 = .ok (.iload_n 2, 1) := by decide +kernel
theorem dX6_turn_39 : decode cX6_turn 39 = .ok (.aload_n 0, 1) := by decide +kernel
theorem dX6_turn_40 : decode cX6_turn 40 = .ok (.getfield 31, 3) := by decide +kernel
theorem dX6_turn_43 : decode cX6_turn 43 = .ok (.bipush 8, 2) := by decide +kernel
theorem dX6_turn_45 : decode cX6_turn 45 = .ok (.iload_n 1, 1) := by decide +kernel
theorem dX6_turn_46 : decode cX6_turn 46 = .ok (.imul, 1) := by decide +kernel
theorem dX6_turn_47 : decode cX6_turn 47 = .ok (.iload_n 3, 1) := by decide +kernel
theorem dX6_turn_48 : decode cX6_turn 48 = .ok (.iadd, 1) := by decide +kernel
theorem dX6_turn_49 : decode cX6_turn 49 = .ok (.invokevirtual 56, 3) := by decide +kernel
theorem dX6_turn_52 : decode cX6_turn 52 = .ok (.ifCond .eq 7, 3) := by decide +kernel
theorem dX6_turn_55 : decode cX6_turn 55 = .ok (.iconst 1, 1) := by decide +kernel
theorem dX6_turn_56 : decode cX6_turn 56 = .ok (.goto 4, 3) := by decide +kernel
theorem dX6_turn_59 : decode cX6_turn 59 = .ok (.iconst 0, 1) := by decide +kernel
theorem dX6_turn_60 : decode cX6_turn 60 = .ok (.iadd, 1) := by decide +kernel
theorem dX6_turn_61 : decode cX6_turn 61 = .ok (.istore_n 2, 1) := by decide +kernel
theorem dX6_turn_62 : decode cX6_turn 62 = .ok (.iinc 3 1, 3) := by decide +kernel
theorem dX6_turn_65 : decode cX6_turn 65 = .ok (.goto (-33), 3) := by decide +kernel
theorem dX6_turn_68 : decode cX6_turn 68 = .ok (.iload_n 2, 1) := by decide +kernel
theorem dX6_turn_69 : decode cX6_turn 69 = .ok (.ireturn, 1) := by decide +kernel
theorem dX6_setWindow_0 : decode cX6_setWindow 0 = .ok (.aload_n 0, 1) := by decide +kernel
theorem dX6_setWindow_1 : decode cX6_setWindow 1 = .ok (.iconst 0, 1) := by decide +kernel
theorem dX6_setWindow_2 : decode cX6_setWindow 2 = .ok (.putfield 41, 3) := by decide +kernel
theorem dX6_setWindow_5 : decode cX6_setWindow 5 = .ok (.iload_n 1, 1) := by decide +kernel
theorem dX6_setWindow_6 : decode cX6_setWindow 6 = .ok (.iconst 0, 1) := by decide +kernel
theorem dX6_setWindow_7 : decode cX6_setWindow 7 = .ok (.iconst 3, 1) := by decide +kernel
theorem dX6_setWindow_8 : decode cX6_setWindow 8 = .ok (.invokestatic 45, 3) := by decide +kernel
theorem dX6_setWindow_11 : decode cX6_setWindow 11 = .ok (.ifCond .ne 9, 3) := by decide +kernel
theorem dX6_setWindow_14 : decode cX6_setWindow 14 = .ok (.aload_n 0, 1) := by decide +kernel
theorem dX6_setWindow_15 : decode cX6_setWindow 15 = .ok (.iconst 1, 1) := by decide +kernel
theorem dX6_setWindow_16 : decode cX6_setWindow 16 = .ok (.invokevirtual 104, 3) := by decide +kernel
theorem dX6_setWindow_19 : decode cX6_setWindow 19 = .ok (.ireturn, 1) := by decide +kernel
theorem dX6_setWindow_20 : decode cX6_setWindow 20 = .ok (.aload_n 0, 1) := by decide +kernel
theorem dX6_setWindow_21 : decode cX6_setWindow 21 = .ok (.getfield 63, 3) := by decide +kernel
theorem dX6_setWindow_24 : decode cX6_setWindow 24 = .ok (.istore_n 2, 1) := by decide +kernel
theorem dX6_setWindow_25 : decode cX6_setWindow 25 = .ok (.aload_n 0, 1) := by decide +kernel
theorem dX6_setWindow_26 : decode cX6_setWindow 26 = .ok (.iload_n 1, 1) := by decide +kernel
theorem dX6_setWindow_27 : decode cX6_setWindow 27 = .ok (.putfield 63, 3) := by decide +kernel
theorem dX6_setWindow_30 : decode cX6_setWindow 30 = .ok (.iload_n 2, 1) := by decide +kernel
theorem dX6_setWindow_31 : decode cX6_setWindow 31 = .ok (.ireturn, 1) := by decide +kernel
theorem dX6_fits_0 : decode cX6_fits 0 = .ok (.aload_n 0, 1) := by decide +kernel
theorem dX6_fits_1 : decode cX6_fits 1 = .ok (.getfield 31, 3) := by decide +kernel
theorem dX6_fits_4 : decode cX6_fits 4 = .ok (.getfield 60, 3) := by decide +kernel
theorem dX6_fits_7 : decode cX6_fits 7 = .ok (.iload_n 1, 1) := by decide +kernel
theorem dX6_fits_8 : decode cX6_fits 8 = .ok (.iaload, 1) := by decide +kernel
theorem dX6_fits_9 : decode cX6_fits 9 = .ok (.aload_n 0, 1) := by decide +kernel
theorem dX6_fits_10 : decode cX6_fits 10 = .ok (.getfield 16, 3) := by decide +kernel
theorem dX6_fits_13 : decode cX6_fits 13 = .ok (.iload_n 2, 1) := by decide +kernel
theorem dX6_fits_14 : decode cX6_fits 14 = .ok (.iaload, 1) := by decide +kernel
theorem dX6_fits_15 : decode cX6_fits 15 = .ok (.if_icmp .ne 36, 3) := by decide +kernel
theorem dX6_fits_18 : decode cX6_fits 18 = .ok (.aload_n 0, 1) := by decide +kernel
theorem dX6_fits_19 : decode cX6_fits 19 = .ok (.getfield 31, 3) := by decide +kernel
theorem dX6_fits_22 : decode cX6_fits 22 = .ok (.iload_n 1, 1) := by decide +kernel
theorem dX6_fits_23 : decode cX6_fits 23 = .ok (.invokevirtual 85, 3) := by decide +kernel
theorem dX6_fits_26 : decode cX6_fits 26 = .ok (.aload_n 0, 1) := by decide +kernel
theorem dX6_fits_27 : decode cX6_fits 27 = .ok (.getfield 22, 3) := by decide +kernel
theorem dX6_fits_30 : decode cX6_fits 30 = .ok (.iload_n 2, 1) := by decide +kernel
theorem dX6_fits_31 : decode cX6_fits 31 = .ok (.iaload, 1) := by decide +kernel
theorem dX6_fits_32 : decode cX6_fits 32 = .ok (.if_icmp .gt 19, 3) := by decide +kernel
theorem dX6_fits_35 : decode cX6_fits 35 = .ok (.aload_n 0, 1) := by decide +kernel
theorem dX6_fits_36 : decode cX6_fits 36 = .ok (.getfield 31, 3) := by decide +kernel
theorem dX6_fits_39 : decode cX6_fits 39 = .ok (.getfield 88, 3) := by decide +kernel
theorem dX6_fits_42 : decode cX6_fits 42 = .ok (.iload_n 1, 1) := by decide +kernel
theorem dX6_fits_43 : decode cX6_fits 43 = .ok (.iaload, 1) := by decide +kernel
theorem dX6_fits_44 : decode cX6_fits 44 = .ok (.ifCond .ne 7, 3) := by decide +kernel
theorem dX6_fits_47 : decode cX6_fits 47 = .ok (.iconst 1, 1) := by decide +kernel
theorem dX6_fits_48 : decode cX6_fits 48 = .ok (.goto 4, 3) := by decide +kernel
theorem dX6_fits_51 : decode cX6_fits 51 = .ok (.iconst 0, 1) := by decide +kernel
theorem dX6_fits_52 : decode cX6_fits 52 = .ok (.ireturn, 1) := by decide +kernel
theorem dX6_order_0 : decode cX6_order 0 = .ok (.aload_n 0, 1) := by decide +kernel
theorem dX6_order_1 : decode cX6_order 1 = .ok (.iconst 0, 1) := by decide +kernel
theorem dX6_order_2 : decode cX6_order 2 = .ok (.putfield 41, 3) := by decide +kernel
theorem dX6_order_5 : decode cX6_order 5 = .ok (.aload_n 0, 1) := by decide +kernel
theorem dX6_order_6 : decode cX6_order 6 = .ok (.iload_n 1, 1) := by decide +kernel
theorem dX6_order_7 : decode cX6_order 7 = .ok (.invokevirtual 111, 3) := by decide +kernel
theorem dX6_order_10 : decode cX6_order 10 = .ok (.ifCond .ne 9, 3) := by decide +kernel
theorem dX6_order_13 : decode cX6_order 13 = .ok (.aload_n 0, 1) := by decide +kernel
theorem dX6_order_14 : decode cX6_order 14 = .ok (.iconst 1, 1) := by decide +kernel
theorem dX6_order_15 : decode cX6_order 15 = .ok (.invokevirtual 104, 3) := by decide +kernel
theorem dX6_order_18 : decode cX6_order 18 = .ok (.ireturn, 1) := by decide +kernel
theorem dX6_order_19 : decode cX6_order 19 = .ok (.iload_n 2, 1) := by decide +kernel
theorem dX6_order_20 : decode cX6_order 20 = .ok (.iconst 1, 1) := by decide +kernel
theorem dX6_order_21 : decode cX6_order 21 = .ok (.bipush 9, 2) := by decide +kernel
theorem dX6_order_23 : decode cX6_order 23 = .ok (.invokestatic 45, 3) := by decide +kernel
theorem dX6_order_26 : decode cX6_order 26 = .ok (.ifCond .eq 13, 3) := by decide +kernel
theorem dX6_order_29 : decode cX6_order 29 = .ok (.iload_n 3, 1) := by decide +kernel
theorem dX6_order_30 : decode cX6_order 30 = .ok (.iconst 0, 1) := by decide +kernel
theorem dX6_order_31 : decode cX6_order 31 = .ok (.bipush 60, 2) := by decide +kernel
theorem dX6_order_33 : decode cX6_order 33 = .ok (.invokestatic 45, 3) := by decide +kernel
theorem dX6_order_36 : decode cX6_order 36 = .ok (.ifCond .ne 9, 3) := by decide +kernel
theorem dX6_order_39 : decode cX6_order 39 = .ok (.aload_n 0, 1) := by decide +kernel
theorem dX6_order_40 : decode cX6_order 40 = .ok (.iconst 2, 1) := by decide +kernel
theorem dX6_order_41 : decode cX6_order 41 = .ok (.invokevirtual 104, 3) := by decide +kernel
theorem dX6_order_44 : decode cX6_order 44 = .ok (.ireturn, 1) := by decide +kernel
theorem dX6_order_45 : decode cX6_order 45 = .ok (.aload_n 0, 1) := by decide +kernel
theorem dX6_order_46 : decode cX6_order 46 = .ok (.getfield 128, 3) := by decide +kernel
theorem dX6_order_49 : decode cX6_order 49 = .ok (.bipush 6, 2) := by decide +kernel
theorem dX6_order_51 : decode cX6_order 51 = .ok (.if_icmp .ne 9, 3) := by decide +kernel
theorem dX6_order_54 : decode cX6_order 54 = .ok (.aload_n 0, 1) := by decide +kernel
theorem dX6_order_55 : decode cX6_order 55 = .ok (.iconst 3, 1) := by decide +kernel
theorem dX6_order_56 : decode cX6_order 56 = .ok (.invokevirtual 104, 3) := by decide +kernel
theorem dX6_order_59 : decode cX6_order 59 = .ok (.ireturn, 1) := by decide +kernel
theorem dX6_order_60 : decode cX6_order 60 = .ok (.aload_n 0, 1) := by decide +kernel
theorem dX6_order_61 : decode cX6_order 61 = .ok (.getfield 16, 3) := by decide +kernel
theorem dX6_order_64 : decode cX6_order 64 = .ok (.aload_n 0, 1) := by decide +kernel
theorem dX6_order_65 : decode cX6_order 65 = .ok (.getfield 128, 3) := by decide +kernel
theorem dX6_order_68 : decode cX6_order 68 = .ok (.iload_n 1, 1) := by decide +kernel
theorem dX6_order_69 : decode cX6_order 69 = .ok (.iastore, 1) := by decide +kernel
theorem dX6_order_70 : decode cX6_order 70 = .ok (.aload_n 0, 1) := by decide +kernel
theorem dX6_order_71 : decode cX6_order 71 = .ok (.getfield 19, 3) := by decide +kernel
theorem dX6_order_74 : decode cX6_order 74 = .ok (.aload_n 0, 1) := by decide +kernel
theorem dX6_order_75 : decode cX6_order 75 = .ok (.getfield 128, 3) := by decide +kernel
theorem dX6_order_78 : decode cX6_order 78 = .ok (.iload_n 2, 1) := by decide +kernel
theorem dX6_order_79 : decode cX6_order 79 = .ok (.iastore, 1) := by decide +kernel
theorem dX6_order_80 : decode cX6_order 80 = .ok (.aload_n 0, 1) := by decide +kernel
theorem dX6_order_81 : decode cX6_order 81 = .ok (.getfield 22, 3) := by decide +kernel
theorem dX6_order_84 : decode cX6_order 84 = .ok (.aload_n 0, 1) := by decide +kernel
theorem dX6_order_85 : decode cX6_order 85 = .ok (.getfield 128, 3) := by decide +kernel
theorem dX6_order_88 : decode cX6_order 88 = .ok (.iload_n 3, 1) := by decide +kernel
theorem dX6_order_89 : decode cX6_order 89 = .ok (.iastore, 1) := by decide +kernel
theorem dX6_order_90 : decode cX6_order 90 = .ok (.aload_n 0, 1) := by decide +kernel
theorem dX6_order_91 : decode cX6_order 91 = .ok (.dup, 1) := by decide +kernel
theorem dX6_order_92 : decode cX6_order 92 = .ok (.getfield 128, 3) := by decide +kernel
theorem dX6_order_95 : decode cX6_order 95 = .ok (.iconst 1, 1) := by decide +kernel
theorem dX6_order_96 : decode cX6_order 96 = .ok (.iadd, 1) := by decide +kernel
theorem dX6_order_97 : decode cX6_order 97 = .ok (.putfield 128, 3) := by decide +kernel
theorem dX6_order_100 : decode cX6_order 100 = .ok (.aload_n 0, 1) := by decide +kernel
theorem dX6_order_101 : decode cX6_order 101 = .ok (.getfield 128, 3) := by decide +kernel
theorem dX6_order_104 : decode cX6_order 104 = .ok (.iconst 1, 1) := by decide +kernel
theorem dX6_order_105 : decode cX6_order 105 = .ok (.isub, 1) := by decide +kernel
theorem dX6_order_106 : decode cX6_order 106 = .ok (.ireturn, 1) := by decide +kernel
theorem dX6_filled_0 : decode cX6_filled 0 = .ok (.iconst 0, 1) := by decide +kernel
theorem dX6_filled_1 : decode cX6_filled 1 = .ok (.istore_n 2, 1) := by decide +kernel
theorem dX6_filled_2 : decode cX6_filled 2 = .ok (.iconst 4, 1) := by decide +kernel
theorem dX6_filled_3 : decode cX6_filled 3 = .ok (.istore_n 3, 1) := by decide +kernel
theorem dX6_filled_4 : decode cX6_filled 4 = .ok (.iload_n 3, 1) := by decide +kernel
theorem dX6_filled_5 : decode cX6_filled 5 = .ok (.ifCond .lt 84, 3) := by decide +kernel
theorem dX6_filled_8 : decode cX6_filled 8 = .ok (.bipush 8, 2) := by decide +kernel
theorem dX6_filled_10 : decode cX6_filled 10 = .ok (.iload_n 3, 1) := by decide +kernel
theorem dX6_filled_11 : decode cX6_filled 11 = .ok (.imul, 1) := by decide +kernel
theorem dX6_filled_12 : decode cX6_filled 12 = .ok (.istore 4, 2) := by decide +kernel
theorem dX6_filled_14 : decode cX6_filled 14 = .ok (.iload 4, 2) := by decide +kernel
theorem dX6_filled_16 : decode cX6_filled 16 = .ok (.bipush 8, 2) := by decide +kernel
theorem dX6_filled_18 : decode cX6_filled 18 = .ok (.iload_n 3, 1) := by decide +kernel
theorem dX6_filled_19 : decode cX6_filled 19 = .ok (.iconst 1, 1) := by decide +kernel
theorem dX6_filled_20 : decode cX6_filled 20 = .ok (.iadd, 1) := by decide +kernel
theorem dX6_filled_21 : decode cX6_filled 21 = .ok (.imul, 1) := by decide +kernel
theorem dX6_filled_22 : decode cX6_filled 22 = .ok (.if_icmp .ge 61, 3) := by decide +kernel
theorem dX6_filled_25 : decode cX6_filled 25 = .ok (.aload_n 0, 1) := by decide +kernel
theorem dX6_filled_26 : decode cX6_filled 26 = .ok (.getfield 25, 3) := by decide +kernel
theorem dX6_filled_29 : decode cX6_filled 29 = .ok (.iload_n 1, 1) := by decide +kernel
theorem dX6_filled_30 : decode cX6_filled 30 = .ok (.iaload, 1) := by decide +kernel
theorem dX6_filled_31 : decode cX6_filled 31 = .ok (.aload_n 0, 1) := by decide +kernel
theorem dX6_filled_32 : decode cX6_filled 32 = .ok (.getfield 19, 3) := by decide +kernel
theorem dX6_filled_35 : decode cX6_filled 35 = .ok (.iload_n 1, 1) := by decide +kernel
theorem dX6_filled_36 : decode cX6_filled 36 = .ok (.iaload, 1) := by decide +kernel
theorem dX6_filled_37 : decode cX6_filled 37 = .ok (.if_icmp .ge 46, 3) := by decide +kernel
theorem dX6_filled_40 : decode cX6_filled 40 = .ok (.aload_n 0, 1) := by decide +kernel
theorem dX6_filled_41 : decode cX6_filled 41 = .ok (.iload 4, 2) := by decide +kernel
theorem dX6_filled_43 : decode cX6_filled 43 = .ok (.iload_n 1, 1) := by decide +kernel
theorem dX6_filled_44 : decode cX6_filled 44 = .ok (.invokevirtual 131, 3) := by decide +kernel
theorem dX6_filled_47 : decode cX6_filled 47 = .ok (.ifCond .ne 6, 3) := by decide +kernel
theorem dX6_filled_50 : decode cX6_filled 50 = .ok (.goto 27, 3) := by decide +kernel
theorem dX6_filled_53 : decode cX6_filled 53 = .ok (.aload_n 0, 1) := by decide +kernel
theorem dX6_filled_54 : decode cX6_filled 54 = .ok (.getfield 31, 3) := by decide +kernel
theorem dX6_filled_57 : decode cX6_filled 57 = .ok (.getfield 60, 3) := by decide +kernel
theorem dX6_filled_60 : decode cX6_filled 60 = .ok (.iload 4, 2) := by decide +kernel
theorem dX6_filled_62 : decode cX6_filled 62 = .ok (.iconst (-1), 1) := by decide +kernel
theorem dX6_filled_63 : decode cX6_filled 63 = .ok (.iastore, 1) := by decide +kernel
theorem dX6_filled_64 : decode cX6_filled 64 = .ok (.aload_n 0, 1) := by decide +kernel
theorem dX6_filled_65 : decode cX6_filled 65 = .ok (.getfield 25, 3) := by decide +kernel
theorem dX6_filled_68 : decode cX6_filled 68 = .ok (.iload_n 1, 1) := by decide +kernel
theorem dX6_filled_69 : decode cX6_filled 69 = .ok (.dup2, 1) := by decide +kernel
theorem dX6_filled_70 : decode cX6_filled 70 = .ok (.iaload, 1) := by decide +kernel
theorem dX6_filled_71 : decode cX6_filled 71 = .ok (.iconst 1, 1) := by decide +kernel
theorem dX6_filled_72 : decode cX6_filled 72 = .ok (.iadd, 1) := by decide +kernel
theorem dX6_filled_73 : decode cX6_filled 73 = .ok (.iastore, 1) := by decide +kernel
theorem dX6_filled_74 : decode cX6_filled 74 = .ok (.iinc 2 1, 3) := by decide +kernel
theorem dX6_filled_77 : decode cX6_filled 77 = .ok (.iinc 4 1, 3) := by decide +kernel
theorem dX6_filled_80 : decode cX6_filled 80 = .ok (.goto (-66), 3) := by decide +kernel
theorem dX6_filled_83 : decode cX6_filled 83 = .ok (.iinc 3 (-1), 3) := by decide +kernel
theorem dX6_filled_86 : decode cX6_filled 86 = .ok (.goto (-82), 3) := by decide +kernel
theorem dX6_filled_89 : decode cX6_filled 89 = .ok (.iload_n 2, 1) := by decide +kernel
theorem dX6_filled_90 : decode cX6_filled 90 = .ok (.ireturn, 1) := by decide +kernel
theorem dX6_fill_0 : decode cX6_fill 0 = .ok (.aload_n 0, 1) := by decide +kernel
theorem dX6_fill_1 : decode cX6_fill 1 = .ok (.iconst 0, 1) := by decide +kernel
theorem dX6_fill_2 : decode cX6_fill 2 = .ok (.putfield 41, 3) := by decide +kernel
theorem dX6_fill_5 : decode cX6_fill 5 = .ok (.iconst 0, 1) := by decide +kernel
theorem dX6_fill_6 : decode cX6_fill 6 = .ok (.istore_n 1, 1) := by decide +kernel
theorem dX6_fill_7 : decode cX6_fill 7 = .ok (.iconst 0, 1) := by decide +kernel
theorem dX6_fill_8 : decode cX6_fill 8 = .ok (.istore_n 2, 1) := by decide +kernel
theorem dX6_fill_9 : decode cX6_fill 9 = .ok (.iload_n 2, 1) := by decide +kernel
theorem dX6_fill_10 : decode cX6_fill 10 = .ok (.aload_n 0, 1) := by decide +kernel
theorem dX6_fill_11 : decode cX6_fill 11 = .ok (.getfield 128, 3) := by decide +kernel
theorem dX6_fill_14 : decode cX6_fill 14 = .ok (.if_icmp .ge 17, 3) := by decide +kernel
theorem dX6_fill_17 : decode cX6_fill 17 = .ok (.iload_n 1, 1) := by decide +kernel
theorem dX6_fill_18 : decode cX6_fill 18 = .ok (.aload_n 0, 1) := by decide +kernel
theorem dX6_fill_19 : decode cX6_fill 19 = .ok (.iload_n 2, 1) := by decide +kernel
theorem dX6_fill_20 : decode cX6_fill 20 = .ok (.invokevirtual 134, 3) := by decide +kernel
theorem dX6_fill_23 : decode cX6_fill 23 = .ok (.iadd, 1) := by decide +kernel
theorem dX6_fill_24 : decode cX6_fill 24 = .ok (.istore_n 1, 1) := by decide +kernel
theorem dX6_fill_25 : decode cX6_fill 25 = .ok (.iinc 2 1, 3) := by decide +kernel
theorem dX6_fill_28 : decode cX6_fill 28 = .ok (.goto (-19), 3) := by decide +kernel
theorem dX6_fill_31 : decode cX6_fill 31 = .ok (.aload_n 0, 1) := by decide +kernel
theorem dX6_fill_32 : decode cX6_fill 32 = .ok (.dup, 1) := by decide +kernel
theorem dX6_fill_33 : decode cX6_fill 33 = .ok (.getfield 137, 3) := by decide +kernel
theorem dX6_fill_36 : decode cX6_fill 36 = .ok (.iload_n 1, 1) := by decide +kernel
theorem dX6_fill_37 : decode cX6_fill 37 = .ok (.iadd, 1) := by decide +kernel
theorem dX6_fill_38 : decode cX6_fill 38 = .ok (.putfield 137, 3) := by decide +kernel
theorem dX6_fill_41 : decode cX6_fill 41 = .ok (.iload_n 1, 1) := by decide +kernel
theorem dX6_fill_42 : decode cX6_fill 42 = .ok (.ireturn, 1) := by decide +kernel
theorem dX6_pass_0 : decode cX6_pass 0 = .ok (.aload_n 0, 1) := by decide +kernel
theorem dX6_pass_1 : decode cX6_pass 1 = .ok (.iconst 0, 1) := by decide +kernel
theorem dX6_pass_2 : decode cX6_pass 2 = .ok (.putfield 41, 3) := by decide +kernel
theorem dX6_pass_5 : decode cX6_pass 5 = .ok (.iload_n 1, 1) := by decide +kernel
theorem dX6_pass_6 : decode cX6_pass 6 = .ok (.iconst 1, 1) := by decide +kernel
theorem dX6_pass_7 : decode cX6_pass 7 = .ok (.bipush 60, 2) := by decide +kernel
theorem dX6_pass_9 : decode cX6_pass 9 = .ok (.invokestatic 45, 3) := by decide +kernel
theorem dX6_pass_12 : decode cX6_pass 12 = .ok (.ifCond .eq 13, 3) := by decide +kernel
theorem dX6_pass_15 : decode cX6_pass 15 = .ok (.iload_n 2, 1) := by decide +kernel
theorem dX6_pass_16 : decode cX6_pass 16 = .ok (.iconst 0, 1) := by decide +kernel
theorem dX6_pass_17 : decode cX6_pass 17 = .ok (.bipush 9, 2) := by decide +kernel
theorem dX6_pass_19 : decode cX6_pass 19 = .ok (.invokestatic 45, 3) := by decide +kernel
theorem dX6_pass_22 : decode cX6_pass 22 = .ok (.ifCond .ne 9, 3) := by decide +kernel
theorem dX6_pass_25 : decode cX6_pass 25 = .ok (.aload_n 0, 1) := by decide +kernel
theorem dX6_pass_26 : decode cX6_pass 26 = .ok (.iconst 1, 1) := by decide +kernel
theorem dX6_pass_27 : decode cX6_pass 27 = .ok (.invokevirtual 104, 3) := by decide +kernel
theorem dX6_pass_30 : decode cX6_pass 30 = .ok (.ireturn, 1) := by decide +kernel
theorem dX6_pass_31 : decode cX6_pass 31 = .ok (.aload_n 0, 1) := by decide +kernel
theorem dX6_pass_32 : decode cX6_pass 32 = .ok (.aload_n 0, 1) := by decide +kernel
theorem dX6_pass_33 : decode cX6_pass 33 = .ok (.getfield 31, 3) := by decide +kernel
theorem dX6_pass_36 : decode cX6_pass 36 = .ok (.iload_n 1, 1) := by decide +kernel
theorem dX6_pass_37 : decode cX6_pass 37 = .ok (.iload_n 2, 1) := by decide +kernel
theorem dX6_pass_38 : decode cX6_pass 38 = .ok (.invokevirtual 140, 3) := by decide +kernel
theorem dX6_pass_41 : decode cX6_pass 41 = .ok (.aload_n 0, 1) := by decide +kernel
theorem dX6_pass_42 : decode cX6_pass 42 = .ok (.getfield 31, 3) := by decide +kernel
theorem dX6_pass_45 : decode cX6_pass 45 = .ok (.iconst 3, 1) := by decide +kernel
theorem dX6_pass_46 : decode cX6_pass 46 = .ok (.invokevirtual 114, 3) := by decide +kernel
theorem dX6_pass_49 : decode cX6_pass 49 = .ok (.ireturn, 1) := by decide +kernel
theorem dX6_bundleTold_0 : decode cX6_bundleTold 0 = .ok (.aload_n 0, 1) := by decide +kernel
theorem dX6_bundleTold_1 : decode cX6_bundleTold 1 = .ok (.getfield 31, 3) := by decide +kernel
theorem dX6_bundleTold_4 : decode cX6_bundleTold 4 = .ok (.iload_n 1, 1) := by decide +kernel
theorem dX6_bundleTold_5 : decode cX6_bundleTold 5 = .ok (.invokevirtual 56, 3) := by decide +kernel
theorem dX6_bundleTold_8 : decode cX6_bundleTold 8 = .ok (.ifCond .ne 5, 3) := by decide +kernel
theorem dX6_bundleTold_11 : decode cX6_bundleTold 11 = .ok (.iconst (-1), 1) := by decide +kernel
theorem dX6_bundleTold_12 : decode cX6_bundleTold 12 = .ok (.ireturn, 1) := by decide +kernel
theorem dX6_bundleTold_13 : decode cX6_bundleTold 13 = .ok (.iload_n 2, 1) := by decide +kernel
theorem dX6_bundleTold_14 : decode cX6_bundleTold 14 = .ok (.tableswitch 110 0 6 #[42, 52, 62, 72, 81, 91, 101], 42) := by decide +kernel
theorem dX6_bundleTold_56 : decode cX6_bundleTold 56 = .ok (.aload_n 0, 1) := by decide +kernel
theorem dX6_bundleTold_57 : decode cX6_bundleTold 57 = .ok (.getfield 31, 3) := by decide +kernel
theorem dX6_bundleTold_60 : decode cX6_bundleTold 60 = .ok (.getfield 60, 3) := by decide +kernel
theorem dX6_bundleTold_63 : decode cX6_bundleTold 63 = .ok (.iload_n 1, 1) := by decide +kernel
theorem dX6_bundleTold_64 : decode cX6_bundleTold 64 = .ok (.iaload, 1) := by decide +kernel
theorem dX6_bundleTold_65 : decode cX6_bundleTold 65 = .ok (.ireturn, 1) := by decide +kernel
theorem dX6_bundleTold_66 : decode cX6_bundleTold 66 = .ok (.aload_n 0, 1) := by decide +kernel
theorem dX6_bundleTold_67 : decode cX6_bundleTold 67 = .ok (.getfield 31, 3) := by decide +kernel
theorem dX6_bundleTold_70 : decode cX6_bundleTold 70 = .ok (.getfield 76, 3) := by decide +kernel
theorem dX6_bundleTold_73 : decode cX6_bundleTold 73 = .ok (.iload_n 1, 1) := by decide +kernel
theorem dX6_bundleTold_74 : decode cX6_bundleTold 74 = .ok (.iaload, 1) := by decide +kernel
theorem dX6_bundleTold_75 : decode cX6_bundleTold 75 = .ok (.ireturn, 1) := by decide +kernel
theorem dX6_bundleTold_76 : decode cX6_bundleTold 76 = .ok (.aload_n 0, 1) := by decide +kernel
theorem dX6_bundleTold_77 : decode cX6_bundleTold 77 = .ok (.getfield 31, 3) := by decide +kernel
theorem dX6_bundleTold_80 : decode cX6_bundleTold 80 = .ok (.getfield 79, 3) := by decide +kernel
theorem dX6_bundleTold_83 : decode cX6_bundleTold 83 = .ok (.iload_n 1, 1) := by decide +kernel
theorem dX6_bundleTold_84 : decode cX6_bundleTold 84 = .ok (.iaload, 1) := by decide +kernel
theorem dX6_bundleTold_85 : decode cX6_bundleTold 85 = .ok (.ireturn, 1) := by decide +kernel
theorem dX6_bundleTold_86 : decode cX6_bundleTold 86 = .ok (.aload_n 0, 1) := by decide +kernel
theorem dX6_bundleTold_87 : decode cX6_bundleTold 87 = .ok (.getfield 31, 3) := by decide +kernel
theorem dX6_bundleTold_90 : decode cX6_bundleTold 90 = .ok (.iload_n 1, 1) := by decide +kernel
theorem dX6_bundleTold_91 : decode cX6_bundleTold 91 = .ok (.invokevirtual 85, 3) := by decide +kernel
theorem dX6_bundleTold_94 : decode cX6_bundleTold 94 = .ok (.ireturn, 1) := by decide +kernel
theorem dX6_bundleTold_95 : decode cX6_bundleTold 95 = .ok (.aload_n 0, 1) := by decide +kernel
theorem dX6_bundleTold_96 : decode cX6_bundleTold 96 = .ok (.getfield 31, 3) := by decide +kernel
theorem dX6_bundleTold_99 : decode cX6_bundleTold 99 = .ok (.getfield 82, 3) := by decide +kernel
theorem dX6_bundleTold_102 : decode cX6_bundleTold 102 = .ok (.iload_n 1, 1) := by decide +kernel
theorem dX6_bundleTold_103 : decode cX6_bundleTold 103 = .ok (.iaload, 1) := by decide +kernel
theorem dX6_bundleTold_104 : decode cX6_bundleTold 104 = .ok (.ireturn, 1) := by decide +kernel
theorem dX6_bundleTold_105 : decode cX6_bundleTold 105 = .ok (.aload_n 0, 1) := by decide +kernel
theorem dX6_bundleTold_106 : decode cX6_bundleTold 106 = .ok (.getfield 31, 3) := by decide +kernel
theorem dX6_bundleTold_109 : decode cX6_bundleTold 109 = .ok (.getfield 88, 3) := by decide +kernel
theorem dX6_bundleTold_112 : decode cX6_bundleTold 112 = .ok (.iload_n 1, 1) := by decide +kernel
theorem dX6_bundleTold_113 : decode cX6_bundleTold 113 = .ok (.iaload, 1) := by decide +kernel
theorem dX6_bundleTold_114 : decode cX6_bundleTold 114 = .ok (.ireturn, 1) := by decide +kernel
theorem dX6_bundleTold_115 : decode cX6_bundleTold 115 = .ok (.aload_n 0, 1) := by decide +kernel
theorem dX6_bundleTold_116 : decode cX6_bundleTold 116 = .ok (.getfield 31, 3) := by decide +kernel
theorem dX6_bundleTold_119 : decode cX6_bundleTold 119 = .ok (.iload_n 1, 1) := by decide +kernel
theorem dX6_bundleTold_120 : decode cX6_bundleTold 120 = .ok (.invokevirtual 121, 3) := by decide +kernel
theorem dX6_bundleTold_123 : decode cX6_bundleTold 123 = .ok (.ireturn, 1) := by decide +kernel
theorem dX6_bundleTold_124 : decode cX6_bundleTold 124 = .ok (.aload_n 0, 1) := by decide +kernel
theorem dX6_bundleTold_125 : decode cX6_bundleTold 125 = .ok (.getfield 31, 3) := by decide +kernel
theorem dX6_bundleTold_128 : decode cX6_bundleTold 128 = .ok (.iload_n 1, 1) := by decide +kernel
theorem dX6_bundleTold_129 : decode cX6_bundleTold 129 = .ok (.invokevirtual 66, 3) := by decide +kernel
theorem dX6_bundleTold_132 : decode cX6_bundleTold 132 = .ok (.ireturn, 1) := by decide +kernel
theorem dX6_told_0 : decode cX6_told 0 = .ok (.aload_n 0, 1) := by decide +kernel
theorem dX6_told_1 : decode cX6_told 1 = .ok (.iconst 0, 1) := by decide +kernel
theorem dX6_told_2 : decode cX6_told 2 = .ok (.putfield 41, 3) := by decide +kernel
theorem dX6_told_5 : decode cX6_told 5 = .ok (.iload_n 1, 1) := by decide +kernel
theorem dX6_told_6 : decode cX6_told 6 = .ok (.iload_n 2, 1) := by decide +kernel
theorem dX6_told_7 : decode cX6_told 7 = .ok (.invokestatic 107, 3) := by decide +kernel
theorem dX6_told_10 : decode cX6_told 10 = .ok (.ifCond .eq 27, 3) := by decide +kernel
theorem dX6_told_13 : decode cX6_told 13 = .ok (.iload_n 3, 1) := by decide +kernel
theorem dX6_told_14 : decode cX6_told 14 = .ok (.iconst 0, 1) := by decide +kernel
theorem dX6_told_15 : decode cX6_told 15 = .ok (.bipush 7, 2) := by decide +kernel
theorem dX6_told_17 : decode cX6_told 17 = .ok (.invokestatic 45, 3) := by decide +kernel
theorem dX6_told_20 : decode cX6_told 20 = .ok (.ifCond .eq 17, 3) := by decide +kernel
theorem dX6_told_23 : decode cX6_told 23 = .ok (.aload_n 0, 1) := by decide +kernel
theorem dX6_told_24 : decode cX6_told 24 = .ok (.bipush 8, 2) := by decide +kernel
theorem dX6_told_26 : decode cX6_told 26 = .ok (.iload_n 1, 1) := by decide +kernel
theorem dX6_told_27 : decode cX6_told 27 = .ok (.imul, 1) := by decide +kernel
theorem dX6_told_28 : decode cX6_told 28 = .ok (.iload_n 2, 1) := by decide +kernel
theorem dX6_told_29 : decode cX6_told 29 = .ok (.iadd, 1) := by decide +kernel
theorem dX6_told_30 : decode cX6_told 30 = .ok (.iload_n 3, 1) := by decide +kernel
theorem dX6_told_31 : decode cX6_told 31 = .ok (.invokevirtual 144, 3) := by decide +kernel
theorem dX6_told_34 : decode cX6_told 34 = .ok (.goto 8, 3) := by decide +kernel
theorem dX6_told_37 : decode cX6_told 37 = .ok (.aload_n 0, 1) := by decide +kernel
theorem dX6_told_38 : decode cX6_told 38 = .ok (.iconst 1, 1) := by decide +kernel
theorem dX6_told_39 : decode cX6_told 39 = .ok (.invokevirtual 104, 3) := by decide +kernel
theorem dX6_told_42 : decode cX6_told 42 = .ok (.ireturn, 1) := by decide +kernel
theorem dX6_herbTold_0 : decode cX6_herbTold 0 = .ok (.iload_n 2, 1) := by decide +kernel
theorem dX6_herbTold_1 : decode cX6_herbTold 1 = .ok (.iconst 2, 1) := by decide +kernel
theorem dX6_herbTold_2 : decode cX6_herbTold 2 = .ok (.if_icmp .ge 23, 3) := by decide +kernel
theorem dX6_herbTold_5 : decode cX6_herbTold 5 = .ok (.iload_n 2, 1) := by decide +kernel
theorem dX6_herbTold_6 : decode cX6_herbTold 6 = .ok (.ifCond .ne 12, 3) := by decide +kernel
theorem dX6_herbTold_9 : decode cX6_herbTold 9 = .ok (.aload_n 0, 1) := by decide +kernel
theorem dX6_herbTold_10 : decode cX6_herbTold 10 = .ok (.getfield 9, 3) := by decide +kernel
theorem dX6_herbTold_13 : decode cX6_herbTold 13 = .ok (.iload_n 1, 1) := by decide +kernel
theorem dX6_herbTold_14 : decode cX6_herbTold 14 = .ok (.iaload, 1) := by decide +kernel
theorem dX6_herbTold_15 : decode cX6_herbTold 15 = .ok (.goto 9, 3) := by decide +kernel
theorem dX6_herbTold_18 : decode cX6_herbTold 18 = .ok (.aload_n 0, 1) := by decide +kernel
theorem dX6_herbTold_19 : decode cX6_herbTold 19 = .ok (.getfield 13, 3) := by decide +kernel
theorem dX6_herbTold_22 : decode cX6_herbTold 22 = .ok (.iload_n 1, 1) := by decide +kernel
theorem dX6_herbTold_23 : decode cX6_herbTold 23 = .ok (.iaload, 1) := by decide +kernel
theorem dX6_herbTold_24 : decode cX6_herbTold 24 = .ok (.ireturn, 1) := by decide +kernel
theorem dX6_herbTold_25 : decode cX6_herbTold 25 = .ok (.iconst 0, 1) := by decide +kernel
theorem dX6_herbTold_26 : decode cX6_herbTold 26 = .ok (.istore_n 3, 1) := by decide +kernel
theorem dX6_herbTold_27 : decode cX6_herbTold 27 = .ok (.iconst 0, 1) := by decide +kernel
theorem dX6_herbTold_28 : decode cX6_herbTold 28 = .ok (.istore 4, 2) := by decide +kernel
theorem dX6_herbTold_30 : decode cX6_herbTold 30 = .ok (.iconst (-1), 1) := by decide +kernel
theorem dX6_herbTold_31 : decode cX6_herbTold 31 = .ok (.istore 5, 2) := by decide +kernel
theorem dX6_herbTold_33 : decode cX6_herbTold 33 = .ok (.iconst 0, 1) := by decide +kernel
theorem dX6_herbTold_34 : decode cX6_herbTold 34 = .ok (.istore 6, 2) := by decide +kernel
theorem dX6_herbTold_36 : decode cX6_herbTold 36 = .ok (.iload 6, 2) := by decide +kernel
theorem dX6_herbTold_38 : decode cX6_herbTold 38 = .ok (.bipush 40, 2) := by decide +kernel
theorem dX6_herbTold_40 : decode cX6_herbTold 40 = .ok (.if_icmp .ge 82, 3) := by decide +kernel
theorem dX6_herbTold_43 : decode cX6_herbTold 43 = .ok (.aload_n 0, 1) := by decide +kernel
theorem dX6_herbTold_44 : decode cX6_herbTold 44 = .ok (.getfield 31, 3) := by decide +kernel
theorem dX6_herbTold_47 : decode cX6_herbTold 47 = .ok (.getfield 60, 3) := by decide +kernel
theorem dX6_herbTold_50 : decode cX6_herbTold 50 = .ok (.iload 6, 2) := by decide +kernel
theorem dX6_herbTold_52 : decode cX6_herbTold 52 = .ok (.iaload, 1) := by decide +kernel
theorem dX6_herbTold_53 : decode cX6_herbTold 53 = .ok (.iload_n 1, 1) := by decide +kernel
theorem dX6_herbTold_54 : decode cX6_herbTold 54 = .ok (.if_icmp .eq 6, 3) := by decide +kernel
theorem dX6_herbTold_57 : decode cX6_herbTold 57 = .ok (.goto 59, 3) := by decide +kernel
theorem dX6_herbTold_60 : decode cX6_herbTold 60 = .ok (.iinc 3 1, 3) := by decide +kernel
theorem dX6_herbTold_63 : decode cX6_herbTold 63 = .ok (.aload_n 0, 1) := by decide +kernel
theorem dX6_herbTold_64 : decode cX6_herbTold 64 = .ok (.getfield 31, 3) := by decide +kernel
theorem dX6_herbTold_67 : decode cX6_herbTold 67 = .ok (.getfield 88, 3) := by decide +kernel
theorem dX6_herbTold_70 : decode cX6_herbTold 70 = .ok (.iload 6, 2) := by decide +kernel
theorem dX6_herbTold_72 : decode cX6_herbTold 72 = .ok (.iaload, 1) := by decide +kernel
theorem dX6_herbTold_73 : decode cX6_herbTold 73 = .ok (.ifCond .le 9, 3) := by decide +kernel
theorem dX6_herbTold_76 : decode cX6_herbTold 76 = .ok (.iinc 4 1, 3) := by decide +kernel
theorem dX6_herbTold_79 : decode cX6_herbTold 79 = .ok (.goto 37, 3) := by decide +kernel
theorem dX6_herbTold_82 : decode cX6_herbTold 82 = .ok (.iload 5, 2) := by decide +kernel
theorem dX6_herbTold_84 : decode cX6_herbTold 84 = .ok (.iconst (-1), 1) := by decide +kernel
theorem dX6_herbTold_85 : decode cX6_herbTold 85 = .ok (.if_icmp .ne 15, 3) := by decide +kernel
theorem dX6_herbTold_88 : decode cX6_herbTold 88 = .ok (.aload_n 0, 1) := by decide +kernel
theorem dX6_herbTold_89 : decode cX6_herbTold 89 = .ok (.getfield 31, 3) := by decide +kernel
theorem dX6_herbTold_92 : decode cX6_herbTold 92 = .ok (.iload 6, 2) := by decide +kernel
theorem dX6_herbTold_94 : decode cX6_herbTold 94 = .ok (.invokevirtual 85, 3) := by decide +kernel
theorem dX6_herbTold_97 : decode cX6_herbTold 97 = .ok (.goto 17, 3) := by decide +kernel
theorem dX6_herbTold_100 : decode cX6_herbTold 100 = .ok (.iload 5, 2) := by decide +kernel
theorem dX6_herbTold_102 : decode cX6_herbTold 102 = .ok (.aload_n 0, 1) := by decide +kernel
theorem dX6_herbTold_103 : decode cX6_herbTold 103 = .ok (.getfield 31, 3) := by decide +kernel
theorem dX6_herbTold_106 : decode cX6_herbTold 106 = .ok (.iload 6, 2) := by decide +kernel
theorem dX6_herbTold_108 : decode cX6_herbTold 108 = .ok (.invokevirtual 85, 3) := by decide +kernel
theorem dX6_herbTold_111 : decode cX6_herbTold 111 = .ok (.invokestatic 91, 3) := by decide +kernel
theorem dX6_herbTold_114 : decode cX6_herbTold 114 = .ok (.istore 5, 2) := by decide +kernel
theorem dX6_herbTold_116 : decode cX6_herbTold 116 = .ok (.iinc 6 1, 3) := by decide +kernel
theorem dX6_herbTold_119 : decode cX6_herbTold 119 = .ok (.goto (-83), 3) := by decide +kernel
theorem dX6_herbTold_122 : decode cX6_herbTold 122 = .ok (.iload_n 2, 1) := by decide +kernel
theorem dX6_herbTold_123 : decode cX6_herbTold 123 = .ok (.iconst 2, 1) := by decide +kernel
theorem dX6_herbTold_124 : decode cX6_herbTold 124 = .ok (.if_icmp .ne 7, 3) := by decide +kernel
theorem dX6_herbTold_127 : decode cX6_herbTold 127 = .ok (.iload_n 3, 1) := by decide +kernel
theorem dX6_herbTold_128 : decode cX6_herbTold 128 = .ok (.goto 15, 3) := by decide +kernel
theorem dX6_herbTold_131 : decode cX6_herbTold 131 = .ok (.iload_n 2, 1) := by decide +kernel
theorem dX6_herbTold_132 : decode cX6_herbTold 132 = .ok (.iconst 3, 1) := by decide +kernel
theorem dX6_herbTold_133 : decode cX6_herbTold 133 = .ok (.if_icmp .ne 8, 3) := by decide +kernel
theorem dX6_herbTold_136 : decode cX6_herbTold 136 = .ok (.iload 4, 2) := by decide +kernel
theorem dX6_herbTold_138 : decode cX6_herbTold 138 = .ok (.goto 5, 3) := by decide +kernel
theorem dX6_herbTold_141 : decode cX6_herbTold 141 = .ok (.iload 5, 2) := by decide +kernel
theorem dX6_herbTold_143 : decode cX6_herbTold 143 = .ok (.ireturn, 1) := by decide +kernel
theorem dX6_about_0 : decode cX6_about 0 = .ok (.aload_n 0, 1) := by decide +kernel
theorem dX6_about_1 : decode cX6_about 1 = .ok (.iconst 0, 1) := by decide +kernel
theorem dX6_about_2 : decode cX6_about 2 = .ok (.putfield 41, 3) := by decide +kernel
theorem dX6_about_5 : decode cX6_about 5 = .ok (.aload_n 0, 1) := by decide +kernel
theorem dX6_about_6 : decode cX6_about 6 = .ok (.iload_n 1, 1) := by decide +kernel
theorem dX6_about_7 : decode cX6_about 7 = .ok (.invokevirtual 111, 3) := by decide +kernel
theorem dX6_about_10 : decode cX6_about 10 = .ok (.ifCond .eq 21, 3) := by decide +kernel
theorem dX6_about_13 : decode cX6_about 13 = .ok (.iload_n 2, 1) := by decide +kernel
theorem dX6_about_14 : decode cX6_about 14 = .ok (.iconst 0, 1) := by decide +kernel
theorem dX6_about_15 : decode cX6_about 15 = .ok (.iconst 4, 1) := by decide +kernel
theorem dX6_about_16 : decode cX6_about 16 = .ok (.invokestatic 45, 3) := by decide +kernel
theorem dX6_about_19 : decode cX6_about 19 = .ok (.ifCond .eq 12, 3) := by decide +kernel
theorem dX6_about_22 : decode cX6_about 22 = .ok (.aload_n 0, 1) := by decide +kernel
theorem dX6_about_23 : decode cX6_about 23 = .ok (.iload_n 1, 1) := by decide +kernel
theorem dX6_about_24 : decode cX6_about 24 = .ok (.iload_n 2, 1) := by decide +kernel
theorem dX6_about_25 : decode cX6_about 25 = .ok (.invokevirtual 147, 3) := by decide +kernel
theorem dX6_about_28 : decode cX6_about 28 = .ok (.goto 8, 3) := by decide +kernel
theorem dX6_about_31 : decode cX6_about 31 = .ok (.aload_n 0, 1) := by decide +kernel
theorem dX6_about_32 : decode cX6_about 32 = .ok (.iconst 1, 1) := by decide +kernel
theorem dX6_about_33 : decode cX6_about 33 = .ok (.invokevirtual 104, 3) := by decide +kernel
theorem dX6_about_36 : decode cX6_about 36 = .ok (.ireturn, 1) := by decide +kernel
theorem dX6_orderTold_0 : decode cX6_orderTold 0 = .ok (.iconst 0, 1) := by decide +kernel
theorem dX6_orderTold_1 : decode cX6_orderTold 1 = .ok (.istore_n 3, 1) := by decide +kernel
theorem dX6_orderTold_2 : decode cX6_orderTold 2 = .ok (.iload_n 2, 1) := by decide +kernel
theorem dX6_orderTold_3 : decode cX6_orderTold 3 = .ok (.tableswitch 57 0 3 #[29, 36, 43, 50], 29) := by decide +kernel
theorem dX6_orderTold_32 : decode cX6_orderTold 32 = .ok (.aload_n 0, 1) := by decide +kernel
theorem dX6_orderTold_33 : decode cX6_orderTold 33 = .ok (.getfield 16, 3) := by decide +kernel
theorem dX6_orderTold_36 : decode cX6_orderTold 36 = .ok (.iload_n 1, 1) := by decide +kernel
theorem dX6_orderTold_37 : decode cX6_orderTold 37 = .ok (.iaload, 1) := by decide +kernel
theorem dX6_orderTold_38 : decode cX6_orderTold 38 = .ok (.ireturn, 1) := by decide +kernel
theorem dX6_orderTold_39 : decode cX6_orderTold 39 = .ok (.aload_n 0, 1) := by decide +kernel
theorem dX6_orderTold_40 : decode cX6_orderTold 40 = .ok (.getfield 19, 3) := by decide +kernel
theorem dX6_orderTold_43 : decode cX6_orderTold 43 = .ok (.iload_n 1, 1) := by decide +kernel
theorem dX6_orderTold_44 : decode cX6_orderTold 44 = .ok (.iaload, 1) := by decide +kernel
theorem dX6_orderTold_45 : decode cX6_orderTold 45 = .ok (.ireturn, 1) := by decide +kernel
theorem dX6_orderTold_46 : decode cX6_orderTold 46 = .ok (.aload_n 0, 1) := by decide +kernel
theorem dX6_orderTold_47 : decode cX6_orderTold 47 = .ok (.getfield 22, 3) := by decide +kernel
theorem dX6_orderTold_50 : decode cX6_orderTold 50 = .ok (.iload_n 1, 1) := by decide +kernel
theorem dX6_orderTold_51 : decode cX6_orderTold 51 = .ok (.iaload, 1) := by decide +kernel
theorem dX6_orderTold_52 : decode cX6_orderTold 52 = .ok (.ireturn, 1) := by decide +kernel
theorem dX6_orderTold_53 : decode cX6_orderTold 53 = .ok (.aload_n 0, 1) := by decide +kernel
theorem dX6_orderTold_54 : decode cX6_orderTold 54 = .ok (.getfield 25, 3) := by decide +kernel
theorem dX6_orderTold_57 : decode cX6_orderTold 57 = .ok (.iload_n 1, 1) := by decide +kernel
theorem dX6_orderTold_58 : decode cX6_orderTold 58 = .ok (.iaload, 1) := by decide +kernel
theorem dX6_orderTold_59 : decode cX6_orderTold 59 = .ok (.ireturn, 1) := by decide +kernel
theorem dX6_orderTold_60 : decode cX6_orderTold 60 = .ok (.iconst 0, 1) := by decide +kernel
theorem dX6_orderTold_61 : decode cX6_orderTold 61 = .ok (.istore 4, 2) := by decide +kernel
theorem dX6_orderTold_63 : decode cX6_orderTold 63 = .ok (.iload 4, 2) := by decide +kernel
theorem dX6_orderTold_65 : decode cX6_orderTold 65 = .ok (.bipush 40, 2) := by decide +kernel
theorem dX6_orderTold_67 : decode cX6_orderTold 67 = .ok (.if_icmp .ge 27, 3) := by decide +kernel
theorem dX6_orderTold_70 : decode cX6_orderTold 70 = .ok (.iload_n 3, 1) := by decide +kernel
theorem dX6_orderTold_71 : decode cX6_orderTold 71 = .ok (.aload_n 0, 1) := by decide +kernel
theorem dX6_orderTold_72 : decode cX6_orderTold 72 = .ok (.iload 4, 2) := by decide +kernel
theorem dX6_orderTold_74 : decode cX6_orderTold 74 = .ok (.iload_n 1, 1) := by decide +kernel
theorem dX6_orderTold_75 : decode cX6_orderTold 75 = .ok (.invokevirtual 131, 3) := by decide +kernel
theorem dX6_orderTold_78 : decode cX6_orderTold 78 = .ok (.ifCond .eq 7, 3) := by decide +kernel
theorem dX6_orderTold_81 : decode cX6_orderTold 81 = .ok (.iconst 1, 1) := by decide +kernel
theorem dX6_orderTold_82 : decode cX6_orderTold 82 = .ok (.goto 4, 3) := by decide +kernel
theorem dX6_orderTold_85 : decode cX6_orderTold 85 = .ok (.iconst 0, 1) := by decide +kernel
theorem dX6_orderTold_86 : decode cX6_orderTold 86 = .ok (.iadd, 1) := by decide +kernel
theorem dX6_orderTold_87 : decode cX6_orderTold 87 = .ok (.istore_n 3, 1) := by decide +kernel
theorem dX6_orderTold_88 : decode cX6_orderTold 88 = .ok (.iinc 4 1, 3) := by decide +kernel
theorem dX6_orderTold_91 : decode cX6_orderTold 91 = .ok (.goto (-28), 3) := by decide +kernel
theorem dX6_orderTold_94 : decode cX6_orderTold 94 = .ok (.iload_n 3, 1) := by decide +kernel
theorem dX6_orderTold_95 : decode cX6_orderTold 95 = .ok (.ireturn, 1) := by decide +kernel
theorem dX6_asked_0 : decode cX6_asked 0 = .ok (.aload_n 0, 1) := by decide +kernel
theorem dX6_asked_1 : decode cX6_asked 1 = .ok (.iconst 0, 1) := by decide +kernel
theorem dX6_asked_2 : decode cX6_asked 2 = .ok (.putfield 41, 3) := by decide +kernel
theorem dX6_asked_5 : decode cX6_asked 5 = .ok (.iload_n 1, 1) := by decide +kernel
theorem dX6_asked_6 : decode cX6_asked 6 = .ok (.iconst 0, 1) := by decide +kernel
theorem dX6_asked_7 : decode cX6_asked 7 = .ok (.aload_n 0, 1) := by decide +kernel
theorem dX6_asked_8 : decode cX6_asked 8 = .ok (.getfield 128, 3) := by decide +kernel
theorem dX6_asked_11 : decode cX6_asked 11 = .ok (.iconst 1, 1) := by decide +kernel
theorem dX6_asked_12 : decode cX6_asked 12 = .ok (.isub, 1) := by decide +kernel
theorem dX6_asked_13 : decode cX6_asked 13 = .ok (.invokestatic 45, 3) := by decide +kernel
theorem dX6_asked_16 : decode cX6_asked 16 = .ok (.ifCond .eq 21, 3) := by decide +kernel
theorem dX6_asked_19 : decode cX6_asked 19 = .ok (.iload_n 2, 1) := by decide +kernel
theorem dX6_asked_20 : decode cX6_asked 20 = .ok (.iconst 0, 1) := by decide +kernel
theorem dX6_asked_21 : decode cX6_asked 21 = .ok (.iconst 4, 1) := by decide +kernel
theorem dX6_asked_22 : decode cX6_asked 22 = .ok (.invokestatic 45, 3) := by decide +kernel
theorem dX6_asked_25 : decode cX6_asked 25 = .ok (.ifCond .eq 12, 3) := by decide +kernel
theorem dX6_asked_28 : decode cX6_asked 28 = .ok (.aload_n 0, 1) := by decide +kernel
theorem dX6_asked_29 : decode cX6_asked 29 = .ok (.iload_n 1, 1) := by decide +kernel
theorem dX6_asked_30 : decode cX6_asked 30 = .ok (.iload_n 2, 1) := by decide +kernel
theorem dX6_asked_31 : decode cX6_asked 31 = .ok (.invokevirtual 150, 3) := by decide +kernel
theorem dX6_asked_34 : decode cX6_asked 34 = .ok (.goto 8, 3) := by decide +kernel
theorem dX6_asked_37 : decode cX6_asked 37 = .ok (.aload_n 0, 1) := by decide +kernel
theorem dX6_asked_38 : decode cX6_asked 38 = .ok (.iconst 1, 1) := by decide +kernel
theorem dX6_asked_39 : decode cX6_asked 39 = .ok (.invokevirtual 104, 3) := by decide +kernel
theorem dX6_asked_42 : decode cX6_asked 42 = .ok (.ireturn, 1) := by decide +kernel
theorem dX6_counted_0 : decode cX6_counted 0 = .ok (.iconst 0, 1) := by decide +kernel
theorem dX6_counted_1 : decode cX6_counted 1 = .ok (.istore_n 2, 1) := by decide +kernel
theorem dX6_counted_2 : decode cX6_counted 2 = .ok (.iload_n 1, 1) := by decide +kernel
theorem dX6_counted_3 : decode cX6_counted 3 = .ok (.tableswitch 114 0 7 #[45, 53, 114, 114, 58, 63, 104, 109], 45) := by decide +kernel
theorem dX6_counted_48 : decode cX6_counted 48 = .ok (.aload_n 0, 1) := by decide +kernel
theorem dX6_counted_49 : decode cX6_counted 49 = .ok (.getfield 31, 3) := by decide +kernel
theorem dX6_counted_52 : decode cX6_counted 52 = .ok (.getfield 97, 3) := by decide +kernel
theorem dX6_counted_55 : decode cX6_counted 55 = .ok (.ireturn, 1) := by decide +kernel
theorem dX6_counted_56 : decode cX6_counted 56 = .ok (.aload_n 0, 1) := by decide +kernel
theorem dX6_counted_57 : decode cX6_counted 57 = .ok (.getfield 49, 3) := by decide +kernel
theorem dX6_counted_60 : decode cX6_counted 60 = .ok (.ireturn, 1) := by decide +kernel
theorem dX6_counted_61 : decode cX6_counted 61 = .ok (.aload_n 0, 1) := by decide +kernel
theorem dX6_counted_62 : decode cX6_counted 62 = .ok (.getfield 128, 3) := by decide +kernel
theorem dX6_counted_65 : decode cX6_counted 65 = .ok (.ireturn, 1) := by decide +kernel
theorem dX6_counted_66 : decode cX6_counted 66 = .ok (.iconst 0, 1) := by decide +kernel
theorem dX6_counted_67 : decode cX6_counted 67 = .ok (.istore_n 3, 1) := by decide +kernel
theorem dX6_counted_68 : decode cX6_counted 68 = .ok (.iload_n 3, 1) := by decide +kernel
theorem dX6_counted_69 : decode cX6_counted 69 = .ok (.aload_n 0, 1) := by decide +kernel
theorem dX6_counted_70 : decode cX6_counted 70 = .ok (.getfield 128, 3) := by decide +kernel
theorem dX6_counted_73 : decode cX6_counted 73 = .ok (.if_icmp .ge 32, 3) := by decide +kernel
theorem dX6_counted_76 : decode cX6_counted 76 = .ok (.iload_n 2, 1) := by decide +kernel
theorem dX6_counted_77 : decode cX6_counted 77 = .ok (.aload_n 0, 1) := by decide +kernel
theorem dX6_counted_78 : decode cX6_counted 78 = .ok (.getfield 25, 3) := by decide +kernel
theorem dX6_counted_81 : decode cX6_counted 81 = .ok (.iload_n 3, 1) := by decide +kernel
theorem dX6_counted_82 : decode cX6_counted 82 = .ok (.iaload, 1) := by decide +kernel
theorem dX6_counted_83 : decode cX6_counted 83 = .ok (.aload_n 0, 1) := by decide +kernel
theorem dX6_counted_84 : decode cX6_counted 84 = .ok (.getfield 19, 3) := by decide +kernel
theorem dX6_counted_87 : decode cX6_counted 87 = .ok (.iload_n 3, 1) := by decide +kernel
theorem dX6_counted_88 : decode cX6_counted 88 = .ok (.iaload, 1) := by decide +kernel
theorem dX6_counted_89 : decode cX6_counted 89 = .ok (.if_icmp .ne 7, 3) := by decide +kernel
theorem dX6_counted_92 : decode cX6_counted 92 = .ok (.iconst 1, 1) := by decide +kernel
theorem dX6_counted_93 : decode cX6_counted 93 = .ok (.goto 4, 3) := by decide +kernel
theorem dX6_counted_96 : decode cX6_counted 96 = .ok (.iconst 0, 1) := by decide +kernel
theorem dX6_counted_97 : decode cX6_counted 97 = .ok (.iadd, 1) := by decide +kernel
theorem dX6_counted_98 : decode cX6_counted 98 = .ok (.istore_n 2, 1) := by decide +kernel
theorem dX6_counted_99 : decode cX6_counted 99 = .ok (.iinc 3 1, 3) := by decide +kernel
theorem dX6_counted_102 : decode cX6_counted 102 = .ok (.goto (-34), 3) := by decide +kernel
theorem dX6_counted_105 : decode cX6_counted 105 = .ok (.iload_n 2, 1) := by decide +kernel
theorem dX6_counted_106 : decode cX6_counted 106 = .ok (.ireturn, 1) := by decide +kernel
theorem dX6_counted_107 : decode cX6_counted 107 = .ok (.aload_n 0, 1) := by decide +kernel
theorem dX6_counted_108 : decode cX6_counted 108 = .ok (.getfield 137, 3) := by decide +kernel
theorem dX6_counted_111 : decode cX6_counted 111 = .ok (.ireturn, 1) := by decide +kernel
theorem dX6_counted_112 : decode cX6_counted 112 = .ok (.aload_n 0, 1) := by decide +kernel
theorem dX6_counted_113 : decode cX6_counted 113 = .ok (.getfield 63, 3) := by decide +kernel
theorem dX6_counted_116 : decode cX6_counted 116 = .ok (.ireturn, 1) := by decide +kernel
theorem dX6_counted_117 : decode cX6_counted 117 = .ok (.aload_n 0, 1) := by decide +kernel
theorem dX6_counted_118 : decode cX6_counted 118 = .ok (.getfield 31, 3) := by decide +kernel
theorem dX6_counted_121 : decode cX6_counted 121 = .ok (.iload_n 1, 1) := by decide +kernel
theorem dX6_counted_122 : decode cX6_counted 122 = .ok (.invokevirtual 114, 3) := by decide +kernel
theorem dX6_counted_125 : decode cX6_counted 125 = .ok (.ireturn, 1) := by decide +kernel
theorem dX6_count_0 : decode cX6_count 0 = .ok (.aload_n 0, 1) := by decide +kernel
theorem dX6_count_1 : decode cX6_count 1 = .ok (.iconst 0, 1) := by decide +kernel
theorem dX6_count_2 : decode cX6_count 2 = .ok (.putfield 41, 3) := by decide +kernel
theorem dX6_count_5 : decode cX6_count 5 = .ok (.iload_n 1, 1) := by decide +kernel
theorem dX6_count_6 : decode cX6_count 6 = .ok (.iconst 0, 1) := by decide +kernel
theorem dX6_count_7 : decode cX6_count 7 = .ok (.bipush 8, 2) := by decide +kernel
theorem dX6_count_9 : decode cX6_count 9 = .ok (.invokestatic 45, 3) := by decide +kernel
theorem dX6_count_12 : decode cX6_count 12 = .ok (.ifCond .eq 11, 3) := by decide +kernel
theorem dX6_count_15 : decode cX6_count 15 = .ok (.aload_n 0, 1) := by decide +kernel
theorem dX6_count_16 : decode cX6_count 16 = .ok (.iload_n 1, 1) := by decide +kernel
theorem dX6_count_17 : decode cX6_count 17 = .ok (.invokevirtual 153, 3) := by decide +kernel
theorem dX6_count_20 : decode cX6_count 20 = .ok (.goto 8, 3) := by decide +kernel
theorem dX6_count_23 : decode cX6_count 23 = .ok (.aload_n 0, 1) := by decide +kernel
theorem dX6_count_24 : decode cX6_count 24 = .ok (.iconst 1, 1) := by decide +kernel
theorem dX6_count_25 : decode cX6_count 25 = .ok (.invokevirtual 104, 3) := by decide +kernel
theorem dX6_count_28 : decode cX6_count 28 = .ok (.ireturn, 1) := by decide +kernel
theorem dX6_untilDry_0 : decode cX6_untilDry 0 = .ok (.aload_n 0, 1) := by decide +kernel
theorem dX6_untilDry_1 : decode cX6_untilDry 1 = .ok (.getfield 31, 3) := by decide +kernel
theorem dX6_untilDry_4 : decode cX6_untilDry 4 = .ok (.iload_n 1, 1) := by decide +kernel
theorem dX6_untilDry_5 : decode cX6_untilDry 5 = .ok (.invokevirtual 56, 3) := by decide +kernel
theorem dX6_untilDry_8 : decode cX6_untilDry 8 = .ok (.ifCond .ne 5, 3) := by decide +kernel
theorem dX6_untilDry_11 : decode cX6_untilDry 11 = .ok (.iconst (-1), 1) := by decide +kernel
theorem dX6_untilDry_12 : decode cX6_untilDry 12 = .ok (.ireturn, 1) := by decide +kernel
theorem dX6_untilDry_13 : decode cX6_untilDry 13 = .ok (.aload_n 0, 1) := by decide +kernel
theorem dX6_untilDry_14 : decode cX6_untilDry 14 = .ok (.getfield 35, 3) := by decide +kernel
theorem dX6_untilDry_17 : decode cX6_untilDry 17 = .ok (.aload_n 0, 1) := by decide +kernel
theorem dX6_untilDry_18 : decode cX6_untilDry 18 = .ok (.getfield 31, 3) := by decide +kernel
theorem dX6_untilDry_21 : decode cX6_untilDry 21 = .ok (.invokevirtual 52, 3) := by decide +kernel
theorem dX6_untilDry_24 : decode cX6_untilDry 24 = .ok (.iconst 0, 1) := by decide +kernel
theorem dX6_untilDry_25 : decode cX6_untilDry 25 = .ok (.istore 4, 2) := by decide +kernel
theorem dX6_untilDry_27 : decode cX6_untilDry 27 = .ok (.iload 4, 2) := by decide +kernel
theorem dX6_untilDry_29 : decode cX6_untilDry 29 = .ok (.bipush 90, 2) := by decide +kernel
theorem dX6_untilDry_31 : decode cX6_untilDry 31 = .ok (.if_icmp .gt 33, 3) := by decide +kernel
theorem dX6_untilDry_34 : decode cX6_untilDry 34 = .ok (.aload_n 0, 1) := by decide +kernel
theorem dX6_untilDry_35 : decode cX6_untilDry 35 = .ok (.getfield 35, 3) := by decide +kernel
theorem dX6_untilDry_38 : decode cX6_untilDry 38 = .ok (.iload_n 1, 1) := by decide +kernel
theorem dX6_untilDry_39 : decode cX6_untilDry 39 = .ok (.invokevirtual 85, 3) := by decide +kernel
theorem dX6_untilDry_42 : decode cX6_untilDry 42 = .ok (.iload_n 2, 1) := by decide +kernel
theorem dX6_untilDry_43 : decode cX6_untilDry 43 = .ok (.if_icmp .gt 6, 3) := by decide +kernel
theorem dX6_untilDry_46 : decode cX6_untilDry 46 = .ok (.iload 4, 2) := by decide +kernel
theorem dX6_untilDry_48 : decode cX6_untilDry 48 = .ok (.ireturn, 1) := by decide +kernel
theorem dX6_untilDry_49 : decode cX6_untilDry 49 = .ok (.aload_n 0, 1) := by decide +kernel
theorem dX6_untilDry_50 : decode cX6_untilDry 50 = .ok (.aload_n 0, 1) := by decide +kernel
theorem dX6_untilDry_51 : decode cX6_untilDry 51 = .ok (.getfield 35, 3) := by decide +kernel
theorem dX6_untilDry_54 : decode cX6_untilDry 54 = .ok (.iload_n 3, 1) := by decide +kernel
theorem dX6_untilDry_55 : decode cX6_untilDry 55 = .ok (.invokevirtual 100, 3) := by decide +kernel
theorem dX6_untilDry_58 : decode cX6_untilDry 58 = .ok (.iinc 4 1, 3) := by decide +kernel
theorem dX6_untilDry_61 : decode cX6_untilDry 61 = .ok (.goto (-34), 3) := by decide +kernel
theorem dX6_untilDry_64 : decode cX6_untilDry 64 = .ok (.iconst (-1), 1) := by decide +kernel
theorem dX6_untilDry_65 : decode cX6_untilDry 65 = .ok (.ireturn, 1) := by decide +kernel
theorem dX6_until_0 : decode cX6_until 0 = .ok (.aload_n 0, 1) := by decide +kernel
theorem dX6_until_1 : decode cX6_until 1 = .ok (.iconst 0, 1) := by decide +kernel
theorem dX6_until_2 : decode cX6_until 2 = .ok (.putfield 41, 3) := by decide +kernel
theorem dX6_until_5 : decode cX6_until 5 = .ok (.iload_n 1, 1) := by decide +kernel
theorem dX6_until_6 : decode cX6_until 6 = .ok (.iload_n 2, 1) := by decide +kernel
theorem dX6_until_7 : decode cX6_until 7 = .ok (.invokestatic 107, 3) := by decide +kernel
theorem dX6_until_10 : decode cX6_until 10 = .ok (.ifCond .ne 9, 3) := by decide +kernel
theorem dX6_until_13 : decode cX6_until 13 = .ok (.aload_n 0, 1) := by decide +kernel
theorem dX6_until_14 : decode cX6_until 14 = .ok (.iconst 1, 1) := by decide +kernel
theorem dX6_until_15 : decode cX6_until 15 = .ok (.invokevirtual 104, 3) := by decide +kernel
theorem dX6_until_18 : decode cX6_until 18 = .ok (.ireturn, 1) := by decide +kernel
theorem dX6_until_19 : decode cX6_until 19 = .ok (.iload_n 3, 1) := by decide +kernel
theorem dX6_until_20 : decode cX6_until 20 = .ok (.iconst 0, 1) := by decide +kernel
theorem dX6_until_21 : decode cX6_until 21 = .ok (.bipush 100, 2) := by decide +kernel
theorem dX6_until_23 : decode cX6_until 23 = .ok (.invokestatic 45, 3) := by decide +kernel
theorem dX6_until_26 : decode cX6_until 26 = .ok (.ifCond .eq 30, 3) := by decide +kernel
theorem dX6_until_29 : decode cX6_until 29 = .ok (.iload 4, 2) := by decide +kernel
theorem dX6_until_31 : decode cX6_until 31 = .ok (.iconst 0, 1) := by decide +kernel
theorem dX6_until_32 : decode cX6_until 32 = .ok (.bipush 9, 2) := by decide +kernel
theorem dX6_until_34 : decode cX6_until 34 = .ok (.invokestatic 45, 3) := by decide +kernel
theorem dX6_until_37 : decode cX6_until 37 = .ok (.ifCond .eq 19, 3) := by decide +kernel
theorem dX6_until_40 : decode cX6_until 40 = .ok (.aload_n 0, 1) := by decide +kernel
theorem dX6_until_41 : decode cX6_until 41 = .ok (.bipush 8, 2) := by decide +kernel
theorem dX6_until_43 : decode cX6_until 43 = .ok (.iload_n 1, 1) := by decide +kernel
theorem dX6_until_44 : decode cX6_until 44 = .ok (.imul, 1) := by decide +kernel
theorem dX6_until_45 : decode cX6_until 45 = .ok (.iload_n 2, 1) := by decide +kernel
theorem dX6_until_46 : decode cX6_until 46 = .ok (.iadd, 1) := by decide +kernel
theorem dX6_until_47 : decode cX6_until 47 = .ok (.iload_n 3, 1) := by decide +kernel
theorem dX6_until_48 : decode cX6_until 48 = .ok (.iload 4, 2) := by decide +kernel
theorem dX6_until_50 : decode cX6_until 50 = .ok (.invokevirtual 156, 3) := by decide +kernel
theorem dX6_until_53 : decode cX6_until 53 = .ok (.goto 8, 3) := by decide +kernel
theorem dX6_until_56 : decode cX6_until 56 = .ok (.aload_n 0, 1) := by decide +kernel
theorem dX6_until_57 : decode cX6_until 57 = .ok (.iconst 2, 1) := by decide +kernel
theorem dX6_until_58 : decode cX6_until 58 = .ok (.invokevirtual 104, 3) := by decide +kernel
theorem dX6_until_61 : decode cX6_until 61 = .ok (.ireturn, 1) := by decide +kernel
theorem dX6_foresee_0 : decode cX6_foresee 0 = .ok (.aload_n 0, 1) := by decide +kernel
theorem dX6_foresee_1 : decode cX6_foresee 1 = .ok (.iconst 0, 1) := by decide +kernel
theorem dX6_foresee_2 : decode cX6_foresee 2 = .ok (.putfield 41, 3) := by decide +kernel
theorem dX6_foresee_5 : decode cX6_foresee 5 = .ok (.iload_n 1, 1) := by decide +kernel
theorem dX6_foresee_6 : decode cX6_foresee 6 = .ok (.iconst 1, 1) := by decide +kernel
theorem dX6_foresee_7 : decode cX6_foresee 7 = .ok (.bipush 60, 2) := by decide +kernel
theorem dX6_foresee_9 : decode cX6_foresee 9 = .ok (.invokestatic 45, 3) := by decide +kernel
theorem dX6_foresee_12 : decode cX6_foresee 12 = .ok (.ifCond .eq 13, 3) := by decide +kernel
theorem dX6_foresee_15 : decode cX6_foresee 15 = .ok (.iload_n 2, 1) := by decide +kernel
theorem dX6_foresee_16 : decode cX6_foresee 16 = .ok (.iconst 0, 1) := by decide +kernel
theorem dX6_foresee_17 : decode cX6_foresee 17 = .ok (.bipush 9, 2) := by decide +kernel
theorem dX6_foresee_19 : decode cX6_foresee 19 = .ok (.invokestatic 45, 3) := by decide +kernel
theorem dX6_foresee_22 : decode cX6_foresee 22 = .ok (.ifCond .ne 9, 3) := by decide +kernel
theorem dX6_foresee_25 : decode cX6_foresee 25 = .ok (.aload_n 0, 1) := by decide +kernel
theorem dX6_foresee_26 : decode cX6_foresee 26 = .ok (.iconst 1, 1) := by decide +kernel
theorem dX6_foresee_27 : decode cX6_foresee 27 = .ok (.invokevirtual 104, 3) := by decide +kernel
theorem dX6_foresee_30 : decode cX6_foresee 30 = .ok (.ireturn, 1) := by decide +kernel
theorem dX6_foresee_31 : decode cX6_foresee 31 = .ok (.iload_n 3, 1) := by decide +kernel
theorem dX6_foresee_32 : decode cX6_foresee 32 = .ok (.iconst 3, 1) := by decide +kernel
theorem dX6_foresee_33 : decode cX6_foresee 33 = .ok (.if_icmp .eq 15, 3) := by decide +kernel
theorem dX6_foresee_36 : decode cX6_foresee 36 = .ok (.iload_n 3, 1) := by decide +kernel
theorem dX6_foresee_37 : decode cX6_foresee 37 = .ok (.bipush 8, 2) := by decide +kernel
theorem dX6_foresee_39 : decode cX6_foresee 39 = .ok (.if_icmp .eq 9, 3) := by decide +kernel
theorem dX6_foresee_42 : decode cX6_foresee 42 = .ok (.aload_n 0, 1) := by decide +kernel
theorem dX6_foresee_43 : decode cX6_foresee 43 = .ok (.iconst 2, 1) := by decide +kernel
theorem dX6_foresee_44 : decode cX6_foresee 44 = .ok (.invokevirtual 104, 3) := by decide +kernel
theorem dX6_foresee_47 : decode cX6_foresee 47 = .ok (.ireturn, 1) := by decide +kernel
theorem dX6_foresee_48 : decode cX6_foresee 48 = .ok (.aload_n 0, 1) := by decide +kernel
theorem dX6_foresee_49 : decode cX6_foresee 49 = .ok (.getfield 35, 3) := by decide +kernel
theorem dX6_foresee_52 : decode cX6_foresee 52 = .ok (.aload_n 0, 1) := by decide +kernel
theorem dX6_foresee_53 : decode cX6_foresee 53 = .ok (.getfield 31, 3) := by decide +kernel
theorem dX6_foresee_56 : decode cX6_foresee 56 = .ok (.invokevirtual 52, 3) := by decide +kernel
theorem dX6_foresee_59 : decode cX6_foresee 59 = .ok (.aload_n 0, 1) := by decide +kernel
theorem dX6_foresee_60 : decode cX6_foresee 60 = .ok (.aload_n 0, 1) := by decide +kernel
theorem dX6_foresee_61 : decode cX6_foresee 61 = .ok (.getfield 35, 3) := by decide +kernel
theorem dX6_foresee_64 : decode cX6_foresee 64 = .ok (.iload_n 1, 1) := by decide +kernel
theorem dX6_foresee_65 : decode cX6_foresee 65 = .ok (.iload_n 2, 1) := by decide +kernel
theorem dX6_foresee_66 : decode cX6_foresee 66 = .ok (.invokevirtual 140, 3) := by decide +kernel
theorem dX6_foresee_69 : decode cX6_foresee 69 = .ok (.aload_n 0, 1) := by decide +kernel
theorem dX6_foresee_70 : decode cX6_foresee 70 = .ok (.getfield 35, 3) := by decide +kernel
theorem dX6_foresee_73 : decode cX6_foresee 73 = .ok (.iload_n 3, 1) := by decide +kernel
theorem dX6_foresee_74 : decode cX6_foresee 74 = .ok (.invokevirtual 114, 3) := by decide +kernel
theorem dX6_foresee_77 : decode cX6_foresee 77 = .ok (.ireturn, 1) := by decide +kernel
theorem dX6_badBehind_0 : decode cX6_badBehind 0 = .ok (.aload_n 0, 1) := by decide +kernel
theorem dX6_badBehind_1 : decode cX6_badBehind 1 = .ok (.getfield 35, 3) := by decide +kernel
theorem dX6_badBehind_4 : decode cX6_badBehind 4 = .ok (.aload_n 0, 1) := by decide +kernel
theorem dX6_badBehind_5 : decode cX6_badBehind 5 = .ok (.getfield 31, 3) := by decide +kernel
theorem dX6_badBehind_8 : decode cX6_badBehind 8 = .ok (.invokevirtual 52, 3) := by decide +kernel
theorem dX6_badBehind_11 : decode cX6_badBehind 11 = .ok (.iload_n 1, 1) := by decide +kernel
theorem dX6_badBehind_12 : decode cX6_badBehind 12 = .ok (.iconst (-1), 1) := by decide +kernel
theorem dX6_badBehind_13 : decode cX6_badBehind 13 = .ok (.if_icmp .eq 11, 3) := by decide +kernel
theorem dX6_badBehind_16 : decode cX6_badBehind 16 = .ok (.aload_n 0, 1) := by decide +kernel
theorem dX6_badBehind_17 : decode cX6_badBehind 17 = .ok (.getfield 35, 3) := by decide +kernel
theorem dX6_badBehind_20 : decode cX6_badBehind 20 = .ok (.iload_n 1, 1) := by decide +kernel
theorem dX6_badBehind_21 : decode cX6_badBehind 21 = .ok (.invokevirtual 124, 3) := by decide +kernel
theorem dX6_badBehind_24 : decode cX6_badBehind 24 = .ok (.aload_n 0, 1) := by decide +kernel
theorem dX6_badBehind_25 : decode cX6_badBehind 25 = .ok (.aload_n 0, 1) := by decide +kernel
theorem dX6_badBehind_26 : decode cX6_badBehind 26 = .ok (.getfield 35, 3) := by decide +kernel
theorem dX6_badBehind_29 : decode cX6_badBehind 29 = .ok (.iload_n 2, 1) := by decide +kernel
theorem dX6_badBehind_30 : decode cX6_badBehind 30 = .ok (.iload_n 3, 1) := by decide +kernel
theorem dX6_badBehind_31 : decode cX6_badBehind 31 = .ok (.invokevirtual 140, 3) := by decide +kernel
theorem dX6_badBehind_34 : decode cX6_badBehind 34 = .ok (.sipush 10000, 3) := by decide +kernel
theorem dX6_badBehind_37 : decode cX6_badBehind 37 = .ok (.aload_n 0, 1) := by decide +kernel
theorem dX6_badBehind_38 : decode cX6_badBehind 38 = .ok (.getfield 35, 3) := by decide +kernel
theorem dX6_badBehind_41 : decode cX6_badBehind 41 = .ok (.iconst 3, 1) := by decide +kernel
theorem dX6_badBehind_42 : decode cX6_badBehind 42 = .ok (.invokevirtual 114, 3) := by decide +kernel
theorem dX6_badBehind_45 : decode cX6_badBehind 45 = .ok (.imul, 1) := by decide +kernel
theorem dX6_badBehind_46 : decode cX6_badBehind 46 = .ok (.aload_n 0, 1) := by decide +kernel
theorem dX6_badBehind_47 : decode cX6_badBehind 47 = .ok (.getfield 35, 3) := by decide +kernel
theorem dX6_badBehind_50 : decode cX6_badBehind 50 = .ok (.bipush 8, 2) := by decide +kernel
theorem dX6_badBehind_52 : decode cX6_badBehind 52 = .ok (.invokevirtual 114, 3) := by decide +kernel
theorem dX6_badBehind_55 : decode cX6_badBehind 55 = .ok (.iadd, 1) := by decide +kernel
theorem dX6_badBehind_56 : decode cX6_badBehind 56 = .ok (.ireturn, 1) := by decide +kernel
theorem dX6_bestString_0 : decode cX6_bestString 0 = .ok (.iconst (-1), 1) := by decide +kernel
theorem dX6_bestString_1 : decode cX6_bestString 1 = .ok (.istore_n 3, 1) := by decide +kernel
theorem dX6_bestString_2 : decode cX6_bestString 2 = .ok (.aload_n 0, 1) := by decide +kernel
theorem dX6_bestString_3 : decode cX6_bestString 3 = .ok (.iconst (-1), 1) := by decide +kernel
theorem dX6_bestString_4 : decode cX6_bestString 4 = .ok (.iload_n 1, 1) := by decide +kernel
theorem dX6_bestString_5 : decode cX6_bestString 5 = .ok (.iload_n 2, 1) := by decide +kernel
theorem dX6_bestString_6 : decode cX6_bestString 6 = .ok (.invokevirtual 160, 3) := by decide +kernel
theorem dX6_bestString_9 : decode cX6_bestString 9 = .ok (.istore 4, 2) := by decide +kernel
theorem dX6_bestString_11 : decode cX6_bestString 11 = .ok (.iconst 0, 1) := by decide +kernel
theorem dX6_bestString_12 : decode cX6_bestString 12 = .ok (.istore 5, 2) := by decide +kernel
theorem dX6_bestString_14 : decode cX6_bestString 14 = .ok (.iload 5, 2) := by decide +kernel
theorem dX6_bestString_16 : decode cX6_bestString 16 = .ok (.iconst 5, 1) := by decide +kernel
theorem dX6_bestString_17 : decode cX6_bestString 17 = .ok (.if_icmp .ge 36, 3) := by decide +kernel
theorem dX6_bestString_20 : decode cX6_bestString 20 = .ok (.aload_n 0, 1) := by decide +kernel
theorem dX6_bestString_21 : decode cX6_bestString 21 = .ok (.iload 5, 2) := by decide +kernel
theorem dX6_bestString_23 : decode cX6_bestString 23 = .ok (.iload_n 1, 1) := by decide +kernel
theorem dX6_bestString_24 : decode cX6_bestString 24 = .ok (.iload_n 2, 1) := by decide +kernel
theorem dX6_bestString_25 : decode cX6_bestString 25 = .ok (.invokevirtual 160, 3) := by decide +kernel
theorem dX6_bestString_28 : decode cX6_bestString 28 = .ok (.istore 6, 2) := by decide +kernel
theorem dX6_bestString_30 : decode cX6_bestString 30 = .ok (.iload 6, 2) := by decide +kernel
theorem dX6_bestString_32 : decode cX6_bestString 32 = .ok (.iload 4, 2) := by decide +kernel
theorem dX6_bestString_34 : decode cX6_bestString 34 = .ok (.if_icmp .lt 6, 3) := by decide +kernel
theorem dX6_bestString_37 : decode cX6_bestString 37 = .ok (.goto 10, 3) := by decide +kernel
theorem dX6_bestString_40 : decode cX6_bestString 40 = .ok (.iload 5, 2) := by decide +kernel
theorem dX6_bestString_42 : decode cX6_bestString 42 = .ok (.istore_n 3, 1) := by decide +kernel
theorem dX6_bestString_43 : decode cX6_bestString 43 = .ok (.iload 6, 2) := by decide +kernel
theorem dX6_bestString_45 : decode cX6_bestString 45 = .ok (.istore 4, 2) := by decide +kernel
theorem dX6_bestString_47 : decode cX6_bestString 47 = .ok (.iinc 5 1, 3) := by decide +kernel
theorem dX6_bestString_50 : decode cX6_bestString 50 = .ok (.goto (-36), 3) := by decide +kernel
theorem dX6_bestString_53 : decode cX6_bestString 53 = .ok (.iload_n 3, 1) := by decide +kernel
theorem dX6_bestString_54 : decode cX6_bestString 54 = .ok (.ireturn, 1) := by decide +kernel
theorem dX6_advise_0 : decode cX6_advise 0 = .ok (.aload_n 0, 1) := by decide +kernel
theorem dX6_advise_1 : decode cX6_advise 1 = .ok (.iconst 0, 1) := by decide +kernel
theorem dX6_advise_2 : decode cX6_advise 2 = .ok (.putfield 41, 3) := by decide +kernel
theorem dX6_advise_5 : decode cX6_advise 5 = .ok (.iload_n 1, 1) := by decide +kernel
theorem dX6_advise_6 : decode cX6_advise 6 = .ok (.iconst 1, 1) := by decide +kernel
theorem dX6_advise_7 : decode cX6_advise 7 = .ok (.bipush 30, 2) := by decide +kernel
theorem dX6_advise_9 : decode cX6_advise 9 = .ok (.invokestatic 45, 3) := by decide +kernel
theorem dX6_advise_12 : decode cX6_advise 12 = .ok (.ifCond .eq 22, 3) := by decide +kernel
theorem dX6_advise_15 : decode cX6_advise 15 = .ok (.iload_n 2, 1) := by decide +kernel
theorem dX6_advise_16 : decode cX6_advise 16 = .ok (.iconst 0, 1) := by decide +kernel
theorem dX6_advise_17 : decode cX6_advise 17 = .ok (.bipush 9, 2) := by decide +kernel
theorem dX6_advise_19 : decode cX6_advise 19 = .ok (.invokestatic 45, 3) := by decide +kernel
theorem dX6_advise_22 : decode cX6_advise 22 = .ok (.ifCond .eq 12, 3) := by decide +kernel
theorem dX6_advise_25 : decode cX6_advise 25 = .ok (.aload_n 0, 1) := by decide +kernel
theorem dX6_advise_26 : decode cX6_advise 26 = .ok (.iload_n 1, 1) := by decide +kernel
theorem dX6_advise_27 : decode cX6_advise 27 = .ok (.iload_n 2, 1) := by decide +kernel
theorem dX6_advise_28 : decode cX6_advise 28 = .ok (.invokevirtual 163, 3) := by decide +kernel
theorem dX6_advise_31 : decode cX6_advise 31 = .ok (.goto 8, 3) := by decide +kernel
theorem dX6_advise_34 : decode cX6_advise 34 = .ok (.aload_n 0, 1) := by decide +kernel
theorem dX6_advise_35 : decode cX6_advise 35 = .ok (.iconst 1, 1) := by decide +kernel
theorem dX6_advise_36 : decode cX6_advise 36 = .ok (.invokevirtual 104, 3) := by decide +kernel
theorem dX6_advise_39 : decode cX6_advise 39 = .ok (.ireturn, 1) := by decide +kernel
theorem dX6_mean_0 : decode cX6_mean 0 = .ok (.aload_n 0, 1) := by decide +kernel
theorem dX6_mean_1 : decode cX6_mean 1 = .ok (.iconst 0, 1) := by decide +kernel
theorem dX6_mean_2 : decode cX6_mean 2 = .ok (.putfield 41, 3) := by decide +kernel
theorem dX6_mean_5 : decode cX6_mean 5 = .ok (.aload_n 0, 1) := by decide +kernel
theorem dX6_mean_6 : decode cX6_mean 6 = .ok (.getfield 31, 3) := by decide +kernel
theorem dX6_mean_9 : decode cX6_mean 9 = .ok (.iconst 2, 1) := by decide +kernel
theorem dX6_mean_10 : decode cX6_mean 10 = .ok (.invokevirtual 114, 3) := by decide +kernel
theorem dX6_mean_13 : decode cX6_mean 13 = .ok (.istore_n 1, 1) := by decide +kernel
theorem dX6_mean_14 : decode cX6_mean 14 = .ok (.iload_n 1, 1) := by decide +kernel
theorem dX6_mean_15 : decode cX6_mean 15 = .ok (.ifCond .ne 7, 3) := by decide +kernel
theorem dX6_mean_18 : decode cX6_mean 18 = .ok (.dconst 0, 1) := by decide +kernel
theorem dX6_mean_19 : decode cX6_mean 19 = .ok (.goto 16, 3) := by decide +kernel
theorem dX6_mean_22 : decode cX6_mean 22 = .ok (.aload_n 0, 1) := by decide +kernel
theorem dX6_mean_23 : decode cX6_mean 23 = .ok (.getfield 31, 3) := by decide +kernel
theorem dX6_mean_26 : decode cX6_mean 26 = .ok (.bipush 8, 2) := by decide +kernel
theorem dX6_mean_28 : decode cX6_mean 28 = .ok (.invokevirtual 114, 3) := by decide +kernel
theorem dX6_mean_31 : decode cX6_mean 31 = .ok (.i2d, 1) := by decide +kernel
theorem dX6_mean_32 : decode cX6_mean 32 = .ok (.iload_n 1, 1) := by decide +kernel
theorem dX6_mean_33 : decode cX6_mean 33 = .ok (.i2d, 1) := by decide +kernel
theorem dX6_mean_34 : decode cX6_mean 34 = .ok (.ddiv, 1) := by decide +kernel
theorem dX6_mean_35 : decode cX6_mean 35 = .ok (.dreturn, 1) := by decide +kernel
theorem dX6_digest_0 : decode cX6_digest 0 = .ok (.aload_n 0, 1) := by decide +kernel
theorem dX6_digest_1 : decode cX6_digest 1 = .ok (.iconst 0, 1) := by decide +kernel
theorem dX6_digest_2 : decode cX6_digest 2 = .ok (.putfield 41, 3) := by decide +kernel
theorem dX6_digest_5 : decode cX6_digest 5 = .ok (.ldc2_w 166, 3) := by decide +kernel
theorem dX6_digest_8 : decode cX6_digest 8 = .ok (.lstore_n 1, 1) := by decide +kernel
theorem dX6_digest_9 : decode cX6_digest 9 = .ok (.iconst 0, 1) := by decide +kernel
theorem dX6_digest_10 : decode cX6_digest 10 = .ok (.istore_n 3, 1) := by decide +kernel
theorem dX6_digest_11 : decode cX6_digest 11 = .ok (.iload_n 3, 1) := by decide +kernel
theorem dX6_digest_12 : decode cX6_digest 12 = .ok (.bipush 8, 2) := by decide +kernel
theorem dX6_digest_14 : decode cX6_digest 14 = .ok (.if_icmp .gt 22, 3) := by decide +kernel
theorem dX6_digest_17 : decode cX6_digest 17 = .ok (.lload_n 1, 1) := by decide +kernel
theorem dX6_digest_18 : decode cX6_digest 18 = .ok (.ldc2_w 168, 3) := by decide +kernel
theorem dX6_digest_21 : decode cX6_digest 21 = .ok (.lmul, 1) := by decide +kernel
theorem dX6_digest_22 : decode cX6_digest 22 = .ok (.aload_n 0, 1) := by decide +kernel
theorem dX6_digest_23 : decode cX6_digest 23 = .ok (.iload_n 3, 1) := by decide +kernel
theorem dX6_digest_24 : decode cX6_digest 24 = .ok (.invokevirtual 153, 3) := by decide +kernel
theorem dX6_digest_27 : decode cX6_digest 27 = .ok (.i2l, 1) := by decide +kernel
theorem dX6_digest_28 : decode cX6_digest 28 = .ok (.ladd, 1) := by decide +kernel
theorem dX6_digest_29 : decode cX6_digest 29 = .ok (.lstore_n 1, 1) := by decide +kernel
theorem dX6_digest_30 : decode cX6_digest 30 = .ok (.iinc 3 1, 3) := by decide +kernel
theorem dX6_digest_33 : decode cX6_digest 33 = .ok (.goto (-22), 3) := by decide +kernel
theorem dX6_digest_36 : decode cX6_digest 36 = .ok (.iconst 0, 1) := by decide +kernel
theorem dX6_digest_37 : decode cX6_digest 37 = .ok (.istore_n 3, 1) := by decide +kernel
theorem dX6_digest_38 : decode cX6_digest 38 = .ok (.iload_n 3, 1) := by decide +kernel
theorem dX6_digest_39 : decode cX6_digest 39 = .ok (.aload_n 0, 1) := by decide +kernel
theorem dX6_digest_40 : decode cX6_digest 40 = .ok (.getfield 49, 3) := by decide +kernel
theorem dX6_digest_43 : decode cX6_digest 43 = .ok (.if_icmp .ge 39, 3) := by decide +kernel
theorem dX6_digest_46 : decode cX6_digest 46 = .ok (.iconst 0, 1) := by decide +kernel
theorem dX6_digest_47 : decode cX6_digest 47 = .ok (.istore 4, 2) := by decide +kernel
theorem dX6_digest_49 : decode cX6_digest 49 = .ok (.iload 4, 2) := by decide +kernel
theorem dX6_digest_51 : decode cX6_digest 51 = .ok (.iconst 4, 1) := by decide +kernel
theorem dX6_digest_52 : decode cX6_digest 52 = .ok (.if_icmp .gt 24, 3) := by decide +kernel
theorem dX6_digest_55 : decode cX6_digest 55 = .ok (.lload_n 1, 1) := by decide +kernel
theorem dX6_digest_56 : decode cX6_digest 56 = .ok (.ldc2_w 168, 3) := by decide +kernel
theorem dX6_digest_59 : decode cX6_digest 59 = .ok (.lmul, 1) := by decide +kernel
theorem dX6_digest_60 : decode cX6_digest 60 = .ok (.aload_n 0, 1) := by decide +kernel
theorem dX6_digest_61 : decode cX6_digest 61 = .ok (.iload_n 3, 1) := by decide +kernel
theorem dX6_digest_62 : decode cX6_digest 62 = .ok (.iload 4, 2) := by decide +kernel
theorem dX6_digest_64 : decode cX6_digest 64 = .ok (.invokevirtual 147, 3) := by decide +kernel
theorem dX6_digest_67 : decode cX6_digest 67 = .ok (.i2l, 1) := by decide +kernel
theorem dX6_digest_68 : decode cX6_digest 68 = .ok (.ladd, 1) := by decide +kernel
theorem dX6_digest_69 : decode cX6_digest 69 = .ok (.lstore_n 1, 1) := by decide +kernel
theorem dX6_digest_70 : decode cX6_digest 70 = .ok (.iinc 4 1, 3) := by decide +kernel
theorem dX6_digest_73 : decode cX6_digest 73 = .ok (.goto (-24), 3) := by decide +kernel
theorem dX6_digest_76 : decode cX6_digest 76 = .ok (.iinc 3 1, 3) := by decide +kernel
theorem dX6_digest_79 : decode cX6_digest 79 = .ok (.goto (-41), 3) := by decide +kernel
theorem dX6_digest_82 : decode cX6_digest 82 = .ok (.iconst 0, 1) := by decide +kernel
theorem dX6_digest_83 : decode cX6_digest 83 = .ok (.istore_n 3, 1) := by decide +kernel
theorem dX6_digest_84 : decode cX6_digest 84 = .ok (.iload_n 3, 1) := by decide +kernel
theorem dX6_digest_85 : decode cX6_digest 85 = .ok (.aload_n 0, 1) := by decide +kernel
theorem dX6_digest_86 : decode cX6_digest 86 = .ok (.getfield 128, 3) := by decide +kernel
theorem dX6_digest_89 : decode cX6_digest 89 = .ok (.if_icmp .ge 39, 3) := by decide +kernel
theorem dX6_digest_92 : decode cX6_digest 92 = .ok (.iconst 0, 1) := by decide +kernel
theorem dX6_digest_93 : decode cX6_digest 93 = .ok (.istore 4, 2) := by decide +kernel
theorem dX6_digest_95 : decode cX6_digest 95 = .ok (.iload 4, 2) := by decide +kernel
theorem dX6_digest_97 : decode cX6_digest 97 = .ok (.iconst 4, 1) := by decide +kernel
theorem dX6_digest_98 : decode cX6_digest 98 = .ok (.if_icmp .gt 24, 3) := by decide +kernel
theorem dX6_digest_101 : decode cX6_digest 101 = .ok (.lload_n 1, 1) := by decide +kernel
theorem dX6_digest_102 : decode cX6_digest 102 = .ok (.ldc2_w 168, 3) := by decide +kernel
theorem dX6_digest_105 : decode cX6_digest 105 = .ok (.lmul, 1) := by decide +kernel
theorem dX6_digest_106 : decode cX6_digest 106 = .ok (.aload_n 0, 1) := by decide +kernel
theorem dX6_digest_107 : decode cX6_digest 107 = .ok (.iload_n 3, 1) := by decide +kernel
theorem dX6_digest_108 : decode cX6_digest 108 = .ok (.iload 4, 2) := by decide +kernel
theorem dX6_digest_110 : decode cX6_digest 110 = .ok (.invokevirtual 150, 3) := by decide +kernel
theorem dX6_digest_113 : decode cX6_digest 113 = .ok (.i2l, 1) := by decide +kernel
theorem dX6_digest_114 : decode cX6_digest 114 = .ok (.ladd, 1) := by decide +kernel
theorem dX6_digest_115 : decode cX6_digest 115 = .ok (.lstore_n 1, 1) := by decide +kernel
theorem dX6_digest_116 : decode cX6_digest 116 = .ok (.iinc 4 1, 3) := by decide +kernel
theorem dX6_digest_119 : decode cX6_digest 119 = .ok (.goto (-24), 3) := by decide +kernel
theorem dX6_digest_122 : decode cX6_digest 122 = .ok (.iinc 3 1, 3) := by decide +kernel
theorem dX6_digest_125 : decode cX6_digest 125 = .ok (.goto (-41), 3) := by decide +kernel
theorem dX6_digest_128 : decode cX6_digest 128 = .ok (.iconst 0, 1) := by decide +kernel
theorem dX6_digest_129 : decode cX6_digest 129 = .ok (.istore_n 3, 1) := by decide +kernel
theorem dX6_digest_130 : decode cX6_digest 130 = .ok (.iload_n 3, 1) := by decide +kernel
theorem dX6_digest_131 : decode cX6_digest 131 = .ok (.bipush 40, 2) := by decide +kernel
theorem dX6_digest_133 : decode cX6_digest 133 = .ok (.if_icmp .ge 39, 3) := by decide +kernel
theorem dX6_digest_136 : decode cX6_digest 136 = .ok (.iconst 0, 1) := by decide +kernel
theorem dX6_digest_137 : decode cX6_digest 137 = .ok (.istore 4, 2) := by decide +kernel
theorem dX6_digest_139 : decode cX6_digest 139 = .ok (.iload 4, 2) := by decide +kernel
theorem dX6_digest_141 : decode cX6_digest 141 = .ok (.iconst 5, 1) := by decide +kernel
theorem dX6_digest_142 : decode cX6_digest 142 = .ok (.if_icmp .gt 24, 3) := by decide +kernel
theorem dX6_digest_145 : decode cX6_digest 145 = .ok (.lload_n 1, 1) := by decide +kernel
theorem dX6_digest_146 : decode cX6_digest 146 = .ok (.ldc2_w 168, 3) := by decide +kernel
theorem dX6_digest_149 : decode cX6_digest 149 = .ok (.lmul, 1) := by decide +kernel
theorem dX6_digest_150 : decode cX6_digest 150 = .ok (.aload_n 0, 1) := by decide +kernel
theorem dX6_digest_151 : decode cX6_digest 151 = .ok (.iload_n 3, 1) := by decide +kernel
theorem dX6_digest_152 : decode cX6_digest 152 = .ok (.iload 4, 2) := by decide +kernel
theorem dX6_digest_154 : decode cX6_digest 154 = .ok (.invokevirtual 144, 3) := by decide +kernel
theorem dX6_digest_157 : decode cX6_digest 157 = .ok (.i2l, 1) := by decide +kernel
theorem dX6_digest_158 : decode cX6_digest 158 = .ok (.ladd, 1) := by decide +kernel
theorem dX6_digest_159 : decode cX6_digest 159 = .ok (.lstore_n 1, 1) := by decide +kernel
theorem dX6_digest_160 : decode cX6_digest 160 = .ok (.iinc 4 1, 3) := by decide +kernel
theorem dX6_digest_163 : decode cX6_digest 163 = .ok (.goto (-24), 3) := by decide +kernel
theorem dX6_digest_166 : decode cX6_digest 166 = .ok (.iinc 3 1, 3) := by decide +kernel
theorem dX6_digest_169 : decode cX6_digest 169 = .ok (.goto (-39), 3) := by decide +kernel
theorem dX6_digest_172 : decode cX6_digest 172 = .ok (.lload_n 1, 1) := by decide +kernel
theorem dX6_digest_173 : decode cX6_digest 173 = .ok (.lreturn, 1) := by decide +kernel
theorem dJ9_max_7cf53_0 : decode cJ9_max_7cf53 0 = .ok (.iload_n 0, 1) := by decide +kernel
theorem dJ9_max_7cf53_1 : decode cJ9_max_7cf53 1 = .ok (.iload_n 1, 1) := by decide +kernel
theorem dJ9_max_7cf53_2 : decode cJ9_max_7cf53 2 = .ok (.if_icmp .lt 7, 3) := by decide +kernel
theorem dJ9_max_7cf53_5 : decode cJ9_max_7cf53 5 = .ok (.iload_n 0, 1) := by decide +kernel
theorem dJ9_max_7cf53_6 : decode cJ9_max_7cf53 6 = .ok (.goto 4, 3) := by decide +kernel
theorem dJ9_max_7cf53_9 : decode cJ9_max_7cf53 9 = .ok (.iload_n 1, 1) := by decide +kernel
theorem dJ9_max_7cf53_10 : decode cJ9_max_7cf53 10 = .ok (.ireturn, 1) := by decide +kernel
theorem dJ9_min_7cf53_0 : decode cJ9_min_7cf53 0 = .ok (.iload_n 0, 1) := by decide +kernel
theorem dJ9_min_7cf53_1 : decode cJ9_min_7cf53 1 = .ok (.iload_n 1, 1) := by decide +kernel
theorem dJ9_min_7cf53_2 : decode cJ9_min_7cf53 2 = .ok (.if_icmp .gt 7, 3) := by decide +kernel
theorem dJ9_min_7cf53_5 : decode cJ9_min_7cf53 5 = .ok (.iload_n 0, 1) := by decide +kernel
theorem dJ9_min_7cf53_6 : decode cJ9_min_7cf53 6 = .ok (.goto 4, 3) := by decide +kernel
theorem dJ9_min_7cf53_9 : decode cJ9_min_7cf53 9 = .ok (.iload_n 1, 1) := by decide +kernel
theorem dJ9_min_7cf53_10 : decode cJ9_min_7cf53 10 = .ok (.ireturn, 1) := by decide +kernel
theorem dJxa1e45_init_da8c8_0 : decode cJxa1e45_init_da8c8 0 = .ok (.aload_n 0, 1) := by decide +kernel
theorem dJxa1e45_init_da8c8_1 : decode cJxa1e45_init_da8c8 1 = .ok (.invokespecial 1, 3) := by decide +kernel
theorem dJxa1e45_init_da8c8_4 : decode cJxa1e45_init_da8c8 4 = .ok (.return_, 1) := by decide +kernel
theorem dJxc12de_init_da8c8_0 : decode cJxc12de_init_da8c8 0 = .ok (.aload_n 0, 1) := by decide +kernel
theorem dJxc12de_init_da8c8_1 : decode cJxc12de_init_da8c8 1 = .ok (.invokespecial 1, 3) := by decide +kernel
theorem dJxc12de_init_da8c8_4 : decode cJxc12de_init_da8c8 4 = .ok (.aload_n 0, 1) := by decide +kernel
theorem dJxc12de_init_da8c8_5 : decode cJxc12de_init_da8c8 5 = .ok (.iconst 0, 1) := by decide +kernel
theorem dJxc12de_init_da8c8_6 : decode cJxc12de_init_da8c8 6 = .ok (.putfield 7, 3) := by decide +kernel
theorem dJxc12de_init_da8c8_9 : decode cJxc12de_init_da8c8 9 = .ok (.return_, 1) := by decide +kernel
theorem dJx4a65c_init_da8c8_0 : decode cJx4a65c_init_da8c8 0 = .ok (.aload_n 0, 1) := by decide +kernel
theorem dJx4a65c_init_da8c8_1 : decode cJx4a65c_init_da8c8 1 = .ok (.invokespecial 1, 3) := by decide +kernel
theorem dJx4a65c_init_da8c8_4 : decode cJx4a65c_init_da8c8 4 = .ok (.aload_n 0, 1) := by decide +kernel
theorem dJx4a65c_init_da8c8_5 : decode cJx4a65c_init_da8c8 5 = .ok (.getstatic 39, 3) := by decide +kernel
theorem dJx4a65c_init_da8c8_8 : decode cJx4a65c_init_da8c8 8 = .ok (.putfield 9, 3) := by decide +kernel
theorem dJx4a65c_init_da8c8_11 : decode cJx4a65c_init_da8c8 11 = .ok (.return_, 1) := by decide +kernel
theorem dJx4a65c_grow_92f84_0 : decode cJx4a65c_grow_92f84 0 = .ok (.aload_n 0, 1) := by decide +kernel
theorem dJx4a65c_grow_92f84_1 : decode cJx4a65c_grow_92f84 1 = .ok (.getfield 9, 3) := by decide +kernel
theorem dJx4a65c_grow_92f84_4 : decode cJx4a65c_grow_92f84 4 = .ok (.arraylength, 1) := by decide +kernel
theorem dJx4a65c_grow_92f84_5 : decode cJx4a65c_grow_92f84 5 = .ok (.istore_n 2, 1) := by decide +kernel
theorem dJx4a65c_grow_92f84_6 : decode cJx4a65c_grow_92f84 6 = .ok (.iload_n 2, 1) := by decide +kernel
theorem dJx4a65c_grow_92f84_7 : decode cJx4a65c_grow_92f84 7 = .ok (.ifCond .gt 13, 3) := by decide +kernel
theorem dJx4a65c_grow_92f84_10 : decode cJx4a65c_grow_92f84 10 = .ok (.aload_n 0, 1) := by decide +kernel
theorem dJx4a65c_grow_92f84_11 : decode cJx4a65c_grow_92f84 11 = .ok (.getfield 9, 3) := by decide +kernel
theorem dJx4a65c_grow_92f84_14 : decode cJx4a65c_grow_92f84 14 = .ok (.getstatic 39, 3) := by decide +kernel
theorem dJx4a65c_grow_92f84_17 : decode cJx4a65c_grow_92f84 17 = .ok (.if_acmp .eq 28, 3) := by decide +kernel
theorem dJx4a65c_grow_92f84_20 : decode cJx4a65c_grow_92f84 20 = .ok (.iload_n 2, 1) := by decide +kernel
theorem dJx4a65c_grow_92f84_21 : decode cJx4a65c_grow_92f84 21 = .ok (.iload_n 1, 1) := by decide +kernel
theorem dJx4a65c_grow_92f84_22 : decode cJx4a65c_grow_92f84 22 = .ok (.iload_n 2, 1) := by decide +kernel
theorem dJx4a65c_grow_92f84_23 : decode cJx4a65c_grow_92f84 23 = .ok (.isub, 1) := by decide +kernel
theorem dJx4a65c_grow_92f84_24 : decode cJx4a65c_grow_92f84 24 = .ok (.iload_n 2, 1) := by decide +kernel
theorem dJx4a65c_grow_92f84_25 : decode cJx4a65c_grow_92f84 25 = .ok (.iconst 1, 1) := by decide +kernel
theorem dJx4a65c_grow_92f84_26 : decode cJx4a65c_grow_92f84 26 = .ok (.ishr, 1) := by decide +kernel
theorem dJx4a65c_grow_92f84_27 : decode cJx4a65c_grow_92f84 27 = .ok (.invokestatic 73, 3) := by decide +kernel
theorem dJx4a65c_grow_92f84_30 : decode cJx4a65c_grow_92f84 30 = .ok (.istore_n 3, 1) := by decide +kernel
theorem dJx4a65c_grow_92f84_31 : decode cJx4a65c_grow_92f84 31 = .ok (.aload_n 0, 1) := by decide +kernel
theorem dJx4a65c_grow_92f84_32 : decode cJx4a65c_grow_92f84 32 = .ok (.aload_n 0, 1) := by decide +kernel
theorem dJx4a65c_grow_92f84_33 : decode cJx4a65c_grow_92f84 33 = .ok (.getfield 9, 3) := by decide +kernel
theorem dJx4a65c_grow_92f84_36 : decode cJx4a65c_grow_92f84 36 = .ok (.iload_n 3, 1) := by decide +kernel
theorem dJx4a65c_grow_92f84_37 : decode cJx4a65c_grow_92f84 37 = .ok (.invokestatic 66, 3) := by decide +kernel
theorem dJx4a65c_grow_92f84_40 : decode cJx4a65c_grow_92f84 40 = .ok (.dup_x1, 1) := by decide +kernel
theorem dJx4a65c_grow_92f84_41 : decode cJx4a65c_grow_92f84 41 = .ok (.putfield 9, 3) := by decide +kernel
theorem dJx4a65c_grow_92f84_44 : decode cJx4a65c_grow_92f84 44 = .ok (.areturn, 1) := by decide +kernel
theorem dJx4a65c_grow_92f84_45 : decode cJx4a65c_grow_92f84 45 = .ok (.aload_n 0, 1) := by decide +kernel
theorem dJx4a65c_grow_92f84_46 : decode cJx4a65c_grow_92f84 46 = .ok (.bipush 10, 2) := by decide +kernel
theorem dJx4a65c_grow_92f84_48 : decode cJx4a65c_grow_92f84 48 = .ok (.iload_n 1, 1) := by decide +kernel
theorem dJx4a65c_grow_92f84_49 : decode cJx4a65c_grow_92f84 49 = .ok (.invokestatic 79, 3) := by decide +kernel
theorem dJx4a65c_grow_92f84_52 : decode cJx4a65c_grow_92f84 52 = .ok (.anewarray 7, 3) := by decide +kernel
theorem dJx4a65c_grow_92f84_55 : decode cJx4a65c_grow_92f84 55 = .ok (.dup_x1, 1) := by decide +kernel
theorem dJx4a65c_grow_92f84_56 : decode cJx4a65c_grow_92f84 56 = .ok (.putfield 9, 3) := by decide +kernel
theorem dJx4a65c_grow_92f84_59 : decode cJx4a65c_grow_92f84 59 = .ok (.areturn, 1) := by decide +kernel
theorem dJx4a65c_grow_d5877_0 : decode cJx4a65c_grow_d5877 0 = .ok (.aload_n 0, 1) := by decide +kernel
theorem dJx4a65c_grow_d5877_1 : decode cJx4a65c_grow_d5877 1 = .ok (.aload_n 0, 1) := by decide +kernel
theorem dJx4a65c_grow_d5877_2 : decode cJx4a65c_grow_d5877 2 = .ok (.getfield 48, 3) := by decide +kernel
theorem dJx4a65c_grow_d5877_5 : decode cJx4a65c_grow_d5877 5 = .ok (.iconst 1, 1) := by decide +kernel
theorem dJx4a65c_grow_d5877_6 : decode cJx4a65c_grow_d5877 6 = .ok (.iadd, 1) := by decide +kernel
theorem dJx4a65c_grow_d5877_7 : decode cJx4a65c_grow_d5877 7 = .ok (.invokevirtual 69, 3) := by decide +kernel
theorem dJx4a65c_grow_d5877_10 : decode cJx4a65c_grow_d5877 10 = .ok (.areturn, 1) := by decide +kernel
theorem dJx4a65c_size_8abf5_0 : decode cJx4a65c_size_8abf5 0 = .ok (.aload_n 0, 1) := by decide +kernel
theorem dJx4a65c_size_8abf5_1 : decode cJx4a65c_size_8abf5 1 = .ok (.getfield 48, 3) := by decide +kernel
theorem dJx4a65c_size_8abf5_4 : decode cJx4a65c_size_8abf5 4 = .ok (.ireturn, 1) := by decide +kernel
theorem dJx4a65c_elementData_915e3_0 : decode cJx4a65c_elementData_915e3 0 = .ok (.aload_n 0, 1) := by decide +kernel
theorem dJx4a65c_elementData_915e3_1 : decode cJx4a65c_elementData_915e3 1 = .ok (.getfield 9, 3) := by decide +kernel
theorem dJx4a65c_elementData_915e3_4 : decode cJx4a65c_elementData_915e3 4 = .ok (.iload_n 1, 1) := by decide +kernel
theorem dJx4a65c_elementData_915e3_5 : decode cJx4a65c_elementData_915e3 5 = .ok (.aaload, 1) := by decide +kernel
theorem dJx4a65c_elementData_915e3_6 : decode cJx4a65c_elementData_915e3 6 = .ok (.areturn, 1) := by decide +kernel
theorem dJx4a65c_get_915e3_0 : decode cJx4a65c_get_915e3 0 = .ok (.iload_n 1, 1) := by decide +kernel
theorem dJx4a65c_get_915e3_1 : decode cJx4a65c_get_915e3 1 = .ok (.aload_n 0, 1) := by decide +kernel
theorem dJx4a65c_get_915e3_2 : decode cJx4a65c_get_915e3 2 = .ok (.getfield 48, 3) := by decide +kernel
theorem dJx4a65c_get_915e3_5 : decode cJx4a65c_get_915e3 5 = .ok (.invokestatic 118, 3) := by decide +kernel
theorem dJx4a65c_get_915e3_8 : decode cJx4a65c_get_915e3 8 = .ok (.pop, 1) := by decide +kernel
theorem dJx4a65c_get_915e3_9 : decode cJx4a65c_get_915e3 9 = .ok (.aload_n 0, 1) := by decide +kernel
theorem dJx4a65c_get_915e3_10 : decode cJx4a65c_get_915e3 10 = .ok (.iload_n 1, 1) := by decide +kernel
theorem dJx4a65c_get_915e3_11 : decode cJx4a65c_get_915e3 11 = .ok (.invokevirtual 123, 3) := by decide +kernel
theorem dJx4a65c_get_915e3_14 : decode cJx4a65c_get_915e3 14 = .ok (.areturn, 1) := by decide +kernel
theorem dJx4a65c_add_72be8_0 : decode cJx4a65c_add_72be8 0 = .ok (.iload_n 3, 1) := by decide +kernel
theorem dJx4a65c_add_72be8_1 : decode cJx4a65c_add_72be8 1 = .ok (.aload_n 2, 1) := by decide +kernel
theorem dJx4a65c_add_72be8_2 : decode cJx4a65c_add_72be8 2 = .ok (.arraylength, 1) := by decide +kernel
theorem dJx4a65c_add_72be8_3 : decode cJx4a65c_add_72be8 3 = .ok (.if_icmp .ne 8, 3) := by decide +kernel
theorem dJx4a65c_add_72be8_6 : decode cJx4a65c_add_72be8 6 = .ok (.aload_n 0, 1) := by decide +kernel
theorem dJx4a65c_add_72be8_7 : decode cJx4a65c_add_72be8 7 = .ok (.invokevirtual 129, 3) := by decide +kernel
theorem dJx4a65c_add_72be8_10 : decode cJx4a65c_add_72be8 10 = .ok (.astore_n 2, 1) := by decide +kernel
theorem dJx4a65c_add_72be8_11 : decode cJx4a65c_add_72be8 11 = .ok (.aload_n 2, 1) := by decide +kernel
theorem dJx4a65c_add_72be8_12 : decode cJx4a65c_add_72be8 12 = .ok (.iload_n 3, 1) := by decide +kernel
theorem dJx4a65c_add_72be8_13 : decode cJx4a65c_add_72be8 13 = .ok (.aload_n 1, 1) := by decide +kernel
theorem dJx4a65c_add_72be8_14 : decode cJx4a65c_add_72be8 14 = .ok (.aastore, 1) := by decide +kernel
theorem dJx4a65c_add_72be8_15 : decode cJx4a65c_add_72be8 15 = .ok (.aload_n 0, 1) := by decide +kernel
theorem dJx4a65c_add_72be8_16 : decode cJx4a65c_add_72be8 16 = .ok (.iload_n 3, 1) := by decide +kernel
theorem dJx4a65c_add_72be8_17 : decode cJx4a65c_add_72be8 17 = .ok (.iconst 1, 1) := by decide +kernel
theorem dJx4a65c_add_72be8_18 : decode cJx4a65c_add_72be8 18 = .ok (.iadd, 1) := by decide +kernel
theorem dJx4a65c_add_72be8_19 : decode cJx4a65c_add_72be8 19 = .ok (.putfield 48, 3) := by decide +kernel
theorem dJx4a65c_add_72be8_22 : decode cJx4a65c_add_72be8 22 = .ok (.return_, 1) := by decide +kernel
theorem dJx4a65c_add_9ea2d_0 : decode cJx4a65c_add_9ea2d 0 = .ok (.aload_n 0, 1) := by decide +kernel
theorem dJx4a65c_add_9ea2d_1 : decode cJx4a65c_add_9ea2d 1 = .ok (.dup, 1) := by decide +kernel
theorem dJx4a65c_add_9ea2d_2 : decode cJx4a65c_add_9ea2d 2 = .ok (.getfield 63, 3) := by decide +kernel
theorem dJx4a65c_add_9ea2d_5 : decode cJx4a65c_add_9ea2d 5 = .ok (.iconst 1, 1) := by decide +kernel
theorem dJx4a65c_add_9ea2d_6 : decode cJx4a65c_add_9ea2d 6 = .ok (.iadd, 1) := by decide +kernel
theorem dJx4a65c_add_9ea2d_7 : decode cJx4a65c_add_9ea2d 7 = .ok (.putfield 63, 3) := by decide +kernel
theorem dJx4a65c_add_9ea2d_10 : decode cJx4a65c_add_9ea2d 10 = .ok (.aload_n 0, 1) := by decide +kernel
theorem dJx4a65c_add_9ea2d_11 : decode cJx4a65c_add_9ea2d 11 = .ok (.aload_n 1, 1) := by decide +kernel
theorem dJx4a65c_add_9ea2d_12 : decode cJx4a65c_add_9ea2d 12 = .ok (.aload_n 0, 1) := by decide +kernel
theorem dJx4a65c_add_9ea2d_13 : decode cJx4a65c_add_9ea2d 13 = .ok (.getfield 9, 3) := by decide +kernel
theorem dJx4a65c_add_9ea2d_16 : decode cJx4a65c_add_9ea2d 16 = .ok (.aload_n 0, 1) := by decide +kernel
theorem dJx4a65c_add_9ea2d_17 : decode cJx4a65c_add_9ea2d 17 = .ok (.getfield 48, 3) := by decide +kernel
theorem dJx4a65c_add_9ea2d_20 : decode cJx4a65c_add_9ea2d 20 = .ok (.invokevirtual 131, 3) := by decide +kernel
theorem dJx4a65c_add_9ea2d_23 : decode cJx4a65c_add_9ea2d 23 = .ok (.iconst 1, 1) := by decide +kernel
theorem dJx4a65c_add_9ea2d_24 : decode cJx4a65c_add_9ea2d 24 = .ok (.ireturn, 1) := by decide +kernel
theorem dJ7_copyOf_1904c_0 : decode cJ7_copyOf_1904c 0 = .ok (.aload_n 0, 1) := by decide +kernel
theorem dJ7_copyOf_1904c_1 : decode cJ7_copyOf_1904c 1 = .ok (.iload_n 1, 1) := by decide +kernel
theorem dJ7_copyOf_1904c_2 : decode cJ7_copyOf_1904c 2 = .ok (.aload_n 0, 1) := by decide +kernel
theorem dJ7_copyOf_1904c_3 : decode cJ7_copyOf_1904c 3 = .ok (.invokevirtual 86, 3) := by decide +kernel
theorem dJ7_copyOf_1904c_6 : decode cJ7_copyOf_1904c 6 = .ok (.invokestatic 300, 3) := by decide +kernel
theorem dJ7_copyOf_1904c_9 : decode cJ7_copyOf_1904c 9 = .ok (.areturn, 1) := by decide +kernel
theorem dJ7_copyOf_6403c_0 : decode cJ7_copyOf_6403c 0 = .ok (.aload_n 2, 1) := by decide +kernel
theorem dJ7_copyOf_6403c_1 : decode cJ7_copyOf_6403c 1 = .ok (.ldc 110, 2) := by decide +kernel
theorem dJ7_copyOf_6403c_3 : decode cJ7_copyOf_6403c 3 = .ok (.if_acmp .ne 10, 3) := by decide +kernel
theorem dJ7_copyOf_6403c_6 : decode cJ7_copyOf_6403c 6 = .ok (.iload_n 1, 1) := by decide +kernel
theorem dJ7_copyOf_6403c_7 : decode cJ7_copyOf_6403c 7 = .ok (.anewarray 2, 3) := by decide +kernel
theorem dJ7_copyOf_6403c_10 : decode cJ7_copyOf_6403c 10 = .ok (.goto 14, 3) := by decide +kernel
theorem dJ7_copyOf_6403c_13 : decode cJ7_copyOf_6403c 13 = .ok (.aload_n 2, 1) := by decide +kernel
theorem dJ7_copyOf_6403c_14 : decode cJ7_copyOf_6403c 14 = .ok (.invokevirtual 90, 3) := by decide +kernel
theorem dJ7_copyOf_6403c_17 : decode cJ7_copyOf_6403c 17 = .ok (.iload_n 1, 1) := by decide +kernel
theorem dJ7_copyOf_6403c_18 : decode cJ7_copyOf_6403c 18 = .ok (.invokestatic 95, 3) := by decide +kernel
theorem dJ7_copyOf_6403c_21 : decode cJ7_copyOf_6403c 21 = .ok (.checkcast 110, 3) := by decide +kernel
theorem dJ7_copyOf_6403c_24 : decode cJ7_copyOf_6403c 24 = .ok (.astore_n 3, 1) := by decide +kernel
theorem dJ7_copyOf_6403c_25 : decode cJ7_copyOf_6403c 25 = .ok (.aload_n 0, 1) := by decide +kernel
theorem dJ7_copyOf_6403c_26 : decode cJ7_copyOf_6403c 26 = .ok (.iconst 0, 1) := by decide +kernel
theorem dJ7_copyOf_6403c_27 : decode cJ7_copyOf_6403c 27 = .ok (.aload_n 3, 1) := by decide +kernel
theorem dJ7_copyOf_6403c_28 : decode cJ7_copyOf_6403c 28 = .ok (.iconst 0, 1) := by decide +kernel
theorem dJ7_copyOf_6403c_29 : decode cJ7_copyOf_6403c 29 = .ok (.aload_n 0, 1) := by decide +kernel
theorem dJ7_copyOf_6403c_30 : decode cJ7_copyOf_6403c 30 = .ok (.arraylength, 1) := by decide +kernel
theorem dJ7_copyOf_6403c_31 : decode cJ7_copyOf_6403c 31 = .ok (.iload_n 1, 1) := by decide +kernel
theorem dJ7_copyOf_6403c_32 : decode cJ7_copyOf_6403c 32 = .ok (.invokestatic 304, 3) := by decide +kernel
theorem dJ7_copyOf_6403c_35 : decode cJ7_copyOf_6403c 35 = .ok (.invokestatic 150, 3) := by decide +kernel
theorem dJ7_copyOf_6403c_38 : decode cJ7_copyOf_6403c 38 = .ok (.aload_n 3, 1) := by decide +kernel
theorem dJ7_copyOf_6403c_39 : decode cJ7_copyOf_6403c 39 = .ok (.areturn, 1) := by decide +kernel
theorem dJ15_checkIndex_7cf53_0 : decode cJ15_checkIndex_7cf53 0 = .ok (.iload_n 0, 1) := by decide +kernel
theorem dJ15_checkIndex_7cf53_1 : decode cJ15_checkIndex_7cf53 1 = .ok (.iload_n 1, 1) := by decide +kernel
theorem dJ15_checkIndex_7cf53_2 : decode cJ15_checkIndex_7cf53 2 = .ok (.aconst_null, 1) := by decide +kernel
theorem dJ15_checkIndex_7cf53_3 : decode cJ15_checkIndex_7cf53 3 = .ok (.invokestatic 105, 3) := by decide +kernel
theorem dJ15_checkIndex_7cf53_6 : decode cJ15_checkIndex_7cf53 6 = .ok (.ireturn, 1) := by decide +kernel
theorem dJ8_newLength_cabcc_0 : decode cJ8_newLength_cabcc 0 = .ok (.iload_n 0, 1) := by decide +kernel
theorem dJ8_newLength_cabcc_1 : decode cJ8_newLength_cabcc 1 = .ok (.iload_n 1, 1) := by decide +kernel
theorem dJ8_newLength_cabcc_2 : decode cJ8_newLength_cabcc 2 = .ok (.iload_n 2, 1) := by decide +kernel
theorem dJ8_newLength_cabcc_3 : decode cJ8_newLength_cabcc 3 = .ok (.invokestatic 194, 3) := by decide +kernel
theorem dJ8_newLength_cabcc_6 : decode cJ8_newLength_cabcc 6 = .ok (.iadd, 1) := by decide +kernel
theorem dJ8_newLength_cabcc_7 : decode cJ8_newLength_cabcc 7 = .ok (.istore_n 3, 1) := by decide +kernel
theorem dJ8_newLength_cabcc_8 : decode cJ8_newLength_cabcc 8 = .ok (.iconst 0, 1) := by decide +kernel
theorem dJ8_newLength_cabcc_9 : decode cJ8_newLength_cabcc 9 = .ok (.iload_n 3, 1) := by decide +kernel
theorem dJ8_newLength_cabcc_10 : decode cJ8_newLength_cabcc 10 = .ok (.if_icmp .ge 11, 3) := by decide +kernel
theorem dJ8_newLength_cabcc_13 : decode cJ8_newLength_cabcc 13 = .ok (.iload_n 3, 1) := by decide +kernel
theorem dJ8_newLength_cabcc_14 : decode cJ8_newLength_cabcc 14 = .ok (.ldc 200, 2) := by decide +kernel
theorem dJ8_newLength_cabcc_16 : decode cJ8_newLength_cabcc 16 = .ok (.if_icmp .gt 5, 3) := by decide +kernel
theorem dJ8_newLength_cabcc_19 : decode cJ8_newLength_cabcc 19 = .ok (.iload_n 3, 1) := by decide +kernel
theorem dJ8_newLength_cabcc_20 : decode cJ8_newLength_cabcc 20 = .ok (.ireturn, 1) := by decide +kernel
theorem dJ8_newLength_cabcc_21 : decode cJ8_newLength_cabcc 21 = .ok (.iload_n 0, 1) := by decide +kernel
theorem dJ8_newLength_cabcc_22 : decode cJ8_newLength_cabcc 22 = .ok (.iload_n 1, 1) := by decide +kernel
theorem dJ8_newLength_cabcc_23 : decode cJ8_newLength_cabcc 23 = .ok (.invokestatic 201, 3) := by decide +kernel
theorem dJ8_newLength_cabcc_26 : decode cJ8_newLength_cabcc 26 = .ok (.ireturn, 1) := by decide +kernel
theorem dJ8_hugeLength_7cf53_0 : decode cJ8_hugeLength_7cf53 0 = .ok (.iload_n 0, 1) := by decide +kernel
theorem dJ8_hugeLength_7cf53_1 : decode cJ8_hugeLength_7cf53 1 = .ok (.iload_n 1, 1) := by decide +kernel
theorem dJ8_hugeLength_7cf53_2 : decode cJ8_hugeLength_7cf53 2 = .ok (.iadd, 1) := by decide +kernel
theorem dJ8_hugeLength_7cf53_3 : decode cJ8_hugeLength_7cf53 3 = .ok (.istore_n 2, 1) := by decide +kernel
theorem dJ8_hugeLength_7cf53_4 : decode cJ8_hugeLength_7cf53 4 = .ok (.iload_n 2, 1) := by decide +kernel
theorem dJ8_hugeLength_7cf53_5 : decode cJ8_hugeLength_7cf53 5 = .ok (.ifCond .ge 44, 3) := by decide +kernel
theorem dJ8_hugeLength_7cf53_8 : decode cJ8_hugeLength_7cf53 8 = .ok (.new 204, 3) := by decide +kernel
theorem dJ8_hugeLength_7cf53_11 : decode cJ8_hugeLength_7cf53 11 = .ok (.dup, 1) := by decide +kernel
theorem dJ8_hugeLength_7cf53_12 : decode cJ8_hugeLength_7cf53 12 = .ok (.new 89, 3) := by decide +kernel
theorem dJ8_hugeLength_7cf53_15 : decode cJ8_hugeLength_7cf53 15 = .ok (.dup, 1) := by decide +kernel
theorem dJ8_hugeLength_7cf53_16 : decode cJ8_hugeLength_7cf53 16 = .ok (.invokespecial 91, 3) := by decide +kernel
theorem dJ8_hugeLength_7cf53_19 : decode cJ8_hugeLength_7cf53 19 = .ok (.ldc 206, 2) := by decide +kernel
theorem dJ8_hugeLength_7cf53_21 : decode cJ8_hugeLength_7cf53 21 = .ok (.invokevirtual 94, 3) := by decide +kernel
theorem dJ8_hugeLength_7cf53_24 : decode cJ8_hugeLength_7cf53 24 = .ok (.iload_n 0, 1) := by decide +kernel
theorem dJ8_hugeLength_7cf53_25 : decode cJ8_hugeLength_7cf53 25 = .ok (.invokevirtual 98, 3) := by decide +kernel
theorem dJ8_hugeLength_7cf53_28 : decode cJ8_hugeLength_7cf53 28 = .ok (.ldc 208, 2) := by decide +kernel
theorem dJ8_hugeLength_7cf53_30 : decode cJ8_hugeLength_7cf53 30 = .ok (.invokevirtual 94, 3) := by decide +kernel
theorem dJ8_hugeLength_7cf53_33 : decode cJ8_hugeLength_7cf53 33 = .ok (.iload_n 1, 1) := by decide +kernel
theorem dJ8_hugeLength_7cf53_34 : decode cJ8_hugeLength_7cf53 34 = .ok (.invokevirtual 98, 3) := by decide +kernel
theorem dJ8_hugeLength_7cf53_37 : decode cJ8_hugeLength_7cf53 37 = .ok (.ldc 210, 2) := by decide +kernel
theorem dJ8_hugeLength_7cf53_39 : decode cJ8_hugeLength_7cf53 39 = .ok (.invokevirtual 94, 3) := by decide +kernel
theorem dJ8_hugeLength_7cf53_42 : decode cJ8_hugeLength_7cf53 42 = .ok (.invokevirtual 101, 3) := by decide +kernel
theorem dJ8_hugeLength_7cf53_45 : decode cJ8_hugeLength_7cf53 45 = .ok (.invokespecial 212, 3) := by decide +kernel
theorem dJ8_hugeLength_7cf53_48 : decode cJ8_hugeLength_7cf53 48 = .ok (.athrow, 1) := by decide +kernel
theorem dJ8_hugeLength_7cf53_49 : decode cJ8_hugeLength_7cf53 49 = .ok (.iload_n 2, 1) := by decide +kernel
theorem dJ8_hugeLength_7cf53_50 : decode cJ8_hugeLength_7cf53 50 = .ok (.ldc 200, 2) := by decide +kernel
theorem dJ8_hugeLength_7cf53_52 : decode cJ8_hugeLength_7cf53 52 = .ok (.if_icmp .gt 6, 3) := by decide +kernel
theorem dJ8_hugeLength_7cf53_55 : decode cJ8_hugeLength_7cf53 55 = .ok (.ldc 200, 2) := by decide +kernel
theorem dJ8_hugeLength_7cf53_57 : decode cJ8_hugeLength_7cf53 57 = .ok (.ireturn, 1) := by decide +kernel
theorem dJ8_hugeLength_7cf53_58 : decode cJ8_hugeLength_7cf53 58 = .ok (.iload_n 2, 1) := by decide +kernel
theorem dJ8_hugeLength_7cf53_59 : decode cJ8_hugeLength_7cf53 59 = .ok (.ireturn, 1) := by decide +kernel
theorem dJ3_checkIndex_8e157_0 : decode cJ3_checkIndex_8e157 0 = .ok (.iload_n 0, 1) := by decide +kernel
theorem dJ3_checkIndex_8e157_1 : decode cJ3_checkIndex_8e157 1 = .ok (.ifCond .lt 8, 3) := by decide +kernel
theorem dJ3_checkIndex_8e157_4 : decode cJ3_checkIndex_8e157 4 = .ok (.iload_n 0, 1) := by decide +kernel
theorem dJ3_checkIndex_8e157_5 : decode cJ3_checkIndex_8e157 5 = .ok (.iload_n 1, 1) := by decide +kernel
theorem dJ3_checkIndex_8e157_6 : decode cJ3_checkIndex_8e157 6 = .ok (.if_icmp .lt 10, 3) := by decide +kernel
theorem dJ3_checkIndex_8e157_9 : decode cJ3_checkIndex_8e157 9 = .ok (.aload_n 2, 1) := by decide +kernel
theorem dJ3_checkIndex_8e157_10 : decode cJ3_checkIndex_8e157 10 = .ok (.iload_n 0, 1) := by decide +kernel
theorem dJ3_checkIndex_8e157_11 : decode cJ3_checkIndex_8e157 11 = .ok (.iload_n 1, 1) := by decide +kernel
theorem dJ3_checkIndex_8e157_12 : decode cJ3_checkIndex_8e157 12 = .ok (.invokestatic 95, 3) := by decide +kernel
theorem dJ3_checkIndex_8e157_15 : decode cJ3_checkIndex_8e157 15 = .ok (.athrow, 1) := by decide +kernel
theorem dJ3_checkIndex_8e157_16 : decode cJ3_checkIndex_8e157 16 = .ok (.iload_n 0, 1) := by decide +kernel
theorem dJ3_checkIndex_8e157_17 : decode cJ3_checkIndex_8e157 17 = .ok (.ireturn, 1) := by decide +kernel
theorem dL_herb_0 : decode cL_herb 0 = .ok (.aload_n 3, 1) := by decide +kernel
theorem dL_herb_1 : decode cL_herb 1 = .ok (.iconst 0, 1) := by decide +kernel
theorem dL_herb_2 : decode cL_herb 2 = .ok (.aload_n 0, 1) := by decide +kernel
theorem dL_herb_3 : decode cL_herb 3 = .ok (.iload_n 1, 1) := by decide +kernel
theorem dL_herb_4 : decode cL_herb 4 = .ok (.iload_n 2, 1) := by decide +kernel
theorem dL_herb_5 : decode cL_herb 5 = .ok (.invokevirtual 7, 3) := by decide +kernel
theorem dL_herb_8 : decode cL_herb 8 = .ok (.i2l, 1) := by decide +kernel
theorem dL_herb_9 : decode cL_herb 9 = .ok (.lastore, 1) := by decide +kernel
theorem dL_herb_10 : decode cL_herb 10 = .ok (.goto 11, 3) := by decide +kernel
theorem dL_herb_13 : decode cL_herb 13 = .ok (.astore 4, 2) := by decide +kernel
theorem dL_herb_15 : decode cL_herb 15 = .ok (.iconst 1, 1) := by decide +kernel
theorem dL_herb_16 : decode cL_herb 16 = .ok (.ireturn, 1) := by decide +kernel
theorem dL_herb_17 : decode cL_herb 17 = .ok (.astore 4, 2) := by decide +kernel
theorem dL_herb_19 : decode cL_herb 19 = .ok (.iconst 2, 1) := by decide +kernel
theorem dL_herb_20 : decode cL_herb 20 = .ok (.ireturn, 1) := by decide +kernel
theorem dL_herb_21 : decode cL_herb 21 = .ok (.iconst 0, 1) := by decide +kernel
theorem dL_herb_22 : decode cL_herb 22 = .ok (.ireturn, 1) := by decide +kernel
theorem dL_hang_0 : decode cL_hang 0 = .ok (.aload 5, 2) := by decide +kernel
theorem dL_hang_2 : decode cL_hang 2 = .ok (.iconst 0, 1) := by decide +kernel
theorem dL_hang_3 : decode cL_hang 3 = .ok (.aload_n 0, 1) := by decide +kernel
theorem dL_hang_4 : decode cL_hang 4 = .ok (.iload_n 1, 1) := by decide +kernel
theorem dL_hang_5 : decode cL_hang 5 = .ok (.iload_n 2, 1) := by decide +kernel
theorem dL_hang_6 : decode cL_hang 6 = .ok (.iload_n 3, 1) := by decide +kernel
theorem dL_hang_7 : decode cL_hang 7 = .ok (.iload 4, 2) := by decide +kernel
theorem dL_hang_9 : decode cL_hang 9 = .ok (.invokevirtual 17, 3) := by decide +kernel
theorem dL_hang_12 : decode cL_hang 12 = .ok (.i2l, 1) := by decide +kernel
theorem dL_hang_13 : decode cL_hang 13 = .ok (.lastore, 1) := by decide +kernel
theorem dL_hang_14 : decode cL_hang 14 = .ok (.goto 15, 3) := by decide +kernel
theorem dL_hang_17 : decode cL_hang 17 = .ok (.astore 6, 2) := by decide +kernel
theorem dL_hang_19 : decode cL_hang 19 = .ok (.iconst 1, 1) := by decide +kernel
theorem dL_hang_20 : decode cL_hang 20 = .ok (.ireturn, 1) := by decide +kernel
theorem dL_hang_21 : decode cL_hang 21 = .ok (.astore 6, 2) := by decide +kernel
theorem dL_hang_23 : decode cL_hang 23 = .ok (.iconst 2, 1) := by decide +kernel
theorem dL_hang_24 : decode cL_hang 24 = .ok (.ireturn, 1) := by decide +kernel
theorem dL_hang_25 : decode cL_hang 25 = .ok (.astore 6, 2) := by decide +kernel
theorem dL_hang_27 : decode cL_hang 27 = .ok (.iconst 3, 1) := by decide +kernel
theorem dL_hang_28 : decode cL_hang 28 = .ok (.ireturn, 1) := by decide +kernel
theorem dL_hang_29 : decode cL_hang 29 = .ok (.iconst 0, 1) := by decide +kernel
theorem dL_hang_30 : decode cL_hang 30 = .ok (.ireturn, 1) := by decide +kernel
theorem dL_take_0 : decode cL_take 0 = .ok (.aload_n 3, 1) := by decide +kernel
theorem dL_take_1 : decode cL_take 1 = .ok (.iconst 0, 1) := by decide +kernel
theorem dL_take_2 : decode cL_take 2 = .ok (.aload_n 0, 1) := by decide +kernel
theorem dL_take_3 : decode cL_take 3 = .ok (.iload_n 1, 1) := by decide +kernel
theorem dL_take_4 : decode cL_take 4 = .ok (.iload_n 2, 1) := by decide +kernel
theorem dL_take_5 : decode cL_take 5 = .ok (.invokevirtual 23, 3) := by decide +kernel
theorem dL_take_8 : decode cL_take 8 = .ok (.i2l, 1) := by decide +kernel
theorem dL_take_9 : decode cL_take 9 = .ok (.lastore, 1) := by decide +kernel
theorem dL_take_10 : decode cL_take 10 = .ok (.goto 11, 3) := by decide +kernel
theorem dL_take_13 : decode cL_take 13 = .ok (.astore 4, 2) := by decide +kernel
theorem dL_take_15 : decode cL_take 15 = .ok (.iconst 1, 1) := by decide +kernel
theorem dL_take_16 : decode cL_take 16 = .ok (.ireturn, 1) := by decide +kernel
theorem dL_take_17 : decode cL_take 17 = .ok (.astore 4, 2) := by decide +kernel
theorem dL_take_19 : decode cL_take 19 = .ok (.iconst 2, 1) := by decide +kernel
theorem dL_take_20 : decode cL_take 20 = .ok (.ireturn, 1) := by decide +kernel
theorem dL_take_21 : decode cL_take 21 = .ok (.iconst 0, 1) := by decide +kernel
theorem dL_take_22 : decode cL_take 22 = .ok (.ireturn, 1) := by decide +kernel
theorem dL_move_0 : decode cL_move 0 = .ok (.aload 5, 2) := by decide +kernel
theorem dL_move_2 : decode cL_move 2 = .ok (.iconst 0, 1) := by decide +kernel
theorem dL_move_3 : decode cL_move 3 = .ok (.aload_n 0, 1) := by decide +kernel
theorem dL_move_4 : decode cL_move 4 = .ok (.iload_n 1, 1) := by decide +kernel
theorem dL_move_5 : decode cL_move 5 = .ok (.iload_n 2, 1) := by decide +kernel
theorem dL_move_6 : decode cL_move 6 = .ok (.iload_n 3, 1) := by decide +kernel
theorem dL_move_7 : decode cL_move 7 = .ok (.iload 4, 2) := by decide +kernel
theorem dL_move_9 : decode cL_move 9 = .ok (.invokevirtual 26, 3) := by decide +kernel
theorem dL_move_12 : decode cL_move 12 = .ok (.i2l, 1) := by decide +kernel
theorem dL_move_13 : decode cL_move 13 = .ok (.lastore, 1) := by decide +kernel
theorem dL_move_14 : decode cL_move 14 = .ok (.goto 11, 3) := by decide +kernel
theorem dL_move_17 : decode cL_move 17 = .ok (.astore 6, 2) := by decide +kernel
theorem dL_move_19 : decode cL_move 19 = .ok (.iconst 1, 1) := by decide +kernel
theorem dL_move_20 : decode cL_move 20 = .ok (.ireturn, 1) := by decide +kernel
theorem dL_move_21 : decode cL_move 21 = .ok (.astore 6, 2) := by decide +kernel
theorem dL_move_23 : decode cL_move 23 = .ok (.iconst 2, 1) := by decide +kernel
theorem dL_move_24 : decode cL_move 24 = .ok (.ireturn, 1) := by decide +kernel
theorem dL_move_25 : decode cL_move 25 = .ok (.iconst 0, 1) := by decide +kernel
theorem dL_move_26 : decode cL_move 26 = .ok (.ireturn, 1) := by decide +kernel
theorem dL_turn_0 : decode cL_turn 0 = .ok (.aload_n 2, 1) := by decide +kernel
theorem dL_turn_1 : decode cL_turn 1 = .ok (.iconst 0, 1) := by decide +kernel
theorem dL_turn_2 : decode cL_turn 2 = .ok (.aload_n 0, 1) := by decide +kernel
theorem dL_turn_3 : decode cL_turn 3 = .ok (.iload_n 1, 1) := by decide +kernel
theorem dL_turn_4 : decode cL_turn 4 = .ok (.invokevirtual 29, 3) := by decide +kernel
theorem dL_turn_7 : decode cL_turn 7 = .ok (.i2l, 1) := by decide +kernel
theorem dL_turn_8 : decode cL_turn 8 = .ok (.lastore, 1) := by decide +kernel
theorem dL_turn_9 : decode cL_turn 9 = .ok (.goto 6, 3) := by decide +kernel
theorem dL_turn_12 : decode cL_turn 12 = .ok (.astore_n 3, 1) := by decide +kernel
theorem dL_turn_13 : decode cL_turn 13 = .ok (.iconst 1, 1) := by decide +kernel
theorem dL_turn_14 : decode cL_turn 14 = .ok (.ireturn, 1) := by decide +kernel
theorem dL_turn_15 : decode cL_turn 15 = .ok (.iconst 0, 1) := by decide +kernel
theorem dL_turn_16 : decode cL_turn 16 = .ok (.ireturn, 1) := by decide +kernel
theorem dL_setWindow_0 : decode cL_setWindow 0 = .ok (.aload_n 2, 1) := by decide +kernel
theorem dL_setWindow_1 : decode cL_setWindow 1 = .ok (.iconst 0, 1) := by decide +kernel
theorem dL_setWindow_2 : decode cL_setWindow 2 = .ok (.aload_n 0, 1) := by decide +kernel
theorem dL_setWindow_3 : decode cL_setWindow 3 = .ok (.iload_n 1, 1) := by decide +kernel
theorem dL_setWindow_4 : decode cL_setWindow 4 = .ok (.invokevirtual 33, 3) := by decide +kernel
theorem dL_setWindow_7 : decode cL_setWindow 7 = .ok (.i2l, 1) := by decide +kernel
theorem dL_setWindow_8 : decode cL_setWindow 8 = .ok (.lastore, 1) := by decide +kernel
theorem dL_setWindow_9 : decode cL_setWindow 9 = .ok (.goto 6, 3) := by decide +kernel
theorem dL_setWindow_12 : decode cL_setWindow 12 = .ok (.astore_n 3, 1) := by decide +kernel
theorem dL_setWindow_13 : decode cL_setWindow 13 = .ok (.iconst 1, 1) := by decide +kernel
theorem dL_setWindow_14 : decode cL_setWindow 14 = .ok (.ireturn, 1) := by decide +kernel
theorem dL_setWindow_15 : decode cL_setWindow 15 = .ok (.iconst 0, 1) := by decide +kernel
theorem dL_setWindow_16 : decode cL_setWindow 16 = .ok (.ireturn, 1) := by decide +kernel
theorem dL_order_0 : decode cL_order 0 = .ok (.aload 4, 2) := by decide +kernel
theorem dL_order_2 : decode cL_order 2 = .ok (.iconst 0, 1) := by decide +kernel
theorem dL_order_3 : decode cL_order 3 = .ok (.aload_n 0, 1) := by decide +kernel
theorem dL_order_4 : decode cL_order 4 = .ok (.iload_n 1, 1) := by decide +kernel
theorem dL_order_5 : decode cL_order 5 = .ok (.iload_n 2, 1) := by decide +kernel
theorem dL_order_6 : decode cL_order 6 = .ok (.iload_n 3, 1) := by decide +kernel
theorem dL_order_7 : decode cL_order 7 = .ok (.invokevirtual 36, 3) := by decide +kernel
theorem dL_order_10 : decode cL_order 10 = .ok (.i2l, 1) := by decide +kernel
theorem dL_order_11 : decode cL_order 11 = .ok (.lastore, 1) := by decide +kernel
theorem dL_order_12 : decode cL_order 12 = .ok (.goto 15, 3) := by decide +kernel
theorem dL_order_15 : decode cL_order 15 = .ok (.astore 5, 2) := by decide +kernel
theorem dL_order_17 : decode cL_order 17 = .ok (.iconst 1, 1) := by decide +kernel
theorem dL_order_18 : decode cL_order 18 = .ok (.ireturn, 1) := by decide +kernel
theorem dL_order_19 : decode cL_order 19 = .ok (.astore 5, 2) := by decide +kernel
theorem dL_order_21 : decode cL_order 21 = .ok (.iconst 2, 1) := by decide +kernel
theorem dL_order_22 : decode cL_order 22 = .ok (.ireturn, 1) := by decide +kernel
theorem dL_order_23 : decode cL_order 23 = .ok (.astore 5, 2) := by decide +kernel
theorem dL_order_25 : decode cL_order 25 = .ok (.iconst 3, 1) := by decide +kernel
theorem dL_order_26 : decode cL_order 26 = .ok (.ireturn, 1) := by decide +kernel
theorem dL_order_27 : decode cL_order 27 = .ok (.iconst 0, 1) := by decide +kernel
theorem dL_order_28 : decode cL_order 28 = .ok (.ireturn, 1) := by decide +kernel
theorem dL_pass_0 : decode cL_pass 0 = .ok (.aload_n 3, 1) := by decide +kernel
theorem dL_pass_1 : decode cL_pass 1 = .ok (.iconst 0, 1) := by decide +kernel
theorem dL_pass_2 : decode cL_pass 2 = .ok (.aload_n 0, 1) := by decide +kernel
theorem dL_pass_3 : decode cL_pass 3 = .ok (.iload_n 1, 1) := by decide +kernel
theorem dL_pass_4 : decode cL_pass 4 = .ok (.iload_n 2, 1) := by decide +kernel
theorem dL_pass_5 : decode cL_pass 5 = .ok (.invokevirtual 40, 3) := by decide +kernel
theorem dL_pass_8 : decode cL_pass 8 = .ok (.i2l, 1) := by decide +kernel
theorem dL_pass_9 : decode cL_pass 9 = .ok (.lastore, 1) := by decide +kernel
theorem dL_pass_10 : decode cL_pass 10 = .ok (.goto 7, 3) := by decide +kernel
theorem dL_pass_13 : decode cL_pass 13 = .ok (.astore 4, 2) := by decide +kernel
theorem dL_pass_15 : decode cL_pass 15 = .ok (.iconst 1, 1) := by decide +kernel
theorem dL_pass_16 : decode cL_pass 16 = .ok (.ireturn, 1) := by decide +kernel
theorem dL_pass_17 : decode cL_pass 17 = .ok (.iconst 0, 1) := by decide +kernel
theorem dL_pass_18 : decode cL_pass 18 = .ok (.ireturn, 1) := by decide +kernel
theorem dL_told_0 : decode cL_told 0 = .ok (.aload 4, 2) := by decide +kernel
theorem dL_told_2 : decode cL_told 2 = .ok (.iconst 0, 1) := by decide +kernel
theorem dL_told_3 : decode cL_told 3 = .ok (.aload_n 0, 1) := by decide +kernel
theorem dL_told_4 : decode cL_told 4 = .ok (.iload_n 1, 1) := by decide +kernel
theorem dL_told_5 : decode cL_told 5 = .ok (.iload_n 2, 1) := by decide +kernel
theorem dL_told_6 : decode cL_told 6 = .ok (.iload_n 3, 1) := by decide +kernel
theorem dL_told_7 : decode cL_told 7 = .ok (.invokevirtual 43, 3) := by decide +kernel
theorem dL_told_10 : decode cL_told 10 = .ok (.i2l, 1) := by decide +kernel
theorem dL_told_11 : decode cL_told 11 = .ok (.lastore, 1) := by decide +kernel
theorem dL_told_12 : decode cL_told 12 = .ok (.goto 7, 3) := by decide +kernel
theorem dL_told_15 : decode cL_told 15 = .ok (.astore 5, 2) := by decide +kernel
theorem dL_told_17 : decode cL_told 17 = .ok (.iconst 1, 1) := by decide +kernel
theorem dL_told_18 : decode cL_told 18 = .ok (.ireturn, 1) := by decide +kernel
theorem dL_told_19 : decode cL_told 19 = .ok (.iconst 0, 1) := by decide +kernel
theorem dL_told_20 : decode cL_told 20 = .ok (.ireturn, 1) := by decide +kernel
theorem dL_about_0 : decode cL_about 0 = .ok (.aload_n 3, 1) := by decide +kernel
theorem dL_about_1 : decode cL_about 1 = .ok (.iconst 0, 1) := by decide +kernel
theorem dL_about_2 : decode cL_about 2 = .ok (.aload_n 0, 1) := by decide +kernel
theorem dL_about_3 : decode cL_about 3 = .ok (.iload_n 1, 1) := by decide +kernel
theorem dL_about_4 : decode cL_about 4 = .ok (.iload_n 2, 1) := by decide +kernel
theorem dL_about_5 : decode cL_about 5 = .ok (.invokevirtual 46, 3) := by decide +kernel
theorem dL_about_8 : decode cL_about 8 = .ok (.i2l, 1) := by decide +kernel
theorem dL_about_9 : decode cL_about 9 = .ok (.lastore, 1) := by decide +kernel
theorem dL_about_10 : decode cL_about 10 = .ok (.goto 7, 3) := by decide +kernel
theorem dL_about_13 : decode cL_about 13 = .ok (.astore 4, 2) := by decide +kernel
theorem dL_about_15 : decode cL_about 15 = .ok (.iconst 1, 1) := by decide +kernel
theorem dL_about_16 : decode cL_about 16 = .ok (.ireturn, 1) := by decide +kernel
theorem dL_about_17 : decode cL_about 17 = .ok (.iconst 0, 1) := by decide +kernel
theorem dL_about_18 : decode cL_about 18 = .ok (.ireturn, 1) := by decide +kernel
theorem dL_asked_0 : decode cL_asked 0 = .ok (.aload_n 3, 1) := by decide +kernel
theorem dL_asked_1 : decode cL_asked 1 = .ok (.iconst 0, 1) := by decide +kernel
theorem dL_asked_2 : decode cL_asked 2 = .ok (.aload_n 0, 1) := by decide +kernel
theorem dL_asked_3 : decode cL_asked 3 = .ok (.iload_n 1, 1) := by decide +kernel
theorem dL_asked_4 : decode cL_asked 4 = .ok (.iload_n 2, 1) := by decide +kernel
theorem dL_asked_5 : decode cL_asked 5 = .ok (.invokevirtual 49, 3) := by decide +kernel
theorem dL_asked_8 : decode cL_asked 8 = .ok (.i2l, 1) := by decide +kernel
theorem dL_asked_9 : decode cL_asked 9 = .ok (.lastore, 1) := by decide +kernel
theorem dL_asked_10 : decode cL_asked 10 = .ok (.goto 7, 3) := by decide +kernel
theorem dL_asked_13 : decode cL_asked 13 = .ok (.astore 4, 2) := by decide +kernel
theorem dL_asked_15 : decode cL_asked 15 = .ok (.iconst 1, 1) := by decide +kernel
theorem dL_asked_16 : decode cL_asked 16 = .ok (.ireturn, 1) := by decide +kernel
theorem dL_asked_17 : decode cL_asked 17 = .ok (.iconst 0, 1) := by decide +kernel
theorem dL_asked_18 : decode cL_asked 18 = .ok (.ireturn, 1) := by decide +kernel
theorem dL_count_0 : decode cL_count 0 = .ok (.aload_n 2, 1) := by decide +kernel
theorem dL_count_1 : decode cL_count 1 = .ok (.iconst 0, 1) := by decide +kernel
theorem dL_count_2 : decode cL_count 2 = .ok (.aload_n 0, 1) := by decide +kernel
theorem dL_count_3 : decode cL_count 3 = .ok (.iload_n 1, 1) := by decide +kernel
theorem dL_count_4 : decode cL_count 4 = .ok (.invokevirtual 52, 3) := by decide +kernel
theorem dL_count_7 : decode cL_count 7 = .ok (.i2l, 1) := by decide +kernel
theorem dL_count_8 : decode cL_count 8 = .ok (.lastore, 1) := by decide +kernel
theorem dL_count_9 : decode cL_count 9 = .ok (.goto 6, 3) := by decide +kernel
theorem dL_count_12 : decode cL_count 12 = .ok (.astore_n 3, 1) := by decide +kernel
theorem dL_count_13 : decode cL_count 13 = .ok (.iconst 1, 1) := by decide +kernel
theorem dL_count_14 : decode cL_count 14 = .ok (.ireturn, 1) := by decide +kernel
theorem dL_count_15 : decode cL_count 15 = .ok (.iconst 0, 1) := by decide +kernel
theorem dL_count_16 : decode cL_count 16 = .ok (.ireturn, 1) := by decide +kernel
theorem dL_until_0 : decode cL_until 0 = .ok (.aload 5, 2) := by decide +kernel
theorem dL_until_2 : decode cL_until 2 = .ok (.iconst 0, 1) := by decide +kernel
theorem dL_until_3 : decode cL_until 3 = .ok (.aload_n 0, 1) := by decide +kernel
theorem dL_until_4 : decode cL_until 4 = .ok (.iload_n 1, 1) := by decide +kernel
theorem dL_until_5 : decode cL_until 5 = .ok (.iload_n 2, 1) := by decide +kernel
theorem dL_until_6 : decode cL_until 6 = .ok (.iload_n 3, 1) := by decide +kernel
theorem dL_until_7 : decode cL_until 7 = .ok (.iload 4, 2) := by decide +kernel
theorem dL_until_9 : decode cL_until 9 = .ok (.invokevirtual 55, 3) := by decide +kernel
theorem dL_until_12 : decode cL_until 12 = .ok (.i2l, 1) := by decide +kernel
theorem dL_until_13 : decode cL_until 13 = .ok (.lastore, 1) := by decide +kernel
theorem dL_until_14 : decode cL_until 14 = .ok (.goto 11, 3) := by decide +kernel
theorem dL_until_17 : decode cL_until 17 = .ok (.astore 6, 2) := by decide +kernel
theorem dL_until_19 : decode cL_until 19 = .ok (.iconst 1, 1) := by decide +kernel
theorem dL_until_20 : decode cL_until 20 = .ok (.ireturn, 1) := by decide +kernel
theorem dL_until_21 : decode cL_until 21 = .ok (.astore 6, 2) := by decide +kernel
theorem dL_until_23 : decode cL_until 23 = .ok (.iconst 2, 1) := by decide +kernel
theorem dL_until_24 : decode cL_until 24 = .ok (.ireturn, 1) := by decide +kernel
theorem dL_until_25 : decode cL_until 25 = .ok (.iconst 0, 1) := by decide +kernel
theorem dL_until_26 : decode cL_until 26 = .ok (.ireturn, 1) := by decide +kernel
theorem dL_foresee_0 : decode cL_foresee 0 = .ok (.aload 4, 2) := by decide +kernel
theorem dL_foresee_2 : decode cL_foresee 2 = .ok (.iconst 0, 1) := by decide +kernel
theorem dL_foresee_3 : decode cL_foresee 3 = .ok (.aload_n 0, 1) := by decide +kernel
theorem dL_foresee_4 : decode cL_foresee 4 = .ok (.iload_n 1, 1) := by decide +kernel
theorem dL_foresee_5 : decode cL_foresee 5 = .ok (.iload_n 2, 1) := by decide +kernel
theorem dL_foresee_6 : decode cL_foresee 6 = .ok (.iload_n 3, 1) := by decide +kernel
theorem dL_foresee_7 : decode cL_foresee 7 = .ok (.invokevirtual 58, 3) := by decide +kernel
theorem dL_foresee_10 : decode cL_foresee 10 = .ok (.i2l, 1) := by decide +kernel
theorem dL_foresee_11 : decode cL_foresee 11 = .ok (.lastore, 1) := by decide +kernel
theorem dL_foresee_12 : decode cL_foresee 12 = .ok (.goto 11, 3) := by decide +kernel
theorem dL_foresee_15 : decode cL_foresee 15 = .ok (.astore 5, 2) := by decide +kernel
theorem dL_foresee_17 : decode cL_foresee 17 = .ok (.iconst 1, 1) := by decide +kernel
theorem dL_foresee_18 : decode cL_foresee 18 = .ok (.ireturn, 1) := by decide +kernel
theorem dL_foresee_19 : decode cL_foresee 19 = .ok (.astore 5, 2) := by decide +kernel
theorem dL_foresee_21 : decode cL_foresee 21 = .ok (.iconst 2, 1) := by decide +kernel
theorem dL_foresee_22 : decode cL_foresee 22 = .ok (.ireturn, 1) := by decide +kernel
theorem dL_foresee_23 : decode cL_foresee 23 = .ok (.iconst 0, 1) := by decide +kernel
theorem dL_foresee_24 : decode cL_foresee 24 = .ok (.ireturn, 1) := by decide +kernel
theorem dL_advise_0 : decode cL_advise 0 = .ok (.aload_n 3, 1) := by decide +kernel
theorem dL_advise_1 : decode cL_advise 1 = .ok (.iconst 0, 1) := by decide +kernel
theorem dL_advise_2 : decode cL_advise 2 = .ok (.aload_n 0, 1) := by decide +kernel
theorem dL_advise_3 : decode cL_advise 3 = .ok (.iload_n 1, 1) := by decide +kernel
theorem dL_advise_4 : decode cL_advise 4 = .ok (.iload_n 2, 1) := by decide +kernel
theorem dL_advise_5 : decode cL_advise 5 = .ok (.invokevirtual 61, 3) := by decide +kernel
theorem dL_advise_8 : decode cL_advise 8 = .ok (.i2l, 1) := by decide +kernel
theorem dL_advise_9 : decode cL_advise 9 = .ok (.lastore, 1) := by decide +kernel
theorem dL_advise_10 : decode cL_advise 10 = .ok (.goto 7, 3) := by decide +kernel
theorem dL_advise_13 : decode cL_advise 13 = .ok (.astore 4, 2) := by decide +kernel
theorem dL_advise_15 : decode cL_advise 15 = .ok (.iconst 1, 1) := by decide +kernel
theorem dL_advise_16 : decode cL_advise 16 = .ok (.ireturn, 1) := by decide +kernel
theorem dL_advise_17 : decode cL_advise 17 = .ok (.iconst 0, 1) := by decide +kernel
theorem dL_advise_18 : decode cL_advise 18 = .ok (.ireturn, 1) := by decide +kernel
theorem dL_law_0 : decode cL_law 0 = .ok (.new 8, 3) := by decide +kernel
theorem dL_law_3 : decode cL_law 3 = .ok (.dup, 1) := by decide +kernel
theorem dL_law_4 : decode cL_law 4 = .ok (.invokespecial 64, 3) := by decide +kernel
theorem dL_law_7 : decode cL_law 7 = .ok (.astore_n 1, 1) := by decide +kernel
theorem dL_law_8 : decode cL_law 8 = .ok (.new 65, 3) := by decide +kernel
theorem dL_law_11 : decode cL_law 11 = .ok (.dup, 1) := by decide +kernel
theorem dL_law_12 : decode cL_law 12 = .ok (.invokespecial 67, 3) := by decide +kernel
theorem dL_law_15 : decode cL_law 15 = .ok (.astore_n 2, 1) := by decide +kernel
theorem dL_law_16 : decode cL_law 16 = .ok (.iconst 1, 1) := by decide +kernel
theorem dL_law_17 : decode cL_law 17 = .ok (.newarray .long, 2) := by decide +kernel
theorem dL_law_19 : decode cL_law 19 = .ok (.astore_n 3, 1) := by decide +kernel
theorem dL_law_20 : decode cL_law 20 = .ok (.iconst 0, 1) := by decide +kernel
theorem dL_law_21 : decode cL_law 21 = .ok (.istore 4, 2) := by decide +kernel
theorem dL_law_23 : decode cL_law 23 = .ok (.iload 4, 2) := by decide +kernel
theorem dL_law_25 : decode cL_law 25 = .ok (.aload_n 0, 1) := by decide +kernel
theorem dL_law_26 : decode cL_law 26 = .ok (.arraylength, 1) := by decide +kernel
theorem dL_law_27 : decode cL_law 27 = .ok (.iconst 5, 1) := by decide +kernel
theorem dL_law_28 : decode cL_law 28 = .ok (.isub, 1) := by decide +kernel
theorem dL_law_29 : decode cL_law 29 = .ok (.if_icmp .gt 1261, 3) := by decide +kernel
theorem dL_law_32 : decode cL_law 32 = .ok (.aload_n 0, 1) := by decide +kernel
theorem dL_law_33 : decode cL_law 33 = .ok (.iload 4, 2) := by decide +kernel
theorem dL_law_35 : decode cL_law 35 = .ok (.iaload, 1) := by decide +kernel
theorem dL_law_36 : decode cL_law 36 = .ok (.bipush 31, 2) := by decide +kernel
theorem dL_law_38 : decode cL_law 38 = .ok (.iand, 1) := by decide +kernel
theorem dL_law_39 : decode cL_law 39 = .ok (.tableswitch 1245 0 17 #[85, 153, 245, 313, 405, 461, 517, 597, 610, 678, 758, 826, 894, 950, 1042, 1122, 1190, 1231], 85) := by decide +kernel
theorem dL_law_124 : decode cL_law 124 = .ok (.aload_n 1, 1) := by decide +kernel
theorem dL_law_125 : decode cL_law 125 = .ok (.aload_n 0, 1) := by decide +kernel
theorem dL_law_126 : decode cL_law 126 = .ok (.iload 4, 2) := by decide +kernel
theorem dL_law_128 : decode cL_law 128 = .ok (.iconst 1, 1) := by decide +kernel
theorem dL_law_129 : decode cL_law 129 = .ok (.iadd, 1) := by decide +kernel
theorem dL_law_130 : decode cL_law 130 = .ok (.iaload, 1) := by decide +kernel
theorem dL_law_131 : decode cL_law 131 = .ok (.aload_n 0, 1) := by decide +kernel
theorem dL_law_132 : decode cL_law 132 = .ok (.iload 4, 2) := by decide +kernel
theorem dL_law_134 : decode cL_law 134 = .ok (.iconst 2, 1) := by decide +kernel
theorem dL_law_135 : decode cL_law 135 = .ok (.iadd, 1) := by decide +kernel
theorem dL_law_136 : decode cL_law 136 = .ok (.iaload, 1) := by decide +kernel
theorem dL_law_137 : decode cL_law 137 = .ok (.aload_n 3, 1) := by decide +kernel
theorem dL_law_138 : decode cL_law 138 = .ok (.invokestatic 68, 3) := by decide +kernel
theorem dL_law_141 : decode cL_law 141 = .ok (.istore 5, 2) := by decide +kernel
theorem dL_law_143 : decode cL_law 143 = .ok (.aload_n 2, 1) := by decide +kernel
theorem dL_law_144 : decode cL_law 144 = .ok (.aload_n 0, 1) := by decide +kernel
theorem dL_law_145 : decode cL_law 145 = .ok (.iload 4, 2) := by decide +kernel
theorem dL_law_147 : decode cL_law 147 = .ok (.iconst 1, 1) := by decide +kernel
theorem dL_law_148 : decode cL_law 148 = .ok (.iadd, 1) := by decide +kernel
theorem dL_law_149 : decode cL_law 149 = .ok (.iaload, 1) := by decide +kernel
theorem dL_law_150 : decode cL_law 150 = .ok (.aload_n 0, 1) := by decide +kernel
theorem dL_law_151 : decode cL_law 151 = .ok (.iload 4, 2) := by decide +kernel
theorem dL_law_153 : decode cL_law 153 = .ok (.iconst 2, 1) := by decide +kernel
theorem dL_law_154 : decode cL_law 154 = .ok (.iadd, 1) := by decide +kernel
theorem dL_law_155 : decode cL_law 155 = .ok (.iaload, 1) := by decide +kernel
theorem dL_law_156 : decode cL_law 156 = .ok (.invokevirtual 73, 3) := by decide +kernel
theorem dL_law_159 : decode cL_law 159 = .ok (.istore 6, 2) := by decide +kernel
theorem dL_law_161 : decode cL_law 161 = .ok (.aload_n 2, 1) := by decide +kernel
theorem dL_law_162 : decode cL_law 162 = .ok (.invokevirtual 74, 3) := by decide +kernel
theorem dL_law_165 : decode cL_law 165 = .ok (.iload 5, 2) := by decide +kernel
theorem dL_law_167 : decode cL_law 167 = .ok (.if_icmp .eq 5, 3) := by decide +kernel
theorem dL_law_170 : decode cL_law 170 = .ok (.iconst 0, 1) := by decide +kernel
theorem dL_law_171 : decode cL_law 171 = .ok (.ireturn, 1) := by decide +kernel
theorem dL_law_172 : decode cL_law 172 = .ok (.iload 5, 2) := by decide +kernel
theorem dL_law_174 : decode cL_law 174 = .ok (.ifCond .ne 15, 3) := by decide +kernel
theorem dL_law_177 : decode cL_law 177 = .ok (.aload_n 3, 1) := by decide +kernel
theorem dL_law_178 : decode cL_law 178 = .ok (.iconst 0, 1) := by decide +kernel
theorem dL_law_179 : decode cL_law 179 = .ok (.laload, 1) := by decide +kernel
theorem dL_law_180 : decode cL_law 180 = .ok (.iload 6, 2) := by decide +kernel
theorem dL_law_182 : decode cL_law 182 = .ok (.i2l, 1) := by decide +kernel
theorem dL_law_183 : decode cL_law 183 = .ok (.lcmp, 1) := by decide +kernel
theorem dL_law_184 : decode cL_law 184 = .ok (.ifCond .eq 5, 3) := by decide +kernel
theorem dL_law_187 : decode cL_law 187 = .ok (.iconst 0, 1) := by decide +kernel
theorem dL_law_188 : decode cL_law 188 = .ok (.ireturn, 1) := by decide +kernel
theorem dL_law_189 : decode cL_law 189 = .ok (.goto 1095, 3) := by decide +kernel
theorem dL_law_192 : decode cL_law 192 = .ok (.aload_n 1, 1) := by decide +kernel
theorem dL_law_193 : decode cL_law 193 = .ok (.aload_n 0, 1) := by decide +kernel
theorem dL_law_194 : decode cL_law 194 = .ok (.iload 4, 2) := by decide +kernel
theorem dL_law_196 : decode cL_law 196 = .ok (.iconst 1, 1) := by decide +kernel
theorem dL_law_197 : decode cL_law 197 = .ok (.iadd, 1) := by decide +kernel
theorem dL_law_198 : decode cL_law 198 = .ok (.iaload, 1) := by decide +kernel
theorem dL_law_199 : decode cL_law 199 = .ok (.aload_n 0, 1) := by decide +kernel
theorem dL_law_200 : decode cL_law 200 = .ok (.iload 4, 2) := by decide +kernel
theorem dL_law_202 : decode cL_law 202 = .ok (.iconst 2, 1) := by decide +kernel
theorem dL_law_203 : decode cL_law 203 = .ok (.iadd, 1) := by decide +kernel
theorem dL_law_204 : decode cL_law 204 = .ok (.iaload, 1) := by decide +kernel
theorem dL_law_205 : decode cL_law 205 = .ok (.aload_n 0, 1) := by decide +kernel
theorem dL_law_206 : decode cL_law 206 = .ok (.iload 4, 2) := by decide +kernel
theorem dL_law_208 : decode cL_law 208 = .ok (.iconst 3, 1) := by decide +kernel
theorem dL_law_209 : decode cL_law 209 = .ok (.iadd, 1) := by decide +kernel
theorem dL_law_210 : decode cL_law 210 = .ok (.iaload, 1) := by decide +kernel
theorem dL_law_211 : decode cL_law 211 = .ok (.aload_n 0, 1) := by decide +kernel
theorem dL_law_212 : decode cL_law 212 = .ok (.iload 4, 2) := by decide +kernel
theorem dL_law_214 : decode cL_law 214 = .ok (.iconst 4, 1) := by decide +kernel
theorem dL_law_215 : decode cL_law 215 = .ok (.iadd, 1) := by decide +kernel
theorem dL_law_216 : decode cL_law 216 = .ok (.iaload, 1) := by decide +kernel
theorem dL_law_217 : decode cL_law 217 = .ok (.aload_n 3, 1) := by decide +kernel
theorem dL_law_218 : decode cL_law 218 = .ok (.invokestatic 78, 3) := by decide +kernel
theorem dL_law_221 : decode cL_law 221 = .ok (.istore 5, 2) := by decide +kernel
theorem dL_law_223 : decode cL_law 223 = .ok (.aload_n 2, 1) := by decide +kernel
theorem dL_law_224 : decode cL_law 224 = .ok (.aload_n 0, 1) := by decide +kernel
theorem dL_law_225 : decode cL_law 225 = .ok (.iload 4, 2) := by decide +kernel
theorem dL_law_227 : decode cL_law 227 = .ok (.iconst 1, 1) := by decide +kernel
theorem dL_law_228 : decode cL_law 228 = .ok (.iadd, 1) := by decide +kernel
theorem dL_law_229 : decode cL_law 229 = .ok (.iaload, 1) := by decide +kernel
theorem dL_law_230 : decode cL_law 230 = .ok (.aload_n 0, 1) := by decide +kernel
theorem dL_law_231 : decode cL_law 231 = .ok (.iload 4, 2) := by decide +kernel
theorem dL_law_233 : decode cL_law 233 = .ok (.iconst 2, 1) := by decide +kernel
theorem dL_law_234 : decode cL_law 234 = .ok (.iadd, 1) := by decide +kernel
theorem dL_law_235 : decode cL_law 235 = .ok (.iaload, 1) := by decide +kernel
theorem dL_law_236 : decode cL_law 236 = .ok (.aload_n 0, 1) := by decide +kernel
theorem dL_law_237 : decode cL_law 237 = .ok (.iload 4, 2) := by decide +kernel
theorem dL_law_239 : decode cL_law 239 = .ok (.iconst 3, 1) := by decide +kernel
theorem dL_law_240 : decode cL_law 240 = .ok (.iadd, 1) := by decide +kernel
theorem dL_law_241 : decode cL_law 241 = .ok (.iaload, 1) := by decide +kernel
theorem dL_law_242 : decode cL_law 242 = .ok (.aload_n 0, 1) := by decide +kernel
theorem dL_law_243 : decode cL_law 243 = .ok (.iload 4, 2) := by decide +kernel
theorem dL_law_245 : decode cL_law 245 = .ok (.iconst 4, 1) := by decide +kernel
theorem dL_law_246 : decode cL_law 246 = .ok (.iadd, 1) := by decide +kernel
theorem dL_law_247 : decode cL_law 247 = .ok (.iaload, 1) := by decide +kernel
theorem dL_law_248 : decode cL_law 248 = .ok (.invokevirtual 81, 3) := by decide +kernel
theorem dL_law_251 : decode cL_law 251 = .ok (.istore 6, 2) := by decide +kernel
theorem dL_law_253 : decode cL_law 253 = .ok (.aload_n 2, 1) := by decide +kernel
theorem dL_law_254 : decode cL_law 254 = .ok (.invokevirtual 74, 3) := by decide +kernel
theorem dL_law_257 : decode cL_law 257 = .ok (.iload 5, 2) := by decide +kernel
theorem dL_law_259 : decode cL_law 259 = .ok (.if_icmp .eq 5, 3) := by decide +kernel
theorem dL_law_262 : decode cL_law 262 = .ok (.iconst 0, 1) := by decide +kernel
theorem dL_law_263 : decode cL_law 263 = .ok (.ireturn, 1) := by decide +kernel
theorem dL_law_264 : decode cL_law 264 = .ok (.iload 5, 2) := by decide +kernel
theorem dL_law_266 : decode cL_law 266 = .ok (.ifCond .ne 15, 3) := by decide +kernel
theorem dL_law_269 : decode cL_law 269 = .ok (.aload_n 3, 1) := by decide +kernel
theorem dL_law_270 : decode cL_law 270 = .ok (.iconst 0, 1) := by decide +kernel
theorem dL_law_271 : decode cL_law 271 = .ok (.laload, 1) := by decide +kernel
theorem dL_law_272 : decode cL_law 272 = .ok (.iload 6, 2) := by decide +kernel
theorem dL_law_274 : decode cL_law 274 = .ok (.i2l, 1) := by decide +kernel
theorem dL_law_275 : decode cL_law 275 = .ok (.lcmp, 1) := by decide +kernel
theorem dL_law_276 : decode cL_law 276 = .ok (.ifCond .eq 5, 3) := by decide +kernel
theorem dL_law_279 : decode cL_law 279 = .ok (.iconst 0, 1) := by decide +kernel
theorem dL_law_280 : decode cL_law 280 = .ok (.ireturn, 1) := by decide +kernel
theorem dL_law_281 : decode cL_law 281 = .ok (.goto 1003, 3) := by decide +kernel
theorem dL_law_284 : decode cL_law 284 = .ok (.aload_n 1, 1) := by decide +kernel
theorem dL_law_285 : decode cL_law 285 = .ok (.aload_n 0, 1) := by decide +kernel
theorem dL_law_286 : decode cL_law 286 = .ok (.iload 4, 2) := by decide +kernel
theorem dL_law_288 : decode cL_law 288 = .ok (.iconst 1, 1) := by decide +kernel
theorem dL_law_289 : decode cL_law 289 = .ok (.iadd, 1) := by decide +kernel
theorem dL_law_290 : decode cL_law 290 = .ok (.iaload, 1) := by decide +kernel
theorem dL_law_291 : decode cL_law 291 = .ok (.aload_n 0, 1) := by decide +kernel
theorem dL_law_292 : decode cL_law 292 = .ok (.iload 4, 2) := by decide +kernel
theorem dL_law_294 : decode cL_law 294 = .ok (.iconst 2, 1) := by decide +kernel
theorem dL_law_295 : decode cL_law 295 = .ok (.iadd, 1) := by decide +kernel
theorem dL_law_296 : decode cL_law 296 = .ok (.iaload, 1) := by decide +kernel
theorem dL_law_297 : decode cL_law 297 = .ok (.aload_n 3, 1) := by decide +kernel
theorem dL_law_298 : decode cL_law 298 = .ok (.invokestatic 82, 3) := by decide +kernel
theorem dL_law_301 : decode cL_law 301 = .ok (.istore 5, 2) := by decide +kernel
theorem dL_law_303 : decode cL_law 303 = .ok (.aload_n 2, 1) := by decide +kernel
theorem dL_law_304 : decode cL_law 304 = .ok (.aload_n 0, 1) := by decide +kernel
theorem dL_law_305 : decode cL_law 305 = .ok (.iload 4, 2) := by decide +kernel
theorem dL_law_307 : decode cL_law 307 = .ok (.iconst 1, 1) := by decide +kernel
theorem dL_law_308 : decode cL_law 308 = .ok (.iadd, 1) := by decide +kernel
theorem dL_law_309 : decode cL_law 309 = .ok (.iaload, 1) := by decide +kernel
theorem dL_law_310 : decode cL_law 310 = .ok (.aload_n 0, 1) := by decide +kernel
theorem dL_law_311 : decode cL_law 311 = .ok (.iload 4, 2) := by decide +kernel
theorem dL_law_313 : decode cL_law 313 = .ok (.iconst 2, 1) := by decide +kernel
theorem dL_law_314 : decode cL_law 314 = .ok (.iadd, 1) := by decide +kernel
theorem dL_law_315 : decode cL_law 315 = .ok (.iaload, 1) := by decide +kernel
theorem dL_law_316 : decode cL_law 316 = .ok (.invokevirtual 84, 3) := by decide +kernel
theorem dL_law_319 : decode cL_law 319 = .ok (.istore 6, 2) := by decide +kernel
theorem dL_law_321 : decode cL_law 321 = .ok (.aload_n 2, 1) := by decide +kernel
theorem dL_law_322 : decode cL_law 322 = .ok (.invokevirtual 74, 3) := by decide +kernel
theorem dL_law_325 : decode cL_law 325 = .ok (.iload 5, 2) := by decide +kernel
theorem dL_law_327 : decode cL_law 327 = .ok (.if_icmp .eq 5, 3) := by decide +kernel
theorem dL_law_330 : decode cL_law 330 = .ok (.iconst 0, 1) := by decide +kernel
theorem dL_law_331 : decode cL_law 331 = .ok (.ireturn, 1) := by decide +kernel
theorem dL_law_332 : decode cL_law 332 = .ok (.iload 5, 2) := by decide +kernel
theorem dL_law_334 : decode cL_law 334 = .ok (.ifCond .ne 15, 3) := by decide +kernel
theorem dL_law_337 : decode cL_law 337 = .ok (.aload_n 3, 1) := by decide +kernel
theorem dL_law_338 : decode cL_law 338 = .ok (.iconst 0, 1) := by decide +kernel
theorem dL_law_339 : decode cL_law 339 = .ok (.laload, 1) := by decide +kernel
theorem dL_law_340 : decode cL_law 340 = .ok (.iload 6, 2) := by decide +kernel
theorem dL_law_342 : decode cL_law 342 = .ok (.i2l, 1) := by decide +kernel
theorem dL_law_343 : decode cL_law 343 = .ok (.lcmp, 1) := by decide +kernel
theorem dL_law_344 : decode cL_law 344 = .ok (.ifCond .eq 5, 3) := by decide +kernel
theorem dL_law_347 : decode cL_law 347 = .ok (.iconst 0, 1) := by decide +kernel
theorem dL_law_348 : decode cL_law 348 = .ok (.ireturn, 1) := by decide +kernel
theorem dL_law_349 : decode cL_law 349 = .ok (.goto 935, 3) := by decide +kernel
theorem dL_law_352 : decode cL_law 352 = .ok (.aload_n 1, 1) := by decide +kernel
theorem dL_law_353 : decode cL_law 353 = .ok (.aload_n 0, 1) := by decide +kernel
theorem dL_law_354 : decode cL_law 354 = .ok (.iload 4, 2) := by decide +kernel
theorem dL_law_356 : decode cL_law 356 = .ok (.iconst 1, 1) := by decide +kernel
theorem dL_law_357 : decode cL_law 357 = .ok (.iadd, 1) := by decide +kernel
theorem dL_law_358 : decode cL_law 358 = .ok (.iaload, 1) := by decide +kernel
theorem dL_law_359 : decode cL_law 359 = .ok (.aload_n 0, 1) := by decide +kernel
theorem dL_law_360 : decode cL_law 360 = .ok (.iload 4, 2) := by decide +kernel
theorem dL_law_362 : decode cL_law 362 = .ok (.iconst 2, 1) := by decide +kernel
theorem dL_law_363 : decode cL_law 363 = .ok (.iadd, 1) := by decide +kernel
theorem dL_law_364 : decode cL_law 364 = .ok (.iaload, 1) := by decide +kernel
theorem dL_law_365 : decode cL_law 365 = .ok (.aload_n 0, 1) := by decide +kernel
theorem dL_law_366 : decode cL_law 366 = .ok (.iload 4, 2) := by decide +kernel
theorem dL_law_368 : decode cL_law 368 = .ok (.iconst 3, 1) := by decide +kernel
theorem dL_law_369 : decode cL_law 369 = .ok (.iadd, 1) := by decide +kernel
theorem dL_law_370 : decode cL_law 370 = .ok (.iaload, 1) := by decide +kernel
theorem dL_law_371 : decode cL_law 371 = .ok (.aload_n 0, 1) := by decide +kernel
theorem dL_law_372 : decode cL_law 372 = .ok (.iload 4, 2) := by decide +kernel
theorem dL_law_374 : decode cL_law 374 = .ok (.iconst 4, 1) := by decide +kernel
theorem dL_law_375 : decode cL_law 375 = .ok (.iadd, 1) := by decide +kernel
theorem dL_law_376 : decode cL_law 376 = .ok (.iaload, 1) := by decide +kernel
theorem dL_law_377 : decode cL_law 377 = .ok (.aload_n 3, 1) := by decide +kernel
theorem dL_law_378 : decode cL_law 378 = .ok (.invokestatic 85, 3) := by decide +kernel
theorem dL_law_381 : decode cL_law 381 = .ok (.istore 5, 2) := by decide +kernel
theorem dL_law_383 : decode cL_law 383 = .ok (.aload_n 2, 1) := by decide +kernel
theorem dL_law_384 : decode cL_law 384 = .ok (.aload_n 0, 1) := by decide +kernel
theorem dL_law_385 : decode cL_law 385 = .ok (.iload 4, 2) := by decide +kernel
theorem dL_law_387 : decode cL_law 387 = .ok (.iconst 1, 1) := by decide +kernel
theorem dL_law_388 : decode cL_law 388 = .ok (.iadd, 1) := by decide +kernel
theorem dL_law_389 : decode cL_law 389 = .ok (.iaload, 1) := by decide +kernel
theorem dL_law_390 : decode cL_law 390 = .ok (.aload_n 0, 1) := by decide +kernel
theorem dL_law_391 : decode cL_law 391 = .ok (.iload 4, 2) := by decide +kernel
theorem dL_law_393 : decode cL_law 393 = .ok (.iconst 2, 1) := by decide +kernel
theorem dL_law_394 : decode cL_law 394 = .ok (.iadd, 1) := by decide +kernel
theorem dL_law_395 : decode cL_law 395 = .ok (.iaload, 1) := by decide +kernel
theorem dL_law_396 : decode cL_law 396 = .ok (.aload_n 0, 1) := by decide +kernel
theorem dL_law_397 : decode cL_law 397 = .ok (.iload 4, 2) := by decide +kernel
theorem dL_law_399 : decode cL_law 399 = .ok (.iconst 3, 1) := by decide +kernel
theorem dL_law_400 : decode cL_law 400 = .ok (.iadd, 1) := by decide +kernel
theorem dL_law_401 : decode cL_law 401 = .ok (.iaload, 1) := by decide +kernel
theorem dL_law_402 : decode cL_law 402 = .ok (.aload_n 0, 1) := by decide +kernel
theorem dL_law_403 : decode cL_law 403 = .ok (.iload 4, 2) := by decide +kernel
theorem dL_law_405 : decode cL_law 405 = .ok (.iconst 4, 1) := by decide +kernel
theorem dL_law_406 : decode cL_law 406 = .ok (.iadd, 1) := by decide +kernel
theorem dL_law_407 : decode cL_law 407 = .ok (.iaload, 1) := by decide +kernel
theorem dL_law_408 : decode cL_law 408 = .ok (.invokevirtual 87, 3) := by decide +kernel
theorem dL_law_411 : decode cL_law 411 = .ok (.istore 6, 2) := by decide +kernel
theorem dL_law_413 : decode cL_law 413 = .ok (.aload_n 2, 1) := by decide +kernel
theorem dL_law_414 : decode cL_law 414 = .ok (.invokevirtual 74, 3) := by decide +kernel
theorem dL_law_417 : decode cL_law 417 = .ok (.iload 5, 2) := by decide +kernel
theorem dL_law_419 : decode cL_law 419 = .ok (.if_icmp .eq 5, 3) := by decide +kernel
theorem dL_law_422 : decode cL_law 422 = .ok (.iconst 0, 1) := by decide +kernel
theorem dL_law_423 : decode cL_law 423 = .ok (.ireturn, 1) := by decide +kernel
theorem dL_law_424 : decode cL_law 424 = .ok (.iload 5, 2) := by decide +kernel
theorem dL_law_426 : decode cL_law 426 = .ok (.ifCond .ne 15, 3) := by decide +kernel
theorem dL_law_429 : decode cL_law 429 = .ok (.aload_n 3, 1) := by decide +kernel
theorem dL_law_430 : decode cL_law 430 = .ok (.iconst 0, 1) := by decide +kernel
theorem dL_law_431 : decode cL_law 431 = .ok (.laload, 1) := by decide +kernel
theorem dL_law_432 : decode cL_law 432 = .ok (.iload 6, 2) := by decide +kernel
theorem dL_law_434 : decode cL_law 434 = .ok (.i2l, 1) := by decide +kernel
theorem dL_law_435 : decode cL_law 435 = .ok (.lcmp, 1) := by decide +kernel
theorem dL_law_436 : decode cL_law 436 = .ok (.ifCond .eq 5, 3) := by decide +kernel
theorem dL_law_439 : decode cL_law 439 = .ok (.iconst 0, 1) := by decide +kernel
theorem dL_law_440 : decode cL_law 440 = .ok (.ireturn, 1) := by decide +kernel
theorem dL_law_441 : decode cL_law 441 = .ok (.goto 843, 3) := by decide +kernel
theorem dL_law_444 : decode cL_law 444 = .ok (.aload_n 1, 1) := by decide +kernel
theorem dL_law_445 : decode cL_law 445 = .ok (.aload_n 0, 1) := by decide +kernel
theorem dL_law_446 : decode cL_law 446 = .ok (.iload 4, 2) := by decide +kernel
theorem dL_law_448 : decode cL_law 448 = .ok (.iconst 1, 1) := by decide +kernel
theorem dL_law_449 : decode cL_law 449 = .ok (.iadd, 1) := by decide +kernel
theorem dL_law_450 : decode cL_law 450 = .ok (.iaload, 1) := by decide +kernel
theorem dL_law_451 : decode cL_law 451 = .ok (.aload_n 3, 1) := by decide +kernel
theorem dL_law_452 : decode cL_law 452 = .ok (.invokestatic 88, 3) := by decide +kernel
theorem dL_law_455 : decode cL_law 455 = .ok (.istore 5, 2) := by decide +kernel
theorem dL_law_457 : decode cL_law 457 = .ok (.aload_n 2, 1) := by decide +kernel
theorem dL_law_458 : decode cL_law 458 = .ok (.aload_n 0, 1) := by decide +kernel
theorem dL_law_459 : decode cL_law 459 = .ok (.iload 4, 2) := by decide +kernel
theorem dL_law_461 : decode cL_law 461 = .ok (.iconst 1, 1) := by decide +kernel
theorem dL_law_462 : decode cL_law 462 = .ok (.iadd, 1) := by decide +kernel
theorem dL_law_463 : decode cL_law 463 = .ok (.iaload, 1) := by decide +kernel
theorem dL_law_464 : decode cL_law 464 = .ok (.invokevirtual 91, 3) := by decide +kernel
theorem dL_law_467 : decode cL_law 467 = .ok (.istore 6, 2) := by decide +kernel
theorem dL_law_469 : decode cL_law 469 = .ok (.aload_n 2, 1) := by decide +kernel
theorem dL_law_470 : decode cL_law 470 = .ok (.invokevirtual 74, 3) := by decide +kernel
theorem dL_law_473 : decode cL_law 473 = .ok (.iload 5, 2) := by decide +kernel
theorem dL_law_475 : decode cL_law 475 = .ok (.if_icmp .eq 5, 3) := by decide +kernel
theorem dL_law_478 : decode cL_law 478 = .ok (.iconst 0, 1) := by decide +kernel
theorem dL_law_479 : decode cL_law 479 = .ok (.ireturn, 1) := by decide +kernel
theorem dL_law_480 : decode cL_law 480 = .ok (.iload 5, 2) := by decide +kernel
theorem dL_law_482 : decode cL_law 482 = .ok (.ifCond .ne 15, 3) := by decide +kernel
theorem dL_law_485 : decode cL_law 485 = .ok (.aload_n 3, 1) := by decide +kernel
theorem dL_law_486 : decode cL_law 486 = .ok (.iconst 0, 1) := by decide +kernel
theorem dL_law_487 : decode cL_law 487 = .ok (.laload, 1) := by decide +kernel
theorem dL_law_488 : decode cL_law 488 = .ok (.iload 6, 2) := by decide +kernel
theorem dL_law_490 : decode cL_law 490 = .ok (.i2l, 1) := by decide +kernel
theorem dL_law_491 : decode cL_law 491 = .ok (.lcmp, 1) := by decide +kernel
theorem dL_law_492 : decode cL_law 492 = .ok (.ifCond .eq 5, 3) := by decide +kernel
theorem dL_law_495 : decode cL_law 495 = .ok (.iconst 0, 1) := by decide +kernel
theorem dL_law_496 : decode cL_law 496 = .ok (.ireturn, 1) := by decide +kernel
theorem dL_law_497 : decode cL_law 497 = .ok (.goto 787, 3) := by decide +kernel
theorem dL_law_500 : decode cL_law 500 = .ok (.aload_n 1, 1) := by decide +kernel
theorem dL_law_501 : decode cL_law 501 = .ok (.aload_n 0, 1) := by decide +kernel
theorem dL_law_502 : decode cL_law 502 = .ok (.iload 4, 2) := by decide +kernel
theorem dL_law_504 : decode cL_law 504 = .ok (.iconst 1, 1) := by decide +kernel
theorem dL_law_505 : decode cL_law 505 = .ok (.iadd, 1) := by decide +kernel
theorem dL_law_506 : decode cL_law 506 = .ok (.iaload, 1) := by decide +kernel
theorem dL_law_507 : decode cL_law 507 = .ok (.aload_n 3, 1) := by decide +kernel
theorem dL_law_508 : decode cL_law 508 = .ok (.invokestatic 92, 3) := by decide +kernel
theorem dL_law_511 : decode cL_law 511 = .ok (.istore 5, 2) := by decide +kernel
theorem dL_law_513 : decode cL_law 513 = .ok (.aload_n 2, 1) := by decide +kernel
theorem dL_law_514 : decode cL_law 514 = .ok (.aload_n 0, 1) := by decide +kernel
theorem dL_law_515 : decode cL_law 515 = .ok (.iload 4, 2) := by decide +kernel
theorem dL_law_517 : decode cL_law 517 = .ok (.iconst 1, 1) := by decide +kernel
theorem dL_law_518 : decode cL_law 518 = .ok (.iadd, 1) := by decide +kernel
theorem dL_law_519 : decode cL_law 519 = .ok (.iaload, 1) := by decide +kernel
theorem dL_law_520 : decode cL_law 520 = .ok (.invokevirtual 94, 3) := by decide +kernel
theorem dL_law_523 : decode cL_law 523 = .ok (.istore 6, 2) := by decide +kernel
theorem dL_law_525 : decode cL_law 525 = .ok (.aload_n 2, 1) := by decide +kernel
theorem dL_law_526 : decode cL_law 526 = .ok (.invokevirtual 74, 3) := by decide +kernel
theorem dL_law_529 : decode cL_law 529 = .ok (.iload 5, 2) := by decide +kernel
theorem dL_law_531 : decode cL_law 531 = .ok (.if_icmp .eq 5, 3) := by decide +kernel
theorem dL_law_534 : decode cL_law 534 = .ok (.iconst 0, 1) := by decide +kernel
theorem dL_law_535 : decode cL_law 535 = .ok (.ireturn, 1) := by decide +kernel
theorem dL_law_536 : decode cL_law 536 = .ok (.iload 5, 2) := by decide +kernel
theorem dL_law_538 : decode cL_law 538 = .ok (.ifCond .ne 15, 3) := by decide +kernel
theorem dL_law_541 : decode cL_law 541 = .ok (.aload_n 3, 1) := by decide +kernel
theorem dL_law_542 : decode cL_law 542 = .ok (.iconst 0, 1) := by decide +kernel
theorem dL_law_543 : decode cL_law 543 = .ok (.laload, 1) := by decide +kernel
theorem dL_law_544 : decode cL_law 544 = .ok (.iload 6, 2) := by decide +kernel
theorem dL_law_546 : decode cL_law 546 = .ok (.i2l, 1) := by decide +kernel
theorem dL_law_547 : decode cL_law 547 = .ok (.lcmp, 1) := by decide +kernel
theorem dL_law_548 : decode cL_law 548 = .ok (.ifCond .eq 5, 3) := by decide +kernel
theorem dL_law_551 : decode cL_law 551 = .ok (.iconst 0, 1) := by decide +kernel
theorem dL_law_552 : decode cL_law 552 = .ok (.ireturn, 1) := by decide +kernel
theorem dL_law_553 : decode cL_law 553 = .ok (.goto 731, 3) := by decide +kernel
theorem dL_law_556 : decode cL_law 556 = .ok (.aload_n 1, 1) := by decide +kernel
theorem dL_law_557 : decode cL_law 557 = .ok (.aload_n 0, 1) := by decide +kernel
theorem dL_law_558 : decode cL_law 558 = .ok (.iload 4, 2) := by decide +kernel
theorem dL_law_560 : decode cL_law 560 = .ok (.iconst 1, 1) := by decide +kernel
theorem dL_law_561 : decode cL_law 561 = .ok (.iadd, 1) := by decide +kernel
theorem dL_law_562 : decode cL_law 562 = .ok (.iaload, 1) := by decide +kernel
theorem dL_law_563 : decode cL_law 563 = .ok (.aload_n 0, 1) := by decide +kernel
theorem dL_law_564 : decode cL_law 564 = .ok (.iload 4, 2) := by decide +kernel
theorem dL_law_566 : decode cL_law 566 = .ok (.iconst 2, 1) := by decide +kernel
theorem dL_law_567 : decode cL_law 567 = .ok (.iadd, 1) := by decide +kernel
theorem dL_law_568 : decode cL_law 568 = .ok (.iaload, 1) := by decide +kernel
theorem dL_law_569 : decode cL_law 569 = .ok (.aload_n 0, 1) := by decide +kernel
theorem dL_law_570 : decode cL_law 570 = .ok (.iload 4, 2) := by decide +kernel
theorem dL_law_572 : decode cL_law 572 = .ok (.iconst 3, 1) := by decide +kernel
theorem dL_law_573 : decode cL_law 573 = .ok (.iadd, 1) := by decide +kernel
theorem dL_law_574 : decode cL_law 574 = .ok (.iaload, 1) := by decide +kernel
theorem dL_law_575 : decode cL_law 575 = .ok (.aload_n 3, 1) := by decide +kernel
theorem dL_law_576 : decode cL_law 576 = .ok (.invokestatic 95, 3) := by decide +kernel
theorem dL_law_579 : decode cL_law 579 = .ok (.istore 5, 2) := by decide +kernel
theorem dL_law_581 : decode cL_law 581 = .ok (.aload_n 2, 1) := by decide +kernel
theorem dL_law_582 : decode cL_law 582 = .ok (.aload_n 0, 1) := by decide +kernel
theorem dL_law_583 : decode cL_law 583 = .ok (.iload 4, 2) := by decide +kernel
theorem dL_law_585 : decode cL_law 585 = .ok (.iconst 1, 1) := by decide +kernel
theorem dL_law_586 : decode cL_law 586 = .ok (.iadd, 1) := by decide +kernel
theorem dL_law_587 : decode cL_law 587 = .ok (.iaload, 1) := by decide +kernel
theorem dL_law_588 : decode cL_law 588 = .ok (.aload_n 0, 1) := by decide +kernel
theorem dL_law_589 : decode cL_law 589 = .ok (.iload 4, 2) := by decide +kernel
theorem dL_law_591 : decode cL_law 591 = .ok (.iconst 2, 1) := by decide +kernel
theorem dL_law_592 : decode cL_law 592 = .ok (.iadd, 1) := by decide +kernel
theorem dL_law_593 : decode cL_law 593 = .ok (.iaload, 1) := by decide +kernel
theorem dL_law_594 : decode cL_law 594 = .ok (.aload_n 0, 1) := by decide +kernel
theorem dL_law_595 : decode cL_law 595 = .ok (.iload 4, 2) := by decide +kernel
theorem dL_law_597 : decode cL_law 597 = .ok (.iconst 3, 1) := by decide +kernel
theorem dL_law_598 : decode cL_law 598 = .ok (.iadd, 1) := by decide +kernel
theorem dL_law_599 : decode cL_law 599 = .ok (.iaload, 1) := by decide +kernel
theorem dL_law_600 : decode cL_law 600 = .ok (.invokevirtual 98, 3) := by decide +kernel
theorem dL_law_603 : decode cL_law 603 = .ok (.istore 6, 2) := by decide +kernel
theorem dL_law_605 : decode cL_law 605 = .ok (.aload_n 2, 1) := by decide +kernel
theorem dL_law_606 : decode cL_law 606 = .ok (.invokevirtual 74, 3) := by decide +kernel
theorem dL_law_609 : decode cL_law 609 = .ok (.iload 5, 2) := by decide +kernel
theorem dL_law_611 : decode cL_law 611 = .ok (.if_icmp .eq 5, 3) := by decide +kernel
theorem dL_law_614 : decode cL_law 614 = .ok (.iconst 0, 1) := by decide +kernel
theorem dL_law_615 : decode cL_law 615 = .ok (.ireturn, 1) := by decide +kernel
theorem dL_law_616 : decode cL_law 616 = .ok (.iload 5, 2) := by decide +kernel
theorem dL_law_618 : decode cL_law 618 = .ok (.ifCond .ne 15, 3) := by decide +kernel
theorem dL_law_621 : decode cL_law 621 = .ok (.aload_n 3, 1) := by decide +kernel
theorem dL_law_622 : decode cL_law 622 = .ok (.iconst 0, 1) := by decide +kernel
theorem dL_law_623 : decode cL_law 623 = .ok (.laload, 1) := by decide +kernel
theorem dL_law_624 : decode cL_law 624 = .ok (.iload 6, 2) := by decide +kernel
theorem dL_law_626 : decode cL_law 626 = .ok (.i2l, 1) := by decide +kernel
theorem dL_law_627 : decode cL_law 627 = .ok (.lcmp, 1) := by decide +kernel
theorem dL_law_628 : decode cL_law 628 = .ok (.ifCond .eq 5, 3) := by decide +kernel
theorem dL_law_631 : decode cL_law 631 = .ok (.iconst 0, 1) := by decide +kernel
theorem dL_law_632 : decode cL_law 632 = .ok (.ireturn, 1) := by decide +kernel
theorem dL_law_633 : decode cL_law 633 = .ok (.goto 651, 3) := by decide +kernel
theorem dL_law_636 : decode cL_law 636 = .ok (.aload_n 1, 1) := by decide +kernel
theorem dL_law_637 : decode cL_law 637 = .ok (.invokevirtual 99, 3) := by decide +kernel
theorem dL_law_640 : decode cL_law 640 = .ok (.aload_n 2, 1) := by decide +kernel
theorem dL_law_641 : decode cL_law 641 = .ok (.invokevirtual 102, 3) := by decide +kernel
theorem dL_law_644 : decode cL_law 644 = .ok (.if_icmp .eq 640, 3) := by decide +kernel
theorem dL_law_647 : decode cL_law 647 = .ok (.iconst 0, 1) := by decide +kernel
theorem dL_law_648 : decode cL_law 648 = .ok (.ireturn, 1) := by decide +kernel
theorem dL_law_649 : decode cL_law 649 = .ok (.aload_n 1, 1) := by decide +kernel
theorem dL_law_650 : decode cL_law 650 = .ok (.aload_n 0, 1) := by decide +kernel
theorem dL_law_651 : decode cL_law 651 = .ok (.iload 4, 2) := by decide +kernel
theorem dL_law_653 : decode cL_law 653 = .ok (.iconst 1, 1) := by decide +kernel
theorem dL_law_654 : decode cL_law 654 = .ok (.iadd, 1) := by decide +kernel
theorem dL_law_655 : decode cL_law 655 = .ok (.iaload, 1) := by decide +kernel
theorem dL_law_656 : decode cL_law 656 = .ok (.aload_n 0, 1) := by decide +kernel
theorem dL_law_657 : decode cL_law 657 = .ok (.iload 4, 2) := by decide +kernel
theorem dL_law_659 : decode cL_law 659 = .ok (.iconst 2, 1) := by decide +kernel
theorem dL_law_660 : decode cL_law 660 = .ok (.iadd, 1) := by decide +kernel
theorem dL_law_661 : decode cL_law 661 = .ok (.iaload, 1) := by decide +kernel
theorem dL_law_662 : decode cL_law 662 = .ok (.aload_n 3, 1) := by decide +kernel
theorem dL_law_663 : decode cL_law 663 = .ok (.invokestatic 103, 3) := by decide +kernel
theorem dL_law_666 : decode cL_law 666 = .ok (.istore 5, 2) := by decide +kernel
theorem dL_law_668 : decode cL_law 668 = .ok (.aload_n 2, 1) := by decide +kernel
theorem dL_law_669 : decode cL_law 669 = .ok (.aload_n 0, 1) := by decide +kernel
theorem dL_law_670 : decode cL_law 670 = .ok (.iload 4, 2) := by decide +kernel
theorem dL_law_672 : decode cL_law 672 = .ok (.iconst 1, 1) := by decide +kernel
theorem dL_law_673 : decode cL_law 673 = .ok (.iadd, 1) := by decide +kernel
theorem dL_law_674 : decode cL_law 674 = .ok (.iaload, 1) := by decide +kernel
theorem dL_law_675 : decode cL_law 675 = .ok (.aload_n 0, 1) := by decide +kernel
theorem dL_law_676 : decode cL_law 676 = .ok (.iload 4, 2) := by decide +kernel
theorem dL_law_678 : decode cL_law 678 = .ok (.iconst 2, 1) := by decide +kernel
theorem dL_law_679 : decode cL_law 679 = .ok (.iadd, 1) := by decide +kernel
theorem dL_law_680 : decode cL_law 680 = .ok (.iaload, 1) := by decide +kernel
theorem dL_law_681 : decode cL_law 681 = .ok (.invokevirtual 105, 3) := by decide +kernel
theorem dL_law_684 : decode cL_law 684 = .ok (.istore 6, 2) := by decide +kernel
theorem dL_law_686 : decode cL_law 686 = .ok (.aload_n 2, 1) := by decide +kernel
theorem dL_law_687 : decode cL_law 687 = .ok (.invokevirtual 74, 3) := by decide +kernel
theorem dL_law_690 : decode cL_law 690 = .ok (.iload 5, 2) := by decide +kernel
theorem dL_law_692 : decode cL_law 692 = .ok (.if_icmp .eq 5, 3) := by decide +kernel
theorem dL_law_695 : decode cL_law 695 = .ok (.iconst 0, 1) := by decide +kernel
theorem dL_law_696 : decode cL_law 696 = .ok (.ireturn, 1) := by decide +kernel
theorem dL_law_697 : decode cL_law 697 = .ok (.iload 5, 2) := by decide +kernel
theorem dL_law_699 : decode cL_law 699 = .ok (.ifCond .ne 15, 3) := by decide +kernel
theorem dL_law_702 : decode cL_law 702 = .ok (.aload_n 3, 1) := by decide +kernel
theorem dL_law_703 : decode cL_law 703 = .ok (.iconst 0, 1) := by decide +kernel
theorem dL_law_704 : decode cL_law 704 = .ok (.laload, 1) := by decide +kernel
theorem dL_law_705 : decode cL_law 705 = .ok (.iload 6, 2) := by decide +kernel
theorem dL_law_707 : decode cL_law 707 = .ok (.i2l, 1) := by decide +kernel
theorem dL_law_708 : decode cL_law 708 = .ok (.lcmp, 1) := by decide +kernel
theorem dL_law_709 : decode cL_law 709 = .ok (.ifCond .eq 5, 3) := by decide +kernel
theorem dL_law_712 : decode cL_law 712 = .ok (.iconst 0, 1) := by decide +kernel
theorem dL_law_713 : decode cL_law 713 = .ok (.ireturn, 1) := by decide +kernel
theorem dL_law_714 : decode cL_law 714 = .ok (.goto 570, 3) := by decide +kernel
theorem dL_law_717 : decode cL_law 717 = .ok (.aload_n 1, 1) := by decide +kernel
theorem dL_law_718 : decode cL_law 718 = .ok (.aload_n 0, 1) := by decide +kernel
theorem dL_law_719 : decode cL_law 719 = .ok (.iload 4, 2) := by decide +kernel
theorem dL_law_721 : decode cL_law 721 = .ok (.iconst 1, 1) := by decide +kernel
theorem dL_law_722 : decode cL_law 722 = .ok (.iadd, 1) := by decide +kernel
theorem dL_law_723 : decode cL_law 723 = .ok (.iaload, 1) := by decide +kernel
theorem dL_law_724 : decode cL_law 724 = .ok (.aload_n 0, 1) := by decide +kernel
theorem dL_law_725 : decode cL_law 725 = .ok (.iload 4, 2) := by decide +kernel
theorem dL_law_727 : decode cL_law 727 = .ok (.iconst 2, 1) := by decide +kernel
theorem dL_law_728 : decode cL_law 728 = .ok (.iadd, 1) := by decide +kernel
theorem dL_law_729 : decode cL_law 729 = .ok (.iaload, 1) := by decide +kernel
theorem dL_law_730 : decode cL_law 730 = .ok (.aload_n 0, 1) := by decide +kernel
theorem dL_law_731 : decode cL_law 731 = .ok (.iload 4, 2) := by decide +kernel
theorem dL_law_733 : decode cL_law 733 = .ok (.iconst 3, 1) := by decide +kernel
theorem dL_law_734 : decode cL_law 734 = .ok (.iadd, 1) := by decide +kernel
theorem dL_law_735 : decode cL_law 735 = .ok (.iaload, 1) := by decide +kernel
theorem dL_law_736 : decode cL_law 736 = .ok (.aload_n 3, 1) := by decide +kernel
theorem dL_law_737 : decode cL_law 737 = .ok (.invokestatic 106, 3) := by decide +kernel
theorem dL_law_740 : decode cL_law 740 = .ok (.istore 5, 2) := by decide +kernel
theorem dL_law_742 : decode cL_law 742 = .ok (.aload_n 2, 1) := by decide +kernel
theorem dL_law_743 : decode cL_law 743 = .ok (.aload_n 0, 1) := by decide +kernel
theorem dL_law_744 : decode cL_law 744 = .ok (.iload 4, 2) := by decide +kernel
theorem dL_law_746 : decode cL_law 746 = .ok (.iconst 1, 1) := by decide +kernel
theorem dL_law_747 : decode cL_law 747 = .ok (.iadd, 1) := by decide +kernel
theorem dL_law_748 : decode cL_law 748 = .ok (.iaload, 1) := by decide +kernel
theorem dL_law_749 : decode cL_law 749 = .ok (.aload_n 0, 1) := by decide +kernel
theorem dL_law_750 : decode cL_law 750 = .ok (.iload 4, 2) := by decide +kernel
theorem dL_law_752 : decode cL_law 752 = .ok (.iconst 2, 1) := by decide +kernel
theorem dL_law_753 : decode cL_law 753 = .ok (.iadd, 1) := by decide +kernel
theorem dL_law_754 : decode cL_law 754 = .ok (.iaload, 1) := by decide +kernel
theorem dL_law_755 : decode cL_law 755 = .ok (.aload_n 0, 1) := by decide +kernel
theorem dL_law_756 : decode cL_law 756 = .ok (.iload 4, 2) := by decide +kernel
theorem dL_law_758 : decode cL_law 758 = .ok (.iconst 3, 1) := by decide +kernel
theorem dL_law_759 : decode cL_law 759 = .ok (.iadd, 1) := by decide +kernel
theorem dL_law_760 : decode cL_law 760 = .ok (.iaload, 1) := by decide +kernel
theorem dL_law_761 : decode cL_law 761 = .ok (.invokevirtual 108, 3) := by decide +kernel
theorem dL_law_764 : decode cL_law 764 = .ok (.istore 6, 2) := by decide +kernel
theorem dL_law_766 : decode cL_law 766 = .ok (.aload_n 2, 1) := by decide +kernel
theorem dL_law_767 : decode cL_law 767 = .ok (.invokevirtual 74, 3) := by decide +kernel
theorem dL_law_770 : decode cL_law 770 = .ok (.iload 5, 2) := by decide +kernel
theorem dL_law_772 : decode cL_law 772 = .ok (.if_icmp .eq 5, 3) := by decide +kernel
theorem dL_law_775 : decode cL_law 775 = .ok (.iconst 0, 1) := by decide +kernel
theorem dL_law_776 : decode cL_law 776 = .ok (.ireturn, 1) := by decide +kernel
theorem dL_law_777 : decode cL_law 777 = .ok (.iload 5, 2) := by decide +kernel
theorem dL_law_779 : decode cL_law 779 = .ok (.ifCond .ne 15, 3) := by decide +kernel
theorem dL_law_782 : decode cL_law 782 = .ok (.aload_n 3, 1) := by decide +kernel
theorem dL_law_783 : decode cL_law 783 = .ok (.iconst 0, 1) := by decide +kernel
theorem dL_law_784 : decode cL_law 784 = .ok (.laload, 1) := by decide +kernel
theorem dL_law_785 : decode cL_law 785 = .ok (.iload 6, 2) := by decide +kernel
theorem dL_law_787 : decode cL_law 787 = .ok (.i2l, 1) := by decide +kernel
theorem dL_law_788 : decode cL_law 788 = .ok (.lcmp, 1) := by decide +kernel
theorem dL_law_789 : decode cL_law 789 = .ok (.ifCond .eq 5, 3) := by decide +kernel
theorem dL_law_792 : decode cL_law 792 = .ok (.iconst 0, 1) := by decide +kernel
theorem dL_law_793 : decode cL_law 793 = .ok (.ireturn, 1) := by decide +kernel
theorem dL_law_794 : decode cL_law 794 = .ok (.goto 490, 3) := by decide +kernel
theorem dL_law_797 : decode cL_law 797 = .ok (.aload_n 1, 1) := by decide +kernel
theorem dL_law_798 : decode cL_law 798 = .ok (.aload_n 0, 1) := by decide +kernel
theorem dL_law_799 : decode cL_law 799 = .ok (.iload 4, 2) := by decide +kernel
theorem dL_law_801 : decode cL_law 801 = .ok (.iconst 1, 1) := by decide +kernel
theorem dL_law_802 : decode cL_law 802 = .ok (.iadd, 1) := by decide +kernel
theorem dL_law_803 : decode cL_law 803 = .ok (.iaload, 1) := by decide +kernel
theorem dL_law_804 : decode cL_law 804 = .ok (.aload_n 0, 1) := by decide +kernel
theorem dL_law_805 : decode cL_law 805 = .ok (.iload 4, 2) := by decide +kernel
theorem dL_law_807 : decode cL_law 807 = .ok (.iconst 2, 1) := by decide +kernel
theorem dL_law_808 : decode cL_law 808 = .ok (.iadd, 1) := by decide +kernel
theorem dL_law_809 : decode cL_law 809 = .ok (.iaload, 1) := by decide +kernel
theorem dL_law_810 : decode cL_law 810 = .ok (.aload_n 3, 1) := by decide +kernel
theorem dL_law_811 : decode cL_law 811 = .ok (.invokestatic 109, 3) := by decide +kernel
theorem dL_law_814 : decode cL_law 814 = .ok (.istore 5, 2) := by decide +kernel
theorem dL_law_816 : decode cL_law 816 = .ok (.aload_n 2, 1) := by decide +kernel
theorem dL_law_817 : decode cL_law 817 = .ok (.aload_n 0, 1) := by decide +kernel
theorem dL_law_818 : decode cL_law 818 = .ok (.iload 4, 2) := by decide +kernel
theorem dL_law_820 : decode cL_law 820 = .ok (.iconst 1, 1) := by decide +kernel
theorem dL_law_821 : decode cL_law 821 = .ok (.iadd, 1) := by decide +kernel
theorem dL_law_822 : decode cL_law 822 = .ok (.iaload, 1) := by decide +kernel
theorem dL_law_823 : decode cL_law 823 = .ok (.aload_n 0, 1) := by decide +kernel
theorem dL_law_824 : decode cL_law 824 = .ok (.iload 4, 2) := by decide +kernel
theorem dL_law_826 : decode cL_law 826 = .ok (.iconst 2, 1) := by decide +kernel
theorem dL_law_827 : decode cL_law 827 = .ok (.iadd, 1) := by decide +kernel
theorem dL_law_828 : decode cL_law 828 = .ok (.iaload, 1) := by decide +kernel
theorem dL_law_829 : decode cL_law 829 = .ok (.invokevirtual 111, 3) := by decide +kernel
theorem dL_law_832 : decode cL_law 832 = .ok (.istore 6, 2) := by decide +kernel
theorem dL_law_834 : decode cL_law 834 = .ok (.aload_n 2, 1) := by decide +kernel
theorem dL_law_835 : decode cL_law 835 = .ok (.invokevirtual 74, 3) := by decide +kernel
theorem dL_law_838 : decode cL_law 838 = .ok (.iload 5, 2) := by decide +kernel
theorem dL_law_840 : decode cL_law 840 = .ok (.if_icmp .eq 5, 3) := by decide +kernel
theorem dL_law_843 : decode cL_law 843 = .ok (.iconst 0, 1) := by decide +kernel
theorem dL_law_844 : decode cL_law 844 = .ok (.ireturn, 1) := by decide +kernel
theorem dL_law_845 : decode cL_law 845 = .ok (.iload 5, 2) := by decide +kernel
theorem dL_law_847 : decode cL_law 847 = .ok (.ifCond .ne 15, 3) := by decide +kernel
theorem dL_law_850 : decode cL_law 850 = .ok (.aload_n 3, 1) := by decide +kernel
theorem dL_law_851 : decode cL_law 851 = .ok (.iconst 0, 1) := by decide +kernel
theorem dL_law_852 : decode cL_law 852 = .ok (.laload, 1) := by decide +kernel
theorem dL_law_853 : decode cL_law 853 = .ok (.iload 6, 2) := by decide +kernel
theorem dL_law_855 : decode cL_law 855 = .ok (.i2l, 1) := by decide +kernel
theorem dL_law_856 : decode cL_law 856 = .ok (.lcmp, 1) := by decide +kernel
theorem dL_law_857 : decode cL_law 857 = .ok (.ifCond .eq 5, 3) := by decide +kernel
theorem dL_law_860 : decode cL_law 860 = .ok (.iconst 0, 1) := by decide +kernel
theorem dL_law_861 : decode cL_law 861 = .ok (.ireturn, 1) := by decide +kernel
theorem dL_law_862 : decode cL_law 862 = .ok (.goto 422, 3) := by decide +kernel
theorem dL_law_865 : decode cL_law 865 = .ok (.aload_n 1, 1) := by decide +kernel
theorem dL_law_866 : decode cL_law 866 = .ok (.aload_n 0, 1) := by decide +kernel
theorem dL_law_867 : decode cL_law 867 = .ok (.iload 4, 2) := by decide +kernel
theorem dL_law_869 : decode cL_law 869 = .ok (.iconst 1, 1) := by decide +kernel
theorem dL_law_870 : decode cL_law 870 = .ok (.iadd, 1) := by decide +kernel
theorem dL_law_871 : decode cL_law 871 = .ok (.iaload, 1) := by decide +kernel
theorem dL_law_872 : decode cL_law 872 = .ok (.aload_n 0, 1) := by decide +kernel
theorem dL_law_873 : decode cL_law 873 = .ok (.iload 4, 2) := by decide +kernel
theorem dL_law_875 : decode cL_law 875 = .ok (.iconst 2, 1) := by decide +kernel
theorem dL_law_876 : decode cL_law 876 = .ok (.iadd, 1) := by decide +kernel
theorem dL_law_877 : decode cL_law 877 = .ok (.iaload, 1) := by decide +kernel
theorem dL_law_878 : decode cL_law 878 = .ok (.aload_n 3, 1) := by decide +kernel
theorem dL_law_879 : decode cL_law 879 = .ok (.invokestatic 112, 3) := by decide +kernel
theorem dL_law_882 : decode cL_law 882 = .ok (.istore 5, 2) := by decide +kernel
theorem dL_law_884 : decode cL_law 884 = .ok (.aload_n 2, 1) := by decide +kernel
theorem dL_law_885 : decode cL_law 885 = .ok (.aload_n 0, 1) := by decide +kernel
theorem dL_law_886 : decode cL_law 886 = .ok (.iload 4, 2) := by decide +kernel
theorem dL_law_888 : decode cL_law 888 = .ok (.iconst 1, 1) := by decide +kernel
theorem dL_law_889 : decode cL_law 889 = .ok (.iadd, 1) := by decide +kernel
theorem dL_law_890 : decode cL_law 890 = .ok (.iaload, 1) := by decide +kernel
theorem dL_law_891 : decode cL_law 891 = .ok (.aload_n 0, 1) := by decide +kernel
theorem dL_law_892 : decode cL_law 892 = .ok (.iload 4, 2) := by decide +kernel
theorem dL_law_894 : decode cL_law 894 = .ok (.iconst 2, 1) := by decide +kernel
theorem dL_law_895 : decode cL_law 895 = .ok (.iadd, 1) := by decide +kernel
theorem dL_law_896 : decode cL_law 896 = .ok (.iaload, 1) := by decide +kernel
theorem dL_law_897 : decode cL_law 897 = .ok (.invokevirtual 114, 3) := by decide +kernel
theorem dL_law_900 : decode cL_law 900 = .ok (.istore 6, 2) := by decide +kernel
theorem dL_law_902 : decode cL_law 902 = .ok (.aload_n 2, 1) := by decide +kernel
theorem dL_law_903 : decode cL_law 903 = .ok (.invokevirtual 74, 3) := by decide +kernel
theorem dL_law_906 : decode cL_law 906 = .ok (.iload 5, 2) := by decide +kernel
theorem dL_law_908 : decode cL_law 908 = .ok (.if_icmp .eq 5, 3) := by decide +kernel
theorem dL_law_911 : decode cL_law 911 = .ok (.iconst 0, 1) := by decide +kernel
theorem dL_law_912 : decode cL_law 912 = .ok (.ireturn, 1) := by decide +kernel
theorem dL_law_913 : decode cL_law 913 = .ok (.iload 5, 2) := by decide +kernel
theorem dL_law_915 : decode cL_law 915 = .ok (.ifCond .ne 15, 3) := by decide +kernel
theorem dL_law_918 : decode cL_law 918 = .ok (.aload_n 3, 1) := by decide +kernel
theorem dL_law_919 : decode cL_law 919 = .ok (.iconst 0, 1) := by decide +kernel
theorem dL_law_920 : decode cL_law 920 = .ok (.laload, 1) := by decide +kernel
theorem dL_law_921 : decode cL_law 921 = .ok (.iload 6, 2) := by decide +kernel
theorem dL_law_923 : decode cL_law 923 = .ok (.i2l, 1) := by decide +kernel
theorem dL_law_924 : decode cL_law 924 = .ok (.lcmp, 1) := by decide +kernel
theorem dL_law_925 : decode cL_law 925 = .ok (.ifCond .eq 5, 3) := by decide +kernel
theorem dL_law_928 : decode cL_law 928 = .ok (.iconst 0, 1) := by decide +kernel
theorem dL_law_929 : decode cL_law 929 = .ok (.ireturn, 1) := by decide +kernel
theorem dL_law_930 : decode cL_law 930 = .ok (.goto 354, 3) := by decide +kernel
theorem dL_law_933 : decode cL_law 933 = .ok (.aload_n 1, 1) := by decide +kernel
theorem dL_law_934 : decode cL_law 934 = .ok (.aload_n 0, 1) := by decide +kernel
theorem dL_law_935 : decode cL_law 935 = .ok (.iload 4, 2) := by decide +kernel
theorem dL_law_937 : decode cL_law 937 = .ok (.iconst 1, 1) := by decide +kernel
theorem dL_law_938 : decode cL_law 938 = .ok (.iadd, 1) := by decide +kernel
theorem dL_law_939 : decode cL_law 939 = .ok (.iaload, 1) := by decide +kernel
theorem dL_law_940 : decode cL_law 940 = .ok (.aload_n 3, 1) := by decide +kernel
theorem dL_law_941 : decode cL_law 941 = .ok (.invokestatic 115, 3) := by decide +kernel
theorem dL_law_944 : decode cL_law 944 = .ok (.istore 5, 2) := by decide +kernel
theorem dL_law_946 : decode cL_law 946 = .ok (.aload_n 2, 1) := by decide +kernel
theorem dL_law_947 : decode cL_law 947 = .ok (.aload_n 0, 1) := by decide +kernel
theorem dL_law_948 : decode cL_law 948 = .ok (.iload 4, 2) := by decide +kernel
theorem dL_law_950 : decode cL_law 950 = .ok (.iconst 1, 1) := by decide +kernel
theorem dL_law_951 : decode cL_law 951 = .ok (.iadd, 1) := by decide +kernel
theorem dL_law_952 : decode cL_law 952 = .ok (.iaload, 1) := by decide +kernel
theorem dL_law_953 : decode cL_law 953 = .ok (.invokevirtual 117, 3) := by decide +kernel
theorem dL_law_956 : decode cL_law 956 = .ok (.istore 6, 2) := by decide +kernel
theorem dL_law_958 : decode cL_law 958 = .ok (.aload_n 2, 1) := by decide +kernel
theorem dL_law_959 : decode cL_law 959 = .ok (.invokevirtual 74, 3) := by decide +kernel
theorem dL_law_962 : decode cL_law 962 = .ok (.iload 5, 2) := by decide +kernel
theorem dL_law_964 : decode cL_law 964 = .ok (.if_icmp .eq 5, 3) := by decide +kernel
theorem dL_law_967 : decode cL_law 967 = .ok (.iconst 0, 1) := by decide +kernel
theorem dL_law_968 : decode cL_law 968 = .ok (.ireturn, 1) := by decide +kernel
theorem dL_law_969 : decode cL_law 969 = .ok (.iload 5, 2) := by decide +kernel
theorem dL_law_971 : decode cL_law 971 = .ok (.ifCond .ne 15, 3) := by decide +kernel
theorem dL_law_974 : decode cL_law 974 = .ok (.aload_n 3, 1) := by decide +kernel
theorem dL_law_975 : decode cL_law 975 = .ok (.iconst 0, 1) := by decide +kernel
theorem dL_law_976 : decode cL_law 976 = .ok (.laload, 1) := by decide +kernel
theorem dL_law_977 : decode cL_law 977 = .ok (.iload 6, 2) := by decide +kernel
theorem dL_law_979 : decode cL_law 979 = .ok (.i2l, 1) := by decide +kernel
theorem dL_law_980 : decode cL_law 980 = .ok (.lcmp, 1) := by decide +kernel
theorem dL_law_981 : decode cL_law 981 = .ok (.ifCond .eq 5, 3) := by decide +kernel
theorem dL_law_984 : decode cL_law 984 = .ok (.iconst 0, 1) := by decide +kernel
theorem dL_law_985 : decode cL_law 985 = .ok (.ireturn, 1) := by decide +kernel
theorem dL_law_986 : decode cL_law 986 = .ok (.goto 298, 3) := by decide +kernel
theorem dL_law_989 : decode cL_law 989 = .ok (.aload_n 1, 1) := by decide +kernel
theorem dL_law_990 : decode cL_law 990 = .ok (.aload_n 0, 1) := by decide +kernel
theorem dL_law_991 : decode cL_law 991 = .ok (.iload 4, 2) := by decide +kernel
theorem dL_law_993 : decode cL_law 993 = .ok (.iconst 1, 1) := by decide +kernel
theorem dL_law_994 : decode cL_law 994 = .ok (.iadd, 1) := by decide +kernel
theorem dL_law_995 : decode cL_law 995 = .ok (.iaload, 1) := by decide +kernel
theorem dL_law_996 : decode cL_law 996 = .ok (.aload_n 0, 1) := by decide +kernel
theorem dL_law_997 : decode cL_law 997 = .ok (.iload 4, 2) := by decide +kernel
theorem dL_law_999 : decode cL_law 999 = .ok (.iconst 2, 1) := by decide +kernel
theorem dL_law_1000 : decode cL_law 1000 = .ok (.iadd, 1) := by decide +kernel
theorem dL_law_1001 : decode cL_law 1001 = .ok (.iaload, 1) := by decide +kernel
theorem dL_law_1002 : decode cL_law 1002 = .ok (.aload_n 0, 1) := by decide +kernel
theorem dL_law_1003 : decode cL_law 1003 = .ok (.iload 4, 2) := by decide +kernel
theorem dL_law_1005 : decode cL_law 1005 = .ok (.iconst 3, 1) := by decide +kernel
theorem dL_law_1006 : decode cL_law 1006 = .ok (.iadd, 1) := by decide +kernel
theorem dL_law_1007 : decode cL_law 1007 = .ok (.iaload, 1) := by decide +kernel
theorem dL_law_1008 : decode cL_law 1008 = .ok (.aload_n 0, 1) := by decide +kernel
theorem dL_law_1009 : decode cL_law 1009 = .ok (.iload 4, 2) := by decide +kernel
theorem dL_law_1011 : decode cL_law 1011 = .ok (.iconst 4, 1) := by decide +kernel
theorem dL_law_1012 : decode cL_law 1012 = .ok (.iadd, 1) := by decide +kernel
theorem dL_law_1013 : decode cL_law 1013 = .ok (.iaload, 1) := by decide +kernel
theorem dL_law_1014 : decode cL_law 1014 = .ok (.aload_n 3, 1) := by decide +kernel
theorem dL_law_1015 : decode cL_law 1015 = .ok (.invokestatic 118, 3) := by decide +kernel
theorem dL_law_1018 : decode cL_law 1018 = .ok (.istore 5, 2) := by decide +kernel
theorem dL_law_1020 : decode cL_law 1020 = .ok (.aload_n 2, 1) := by decide +kernel
theorem dL_law_1021 : decode cL_law 1021 = .ok (.aload_n 0, 1) := by decide +kernel
theorem dL_law_1022 : decode cL_law 1022 = .ok (.iload 4, 2) := by decide +kernel
theorem dL_law_1024 : decode cL_law 1024 = .ok (.iconst 1, 1) := by decide +kernel
theorem dL_law_1025 : decode cL_law 1025 = .ok (.iadd, 1) := by decide +kernel
theorem dL_law_1026 : decode cL_law 1026 = .ok (.iaload, 1) := by decide +kernel
theorem dL_law_1027 : decode cL_law 1027 = .ok (.aload_n 0, 1) := by decide +kernel
theorem dL_law_1028 : decode cL_law 1028 = .ok (.iload 4, 2) := by decide +kernel
theorem dL_law_1030 : decode cL_law 1030 = .ok (.iconst 2, 1) := by decide +kernel
theorem dL_law_1031 : decode cL_law 1031 = .ok (.iadd, 1) := by decide +kernel
theorem dL_law_1032 : decode cL_law 1032 = .ok (.iaload, 1) := by decide +kernel
theorem dL_law_1033 : decode cL_law 1033 = .ok (.aload_n 0, 1) := by decide +kernel
theorem dL_law_1034 : decode cL_law 1034 = .ok (.iload 4, 2) := by decide +kernel
theorem dL_law_1036 : decode cL_law 1036 = .ok (.iconst 3, 1) := by decide +kernel
theorem dL_law_1037 : decode cL_law 1037 = .ok (.iadd, 1) := by decide +kernel
theorem dL_law_1038 : decode cL_law 1038 = .ok (.iaload, 1) := by decide +kernel
theorem dL_law_1039 : decode cL_law 1039 = .ok (.aload_n 0, 1) := by decide +kernel
theorem dL_law_1040 : decode cL_law 1040 = .ok (.iload 4, 2) := by decide +kernel
theorem dL_law_1042 : decode cL_law 1042 = .ok (.iconst 4, 1) := by decide +kernel
theorem dL_law_1043 : decode cL_law 1043 = .ok (.iadd, 1) := by decide +kernel
theorem dL_law_1044 : decode cL_law 1044 = .ok (.iaload, 1) := by decide +kernel
theorem dL_law_1045 : decode cL_law 1045 = .ok (.invokevirtual 120, 3) := by decide +kernel
theorem dL_law_1048 : decode cL_law 1048 = .ok (.istore 6, 2) := by decide +kernel
theorem dL_law_1050 : decode cL_law 1050 = .ok (.aload_n 2, 1) := by decide +kernel
theorem dL_law_1051 : decode cL_law 1051 = .ok (.invokevirtual 74, 3) := by decide +kernel
theorem dL_law_1054 : decode cL_law 1054 = .ok (.iload 5, 2) := by decide +kernel
theorem dL_law_1056 : decode cL_law 1056 = .ok (.if_icmp .eq 5, 3) := by decide +kernel
theorem dL_law_1059 : decode cL_law 1059 = .ok (.iconst 0, 1) := by decide +kernel
theorem dL_law_1060 : decode cL_law 1060 = .ok (.ireturn, 1) := by decide +kernel
theorem dL_law_1061 : decode cL_law 1061 = .ok (.iload 5, 2) := by decide +kernel
theorem dL_law_1063 : decode cL_law 1063 = .ok (.ifCond .ne 15, 3) := by decide +kernel
theorem dL_law_1066 : decode cL_law 1066 = .ok (.aload_n 3, 1) := by decide +kernel
theorem dL_law_1067 : decode cL_law 1067 = .ok (.iconst 0, 1) := by decide +kernel
theorem dL_law_1068 : decode cL_law 1068 = .ok (.laload, 1) := by decide +kernel
theorem dL_law_1069 : decode cL_law 1069 = .ok (.iload 6, 2) := by decide +kernel
theorem dL_law_1071 : decode cL_law 1071 = .ok (.i2l, 1) := by decide +kernel
theorem dL_law_1072 : decode cL_law 1072 = .ok (.lcmp, 1) := by decide +kernel
theorem dL_law_1073 : decode cL_law 1073 = .ok (.ifCond .eq 5, 3) := by decide +kernel
theorem dL_law_1076 : decode cL_law 1076 = .ok (.iconst 0, 1) := by decide +kernel
theorem dL_law_1077 : decode cL_law 1077 = .ok (.ireturn, 1) := by decide +kernel
theorem dL_law_1078 : decode cL_law 1078 = .ok (.goto 206, 3) := by decide +kernel
theorem dL_law_1081 : decode cL_law 1081 = .ok (.aload_n 1, 1) := by decide +kernel
theorem dL_law_1082 : decode cL_law 1082 = .ok (.aload_n 0, 1) := by decide +kernel
theorem dL_law_1083 : decode cL_law 1083 = .ok (.iload 4, 2) := by decide +kernel
theorem dL_law_1085 : decode cL_law 1085 = .ok (.iconst 1, 1) := by decide +kernel
theorem dL_law_1086 : decode cL_law 1086 = .ok (.iadd, 1) := by decide +kernel
theorem dL_law_1087 : decode cL_law 1087 = .ok (.iaload, 1) := by decide +kernel
theorem dL_law_1088 : decode cL_law 1088 = .ok (.aload_n 0, 1) := by decide +kernel
theorem dL_law_1089 : decode cL_law 1089 = .ok (.iload 4, 2) := by decide +kernel
theorem dL_law_1091 : decode cL_law 1091 = .ok (.iconst 2, 1) := by decide +kernel
theorem dL_law_1092 : decode cL_law 1092 = .ok (.iadd, 1) := by decide +kernel
theorem dL_law_1093 : decode cL_law 1093 = .ok (.iaload, 1) := by decide +kernel
theorem dL_law_1094 : decode cL_law 1094 = .ok (.aload_n 0, 1) := by decide +kernel
theorem dL_law_1095 : decode cL_law 1095 = .ok (.iload 4, 2) := by decide +kernel
theorem dL_law_1097 : decode cL_law 1097 = .ok (.iconst 3, 1) := by decide +kernel
theorem dL_law_1098 : decode cL_law 1098 = .ok (.iadd, 1) := by decide +kernel
theorem dL_law_1099 : decode cL_law 1099 = .ok (.iaload, 1) := by decide +kernel
theorem dL_law_1100 : decode cL_law 1100 = .ok (.aload_n 3, 1) := by decide +kernel
theorem dL_law_1101 : decode cL_law 1101 = .ok (.invokestatic 121, 3) := by decide +kernel
theorem dL_law_1104 : decode cL_law 1104 = .ok (.istore 5, 2) := by decide +kernel
theorem dL_law_1106 : decode cL_law 1106 = .ok (.aload_n 2, 1) := by decide +kernel
theorem dL_law_1107 : decode cL_law 1107 = .ok (.aload_n 0, 1) := by decide +kernel
theorem dL_law_1108 : decode cL_law 1108 = .ok (.iload 4, 2) := by decide +kernel
theorem dL_law_1110 : decode cL_law 1110 = .ok (.iconst 1, 1) := by decide +kernel
theorem dL_law_1111 : decode cL_law 1111 = .ok (.iadd, 1) := by decide +kernel
theorem dL_law_1112 : decode cL_law 1112 = .ok (.iaload, 1) := by decide +kernel
theorem dL_law_1113 : decode cL_law 1113 = .ok (.aload_n 0, 1) := by decide +kernel
theorem dL_law_1114 : decode cL_law 1114 = .ok (.iload 4, 2) := by decide +kernel
theorem dL_law_1116 : decode cL_law 1116 = .ok (.iconst 2, 1) := by decide +kernel
theorem dL_law_1117 : decode cL_law 1117 = .ok (.iadd, 1) := by decide +kernel
theorem dL_law_1118 : decode cL_law 1118 = .ok (.iaload, 1) := by decide +kernel
theorem dL_law_1119 : decode cL_law 1119 = .ok (.aload_n 0, 1) := by decide +kernel
theorem dL_law_1120 : decode cL_law 1120 = .ok (.iload 4, 2) := by decide +kernel
theorem dL_law_1122 : decode cL_law 1122 = .ok (.iconst 3, 1) := by decide +kernel
theorem dL_law_1123 : decode cL_law 1123 = .ok (.iadd, 1) := by decide +kernel
theorem dL_law_1124 : decode cL_law 1124 = .ok (.iaload, 1) := by decide +kernel
theorem dL_law_1125 : decode cL_law 1125 = .ok (.invokevirtual 123, 3) := by decide +kernel
theorem dL_law_1128 : decode cL_law 1128 = .ok (.istore 6, 2) := by decide +kernel
theorem dL_law_1130 : decode cL_law 1130 = .ok (.aload_n 2, 1) := by decide +kernel
theorem dL_law_1131 : decode cL_law 1131 = .ok (.invokevirtual 74, 3) := by decide +kernel
theorem dL_law_1134 : decode cL_law 1134 = .ok (.iload 5, 2) := by decide +kernel
theorem dL_law_1136 : decode cL_law 1136 = .ok (.if_icmp .eq 5, 3) := by decide +kernel
theorem dL_law_1139 : decode cL_law 1139 = .ok (.iconst 0, 1) := by decide +kernel
theorem dL_law_1140 : decode cL_law 1140 = .ok (.ireturn, 1) := by decide +kernel
theorem dL_law_1141 : decode cL_law 1141 = .ok (.iload 5, 2) := by decide +kernel
theorem dL_law_1143 : decode cL_law 1143 = .ok (.ifCond .ne 15, 3) := by decide +kernel
theorem dL_law_1146 : decode cL_law 1146 = .ok (.aload_n 3, 1) := by decide +kernel
theorem dL_law_1147 : decode cL_law 1147 = .ok (.iconst 0, 1) := by decide +kernel
theorem dL_law_1148 : decode cL_law 1148 = .ok (.laload, 1) := by decide +kernel
theorem dL_law_1149 : decode cL_law 1149 = .ok (.iload 6, 2) := by decide +kernel
theorem dL_law_1151 : decode cL_law 1151 = .ok (.i2l, 1) := by decide +kernel
theorem dL_law_1152 : decode cL_law 1152 = .ok (.lcmp, 1) := by decide +kernel
theorem dL_law_1153 : decode cL_law 1153 = .ok (.ifCond .eq 5, 3) := by decide +kernel
theorem dL_law_1156 : decode cL_law 1156 = .ok (.iconst 0, 1) := by decide +kernel
theorem dL_law_1157 : decode cL_law 1157 = .ok (.ireturn, 1) := by decide +kernel
theorem dL_law_1158 : decode cL_law 1158 = .ok (.goto 126, 3) := by decide +kernel
theorem dL_law_1161 : decode cL_law 1161 = .ok (.aload_n 1, 1) := by decide +kernel
theorem dL_law_1162 : decode cL_law 1162 = .ok (.aload_n 0, 1) := by decide +kernel
theorem dL_law_1163 : decode cL_law 1163 = .ok (.iload 4, 2) := by decide +kernel
theorem dL_law_1165 : decode cL_law 1165 = .ok (.iconst 1, 1) := by decide +kernel
theorem dL_law_1166 : decode cL_law 1166 = .ok (.iadd, 1) := by decide +kernel
theorem dL_law_1167 : decode cL_law 1167 = .ok (.iaload, 1) := by decide +kernel
theorem dL_law_1168 : decode cL_law 1168 = .ok (.aload_n 0, 1) := by decide +kernel
theorem dL_law_1169 : decode cL_law 1169 = .ok (.iload 4, 2) := by decide +kernel
theorem dL_law_1171 : decode cL_law 1171 = .ok (.iconst 2, 1) := by decide +kernel
theorem dL_law_1172 : decode cL_law 1172 = .ok (.iadd, 1) := by decide +kernel
theorem dL_law_1173 : decode cL_law 1173 = .ok (.iaload, 1) := by decide +kernel
theorem dL_law_1174 : decode cL_law 1174 = .ok (.aload_n 3, 1) := by decide +kernel
theorem dL_law_1175 : decode cL_law 1175 = .ok (.invokestatic 124, 3) := by decide +kernel
theorem dL_law_1178 : decode cL_law 1178 = .ok (.istore 5, 2) := by decide +kernel
theorem dL_law_1180 : decode cL_law 1180 = .ok (.aload_n 2, 1) := by decide +kernel
theorem dL_law_1181 : decode cL_law 1181 = .ok (.aload_n 0, 1) := by decide +kernel
theorem dL_law_1182 : decode cL_law 1182 = .ok (.iload 4, 2) := by decide +kernel
theorem dL_law_1184 : decode cL_law 1184 = .ok (.iconst 1, 1) := by decide +kernel
theorem dL_law_1185 : decode cL_law 1185 = .ok (.iadd, 1) := by decide +kernel
theorem dL_law_1186 : decode cL_law 1186 = .ok (.iaload, 1) := by decide +kernel
theorem dL_law_1187 : decode cL_law 1187 = .ok (.aload_n 0, 1) := by decide +kernel
theorem dL_law_1188 : decode cL_law 1188 = .ok (.iload 4, 2) := by decide +kernel
theorem dL_law_1190 : decode cL_law 1190 = .ok (.iconst 2, 1) := by decide +kernel
theorem dL_law_1191 : decode cL_law 1191 = .ok (.iadd, 1) := by decide +kernel
theorem dL_law_1192 : decode cL_law 1192 = .ok (.iaload, 1) := by decide +kernel
theorem dL_law_1193 : decode cL_law 1193 = .ok (.invokevirtual 126, 3) := by decide +kernel
theorem dL_law_1196 : decode cL_law 1196 = .ok (.istore 6, 2) := by decide +kernel
theorem dL_law_1198 : decode cL_law 1198 = .ok (.aload_n 2, 1) := by decide +kernel
theorem dL_law_1199 : decode cL_law 1199 = .ok (.invokevirtual 74, 3) := by decide +kernel
theorem dL_law_1202 : decode cL_law 1202 = .ok (.iload 5, 2) := by decide +kernel
theorem dL_law_1204 : decode cL_law 1204 = .ok (.if_icmp .eq 5, 3) := by decide +kernel
theorem dL_law_1207 : decode cL_law 1207 = .ok (.iconst 0, 1) := by decide +kernel
theorem dL_law_1208 : decode cL_law 1208 = .ok (.ireturn, 1) := by decide +kernel
theorem dL_law_1209 : decode cL_law 1209 = .ok (.iload 5, 2) := by decide +kernel
theorem dL_law_1211 : decode cL_law 1211 = .ok (.ifCond .ne 15, 3) := by decide +kernel
theorem dL_law_1214 : decode cL_law 1214 = .ok (.aload_n 3, 1) := by decide +kernel
theorem dL_law_1215 : decode cL_law 1215 = .ok (.iconst 0, 1) := by decide +kernel
theorem dL_law_1216 : decode cL_law 1216 = .ok (.laload, 1) := by decide +kernel
theorem dL_law_1217 : decode cL_law 1217 = .ok (.iload 6, 2) := by decide +kernel
theorem dL_law_1219 : decode cL_law 1219 = .ok (.i2l, 1) := by decide +kernel
theorem dL_law_1220 : decode cL_law 1220 = .ok (.lcmp, 1) := by decide +kernel
theorem dL_law_1221 : decode cL_law 1221 = .ok (.ifCond .eq 5, 3) := by decide +kernel
theorem dL_law_1224 : decode cL_law 1224 = .ok (.iconst 0, 1) := by decide +kernel
theorem dL_law_1225 : decode cL_law 1225 = .ok (.ireturn, 1) := by decide +kernel
theorem dL_law_1226 : decode cL_law 1226 = .ok (.goto 58, 3) := by decide +kernel
theorem dL_law_1229 : decode cL_law 1229 = .ok (.aload_n 1, 1) := by decide +kernel
theorem dL_law_1230 : decode cL_law 1230 = .ok (.invokevirtual 127, 3) := by decide +kernel
theorem dL_law_1233 : decode cL_law 1233 = .ok (.dstore 5, 2) := by decide +kernel
theorem dL_law_1235 : decode cL_law 1235 = .ok (.aload_n 2, 1) := by decide +kernel
theorem dL_law_1236 : decode cL_law 1236 = .ok (.invokevirtual 131, 3) := by decide +kernel
theorem dL_law_1239 : decode cL_law 1239 = .ok (.dstore 7, 2) := by decide +kernel
theorem dL_law_1241 : decode cL_law 1241 = .ok (.dload 5, 2) := by decide +kernel
theorem dL_law_1243 : decode cL_law 1243 = .ok (.dload 7, 2) := by decide +kernel
theorem dL_law_1245 : decode cL_law 1245 = .ok (.dcmp .l, 1) := by decide +kernel
theorem dL_law_1246 : decode cL_law 1246 = .ok (.ifCond .eq 21, 3) := by decide +kernel
theorem dL_law_1249 : decode cL_law 1249 = .ok (.dload 5, 2) := by decide +kernel
theorem dL_law_1251 : decode cL_law 1251 = .ok (.dload 5, 2) := by decide +kernel
theorem dL_law_1253 : decode cL_law 1253 = .ok (.dcmp .l, 1) := by decide +kernel
theorem dL_law_1254 : decode cL_law 1254 = .ok (.ifCond .eq 11, 3) := by decide +kernel
theorem dL_law_1257 : decode cL_law 1257 = .ok (.dload 7, 2) := by decide +kernel
theorem dL_law_1259 : decode cL_law 1259 = .ok (.dload 7, 2) := by decide +kernel
theorem dL_law_1261 : decode cL_law 1261 = .ok (.dcmp .l, 1) := by decide +kernel
theorem dL_law_1262 : decode cL_law 1262 = .ok (.ifCond .ne 5, 3) := by decide +kernel
theorem dL_law_1265 : decode cL_law 1265 = .ok (.iconst 0, 1) := by decide +kernel
theorem dL_law_1266 : decode cL_law 1266 = .ok (.ireturn, 1) := by decide +kernel
theorem dL_law_1267 : decode cL_law 1267 = .ok (.goto 17, 3) := by decide +kernel
theorem dL_law_1270 : decode cL_law 1270 = .ok (.aload_n 1, 1) := by decide +kernel
theorem dL_law_1271 : decode cL_law 1271 = .ok (.invokevirtual 132, 3) := by decide +kernel
theorem dL_law_1274 : decode cL_law 1274 = .ok (.aload_n 2, 1) := by decide +kernel
theorem dL_law_1275 : decode cL_law 1275 = .ok (.invokevirtual 136, 3) := by decide +kernel
theorem dL_law_1278 : decode cL_law 1278 = .ok (.lcmp, 1) := by decide +kernel
theorem dL_law_1279 : decode cL_law 1279 = .ok (.ifCond .eq 5, 3) := by decide +kernel
theorem dL_law_1282 : decode cL_law 1282 = .ok (.iconst 0, 1) := by decide +kernel
theorem dL_law_1283 : decode cL_law 1283 = .ok (.ireturn, 1) := by decide +kernel
theorem dL_law_1284 : decode cL_law 1284 = .ok (.iinc 4 5, 3) := by decide +kernel
theorem dL_law_1287 : decode cL_law 1287 = .ok (.goto (-1264), 3) := by decide +kernel
theorem dL_law_1290 : decode cL_law 1290 = .ok (.iconst 1, 1) := by decide +kernel
theorem dL_law_1291 : decode cL_law 1291 = .ok (.ireturn, 1) := by decide +kernel
