theorem dX10_word_6 : decode cX10_word 6 = .ok (.sipush 999, 3) := by decide +kernel
theorem dX10_word_9 : decode cX10_word 9 = .ok (.if_icmp .le 13, 3) := by decide +kernel
theorem dX10_word_12 : decode cX10_word 12 = .ok (.new 89, 3) := by decide +kernel
theorem dX10_word_15 : decode cX10_word 15 = .ok (.dup, 1) := by decide +kernel
theorem dX10_word_16 : decode cX10_word 16 = .ok (.ldc 108, 2) := by decide +kernel
theorem dX10_word_18 : decode cX10_word 18 = .ok (.invokespecial 93, 3) := by decide +kernel
theorem dX10_word_21 : decode cX10_word 21 = .ok (.athrow, 1) := by decide +kernel
theorem dX10_word_22 : decode cX10_word 22 = .ok (.aload_n 0, 1) := by decide +kernel
theorem dX10_word_23 : decode cX10_word 23 = .ok (.getfield 12, 3) := by decide +kernel
theorem dX10_word_26 : decode cX10_word 26 = .ok (.getfield 96, 3) := by decide +kernel
theorem dX10_word_29 : decode cX10_word 29 = .ok (.ifCond .ne 13, 3) := by decide +kernel
theorem dX10_word_32 : decode cX10_word 32 = .ok (.new 99, 3) := by decide +kernel
theorem dX10_word_35 : decode cX10_word 35 = .ok (.dup, 1) := by decide +kernel
theorem dX10_word_36 : decode cX10_word 36 = .ok (.ldc 110, 2) := by decide +kernel
theorem dX10_word_38 : decode cX10_word 38 = .ok (.invokespecial 103, 3) := by decide +kernel
theorem dX10_word_41 : decode cX10_word 41 = .ok (.athrow, 1) := by decide +kernel
theorem dX10_word_42 : decode cX10_word 42 = .ok (.aload_n 0, 1) := by decide +kernel
theorem dX10_word_43 : decode cX10_word 43 = .ok (.getfield 12, 3) := by decide +kernel
theorem dX10_word_46 : decode cX10_word 46 = .ok (.getfield 112, 3) := by decide +kernel
theorem dX10_word_49 : decode cX10_word 49 = .ok (.bipush 20, 2) := by decide +kernel
theorem dX10_word_51 : decode cX10_word 51 = .ok (.if_icmp .lt 13, 3) := by decide +kernel
theorem dX10_word_54 : decode cX10_word 54 = .ok (.new 99, 3) := by decide +kernel
theorem dX10_word_57 : decode cX10_word 57 = .ok (.dup, 1) := by decide +kernel
theorem dX10_word_58 : decode cX10_word 58 = .ok (.ldc 115, 2) := by decide +kernel
theorem dX10_word_60 : decode cX10_word 60 = .ok (.invokespecial 103, 3) := by decide +kernel
theorem dX10_word_63 : decode cX10_word 63 = .ok (.athrow, 1) := by decide +kernel
theorem dX10_word_64 : decode cX10_word 64 = .ok (.aload_n 0, 1) := by decide +kernel
theorem dX10_word_65 : decode cX10_word 65 = .ok (.getfield 19, 3) := by decide +kernel
theorem dX10_word_68 : decode cX10_word 68 = .ok (.aload_n 0, 1) := by decide +kernel
theorem dX10_word_69 : decode cX10_word 69 = .ok (.getfield 12, 3) := by decide +kernel
theorem dX10_word_72 : decode cX10_word 72 = .ok (.getfield 117, 3) := by decide +kernel
theorem dX10_word_75 : decode cX10_word 75 = .ok (.aload_n 0, 1) := by decide +kernel
theorem dX10_word_76 : decode cX10_word 76 = .ok (.getfield 12, 3) := by decide +kernel
theorem dX10_word_79 : decode cX10_word 79 = .ok (.getfield 96, 3) := by decide +kernel
theorem dX10_word_82 : decode cX10_word 82 = .ok (.invokevirtual 121, 3) := by decide +kernel
theorem dX10_word_85 : decode cX10_word 85 = .ok (.iconst 0, 1) := by decide +kernel
theorem dX10_word_86 : decode cX10_word 86 = .ok (.istore_n 2, 1) := by decide +kernel
theorem dX10_word_87 : decode cX10_word 87 = .ok (.iload_n 2, 1) := by decide +kernel
theorem dX10_word_88 : decode cX10_word 88 = .ok (.iconst 3, 1) := by decide +kernel
theorem dX10_word_89 : decode cX10_word 89 = .ok (.if_icmp .ge 32, 3) := by decide +kernel
theorem dX10_word_92 : decode cX10_word 92 = .ok (.aload_n 0, 1) := by decide +kernel
theorem dX10_word_93 : decode cX10_word 93 = .ok (.getfield 23, 3) := by decide +kernel
theorem dX10_word_96 : decode cX10_word 96 = .ok (.iload_n 2, 1) := by decide +kernel
theorem dX10_word_97 : decode cX10_word 97 = .ok (.aaload, 1) := by decide +kernel
theorem dX10_word_98 : decode cX10_word 98 = .ok (.aload_n 0, 1) := by decide +kernel
theorem dX10_word_99 : decode cX10_word 99 = .ok (.getfield 12, 3) := by decide +kernel
theorem dX10_word_102 : decode cX10_word 102 = .ok (.getfield 117, 3) := by decide +kernel
theorem dX10_word_105 : decode cX10_word 105 = .ok (.aload_n 0, 1) := by decide +kernel
theorem dX10_word_106 : decode cX10_word 106 = .ok (.getfield 12, 3) := by decide +kernel
theorem dX10_word_109 : decode cX10_word 109 = .ok (.getfield 96, 3) := by decide +kernel
theorem dX10_word_112 : decode cX10_word 112 = .ok (.invokevirtual 121, 3) := by decide +kernel
theorem dX10_word_115 : decode cX10_word 115 = .ok (.iinc 2 1, 3) := by decide +kernel
theorem dX10_word_118 : decode cX10_word 118 = .ok (.goto (-31), 3) := by decide +kernel
theorem dX10_word_121 : decode cX10_word 121 = .ok (.aload_n 0, 1) := by decide +kernel
theorem dX10_word_122 : decode cX10_word 122 = .ok (.getfield 12, 3) := by decide +kernel
theorem dX10_word_125 : decode cX10_word 125 = .ok (.iload_n 1, 1) := by decide +kernel
theorem dX10_word_126 : decode cX10_word 126 = .ok (.invokevirtual 125, 3) := by decide +kernel
theorem dX10_word_129 : decode cX10_word 129 = .ok (.ireturn, 1) := by decide +kernel
theorem dX10_change_0 : decode cX10_change 0 = .ok (.aload_n 0, 1) := by decide +kernel
theorem dX10_change_1 : decode cX10_change 1 = .ok (.iload_n 1, 1) := by decide +kernel
theorem dX10_change_2 : decode cX10_change 2 = .ok (.invokevirtual 128, 3) := by decide +kernel
theorem dX10_change_5 : decode cX10_change 5 = .ok (.iload_n 2, 1) := by decide +kernel
theorem dX10_change_6 : decode cX10_change 6 = .ok (.ifCond .lt 8, 3) := by decide +kernel
theorem dX10_change_9 : decode cX10_change 9 = .ok (.iload_n 2, 1) := by decide +kernel
theorem dX10_change_10 : decode cX10_change 10 = .ok (.iconst 3, 1) := by decide +kernel
theorem dX10_change_11 : decode cX10_change 11 = .ok (.if_icmp .le 13, 3) := by decide +kernel
theorem dX10_change_14 : decode cX10_change 14 = .ok (.new 132, 3) := by decide +kernel
theorem dX10_change_17 : decode cX10_change 17 = .ok (.dup, 1) := by decide +kernel
theorem dX10_change_18 : decode cX10_change 18 = .ok (.ldc 134, 2) := by decide +kernel
theorem dX10_change_20 : decode cX10_change 20 = .ok (.invokespecial 136, 3) := by decide +kernel
theorem dX10_change_23 : decode cX10_change 23 = .ok (.athrow, 1) := by decide +kernel
theorem dX10_change_24 : decode cX10_change 24 = .ok (.iload_n 2, 1) := by decide +kernel
theorem dX10_change_25 : decode cX10_change 25 = .ok (.invokestatic 137, 3) := by decide +kernel
theorem dX10_change_28 : decode cX10_change 28 = .ok (.istore 6, 2) := by decide +kernel
theorem dX10_change_30 : decode cX10_change 30 = .ok (.iload_n 3, 1) := by decide +kernel
theorem dX10_change_31 : decode cX10_change 31 = .ok (.ifCond .lt 21, 3) := by decide +kernel
theorem dX10_change_34 : decode cX10_change 34 = .ok (.iload_n 3, 1) := by decide +kernel
theorem dX10_change_35 : decode cX10_change 35 = .ok (.iload 6, 2) := by decide +kernel
theorem dX10_change_37 : decode cX10_change 37 = .ok (.if_icmp .ge 15, 3) := by decide +kernel
theorem dX10_change_40 : decode cX10_change 40 = .ok (.iload 4, 2) := by decide +kernel
theorem dX10_change_42 : decode cX10_change 42 = .ok (.ifCond .lt 10, 3) := by decide +kernel
theorem dX10_change_45 : decode cX10_change 45 = .ok (.iload 4, 2) := by decide +kernel
theorem dX10_change_47 : decode cX10_change 47 = .ok (.iload 6, 2) := by decide +kernel
theorem dX10_change_49 : decode cX10_change 49 = .ok (.if_icmp .lt 13, 3) := by decide +kernel
theorem dX10_change_52 : decode cX10_change 52 = .ok (.new 89, 3) := by decide +kernel
theorem dX10_change_55 : decode cX10_change 55 = .ok (.dup, 1) := by decide +kernel
theorem dX10_change_56 : decode cX10_change 56 = .ok (.ldc 140, 2) := by decide +kernel
theorem dX10_change_58 : decode cX10_change 58 = .ok (.invokespecial 93, 3) := by decide +kernel
theorem dX10_change_61 : decode cX10_change 61 = .ok (.athrow, 1) := by decide +kernel
theorem dX10_change_62 : decode cX10_change 62 = .ok (.aload_n 0, 1) := by decide +kernel
theorem dX10_change_63 : decode cX10_change 63 = .ok (.getfield 23, 3) := by decide +kernel
theorem dX10_change_66 : decode cX10_change 66 = .ok (.iload_n 1, 1) := by decide +kernel
theorem dX10_change_67 : decode cX10_change 67 = .ok (.aaload, 1) := by decide +kernel
theorem dX10_change_68 : decode cX10_change 68 = .ok (.getfield 142, 3) := by decide +kernel
theorem dX10_change_71 : decode cX10_change 71 = .ok (.bipush 6, 2) := by decide +kernel
theorem dX10_change_73 : decode cX10_change 73 = .ok (.if_icmp .lt 13, 3) := by decide +kernel
theorem dX10_change_76 : decode cX10_change 76 = .ok (.new 99, 3) := by decide +kernel
theorem dX10_change_79 : decode cX10_change 79 = .ok (.dup, 1) := by decide +kernel
theorem dX10_change_80 : decode cX10_change 80 = .ok (.ldc 145, 2) := by decide +kernel
theorem dX10_change_82 : decode cX10_change 82 = .ok (.invokespecial 103, 3) := by decide +kernel
theorem dX10_change_85 : decode cX10_change 85 = .ok (.athrow, 1) := by decide +kernel
theorem dX10_change_86 : decode cX10_change 86 = .ok (.aload_n 0, 1) := by decide +kernel
theorem dX10_change_87 : decode cX10_change 87 = .ok (.getfield 23, 3) := by decide +kernel
theorem dX10_change_90 : decode cX10_change 90 = .ok (.iload_n 1, 1) := by decide +kernel
theorem dX10_change_91 : decode cX10_change 91 = .ok (.aaload, 1) := by decide +kernel
theorem dX10_change_92 : decode cX10_change 92 = .ok (.iload_n 2, 1) := by decide +kernel
theorem dX10_change_93 : decode cX10_change 93 = .ok (.iload_n 3, 1) := by decide +kernel
theorem dX10_change_94 : decode cX10_change 94 = .ok (.iload 4, 2) := by decide +kernel
theorem dX10_change_96 : decode cX10_change 96 = .ok (.iload 5, 2) := by decide +kernel
theorem dX10_change_98 : decode cX10_change 98 = .ok (.invokevirtual 147, 3) := by decide +kernel
theorem dX10_change_101 : decode cX10_change 101 = .ok (.ireturn, 1) := by decide +kernel
theorem dX10_spoken_0 : decode cX10_spoken 0 = .ok (.iload_n 1, 1) := by decide +kernel
theorem dX10_spoken_1 : decode cX10_spoken 1 = .ok (.iconst (-1), 1) := by decide +kernel
theorem dX10_spoken_2 : decode cX10_spoken 2 = .ok (.if_icmp .eq 8, 3) := by decide +kernel
theorem dX10_spoken_5 : decode cX10_spoken 5 = .ok (.aload_n 0, 1) := by decide +kernel
theorem dX10_spoken_6 : decode cX10_spoken 6 = .ok (.iload_n 1, 1) := by decide +kernel
theorem dX10_spoken_7 : decode cX10_spoken 7 = .ok (.invokevirtual 128, 3) := by decide +kernel
theorem dX10_spoken_10 : decode cX10_spoken 10 = .ok (.aload_n 0, 1) := by decide +kernel
theorem dX10_spoken_11 : decode cX10_spoken 11 = .ok (.iload_n 2, 1) := by decide +kernel
theorem dX10_spoken_12 : decode cX10_spoken 12 = .ok (.invokevirtual 150, 3) := by decide +kernel
theorem dX10_spoken_15 : decode cX10_spoken 15 = .ok (.aload_n 0, 1) := by decide +kernel
theorem dX10_spoken_16 : decode cX10_spoken 16 = .ok (.iload_n 3, 1) := by decide +kernel
theorem dX10_spoken_17 : decode cX10_spoken 17 = .ok (.invokevirtual 153, 3) := by decide +kernel
theorem dX10_spoken_20 : decode cX10_spoken 20 = .ok (.aload_n 0, 1) := by decide +kernel
theorem dX10_spoken_21 : decode cX10_spoken 21 = .ok (.iload_n 1, 1) := by decide +kernel
theorem dX10_spoken_22 : decode cX10_spoken 22 = .ok (.invokevirtual 156, 3) := by decide +kernel
theorem dX10_spoken_25 : decode cX10_spoken 25 = .ok (.astore 4, 2) := by decide +kernel
theorem dX10_spoken_27 : decode cX10_spoken 27 = .ok (.iload_n 3, 1) := by decide +kernel
theorem dX10_spoken_28 : decode cX10_spoken 28 = .ok (.aload 4, 2) := by decide +kernel
theorem dX10_spoken_30 : decode cX10_spoken 30 = .ok (.getfield 160, 3) := by decide +kernel
theorem dX10_spoken_33 : decode cX10_spoken 33 = .ok (.iload_n 2, 1) := by decide +kernel
theorem dX10_spoken_34 : decode cX10_spoken 34 = .ok (.iaload, 1) := by decide +kernel
theorem dX10_spoken_35 : decode cX10_spoken 35 = .ok (.if_icmp .ge 15, 3) := by decide +kernel
theorem dX10_spoken_38 : decode cX10_spoken 38 = .ok (.aload 4, 2) := by decide +kernel
theorem dX10_spoken_40 : decode cX10_spoken 40 = .ok (.getfield 163, 3) := by decide +kernel
theorem dX10_spoken_43 : decode cX10_spoken 43 = .ok (.iload_n 2, 1) := by decide +kernel
theorem dX10_spoken_44 : decode cX10_spoken 44 = .ok (.aaload, 1) := by decide +kernel
theorem dX10_spoken_45 : decode cX10_spoken 45 = .ok (.iload_n 3, 1) := by decide +kernel
theorem dX10_spoken_46 : decode cX10_spoken 46 = .ok (.iaload, 1) := by decide +kernel
theorem dX10_spoken_47 : decode cX10_spoken 47 = .ok (.goto 4, 3) := by decide +kernel
theorem dX10_spoken_50 : decode cX10_spoken 50 = .ok (.iconst (-1), 1) := by decide +kernel
theorem dX10_spoken_51 : decode cX10_spoken 51 = .ok (.ireturn, 1) := by decide +kernel
theorem dX10_design_0 : decode cX10_design 0 = .ok (.iload_n 1, 1) := by decide +kernel
theorem dX10_design_1 : decode cX10_design 1 = .ok (.ifCond .eq 18, 3) := by decide +kernel
theorem dX10_design_4 : decode cX10_design 4 = .ok (.iload_n 1, 1) := by decide +kernel
theorem dX10_design_5 : decode cX10_design 5 = .ok (.iconst 1, 1) := by decide +kernel
theorem dX10_design_6 : decode cX10_design 6 = .ok (.if_icmp .eq 13, 3) := by decide +kernel
theorem dX10_design_9 : decode cX10_design 9 = .ok (.new 89, 3) := by decide +kernel
theorem dX10_design_12 : decode cX10_design 12 = .ok (.dup, 1) := by decide +kernel
theorem dX10_design_13 : decode cX10_design 13 = .ok (.ldc 167, 2) := by decide +kernel
theorem dX10_design_15 : decode cX10_design 15 = .ok (.invokespecial 93, 3) := by decide +kernel
theorem dX10_design_18 : decode cX10_design 18 = .ok (.athrow, 1) := by decide +kernel
theorem dX10_design_19 : decode cX10_design 19 = .ok (.iload_n 2, 1) := by decide +kernel
theorem dX10_design_20 : decode cX10_design 20 = .ok (.iconst (-1), 1) := by decide +kernel
theorem dX10_design_21 : decode cX10_design 21 = .ok (.if_icmp .eq 22, 3) := by decide +kernel
theorem dX10_design_24 : decode cX10_design 24 = .ok (.iload_n 2, 1) := by decide +kernel
theorem dX10_design_25 : decode cX10_design 25 = .ok (.ifCond .lt 8, 3) := by decide +kernel
theorem dX10_design_28 : decode cX10_design 28 = .ok (.iload_n 2, 1) := by decide +kernel
theorem dX10_design_29 : decode cX10_design 29 = .ok (.iconst 3, 1) := by decide +kernel
theorem dX10_design_30 : decode cX10_design 30 = .ok (.if_icmp .lt 13, 3) := by decide +kernel
theorem dX10_design_33 : decode cX10_design 33 = .ok (.new 89, 3) := by decide +kernel
theorem dX10_design_36 : decode cX10_design 36 = .ok (.dup, 1) := by decide +kernel
theorem dX10_design_37 : decode cX10_design 37 = .ok (.ldc 169, 2) := by decide +kernel
theorem dX10_design_39 : decode cX10_design 39 = .ok (.invokespecial 93, 3) := by decide +kernel
theorem dX10_design_42 : decode cX10_design 42 = .ok (.athrow, 1) := by decide +kernel
theorem dX10_design_43 : decode cX10_design 43 = .ok (.aload_n 0, 1) := by decide +kernel
theorem dX10_design_44 : decode cX10_design 44 = .ok (.getfield 33, 3) := by decide +kernel
theorem dX10_design_47 : decode cX10_design 47 = .ok (.iconst 5, 1) := by decide +kernel
theorem dX10_design_48 : decode cX10_design 48 = .ok (.if_icmp .lt 13, 3) := by decide +kernel
theorem dX10_design_51 : decode cX10_design 51 = .ok (.new 99, 3) := by decide +kernel
theorem dX10_design_54 : decode cX10_design 54 = .ok (.dup, 1) := by decide +kernel
theorem dX10_design_55 : decode cX10_design 55 = .ok (.ldc 171, 2) := by decide +kernel
theorem dX10_design_57 : decode cX10_design 57 = .ok (.invokespecial 103, 3) := by decide +kernel
theorem dX10_design_60 : decode cX10_design 60 = .ok (.athrow, 1) := by decide +kernel
theorem dX10_design_61 : decode cX10_design 61 = .ok (.aload_n 0, 1) := by decide +kernel
theorem dX10_design_62 : decode cX10_design 62 = .ok (.getfield 29, 3) := by decide +kernel
theorem dX10_design_65 : decode cX10_design 65 = .ok (.aload_n 0, 1) := by decide +kernel
theorem dX10_design_66 : decode cX10_design 66 = .ok (.getfield 33, 3) := by decide +kernel
theorem dX10_design_69 : decode cX10_design 69 = .ok (.new 27, 3) := by decide +kernel
theorem dX10_design_72 : decode cX10_design 72 = .ok (.dup, 1) := by decide +kernel
theorem dX10_design_73 : decode cX10_design 73 = .ok (.iload_n 1, 1) := by decide +kernel
theorem dX10_design_74 : decode cX10_design 74 = .ok (.iload_n 2, 1) := by decide +kernel
theorem dX10_design_75 : decode cX10_design 75 = .ok (.invokespecial 173, 3) := by decide +kernel
theorem dX10_design_78 : decode cX10_design 78 = .ok (.aastore, 1) := by decide +kernel
theorem dX10_design_79 : decode cX10_design 79 = .ok (.aload_n 0, 1) := by decide +kernel
theorem dX10_design_80 : decode cX10_design 80 = .ok (.dup, 1) := by decide +kernel
theorem dX10_design_81 : decode cX10_design 81 = .ok (.getfield 33, 3) := by decide +kernel
theorem dX10_design_84 : decode cX10_design 84 = .ok (.iconst 1, 1) := by decide +kernel
theorem dX10_design_85 : decode cX10_design 85 = .ok (.iadd, 1) := by decide +kernel
theorem dX10_design_86 : decode cX10_design 86 = .ok (.putfield 33, 3) := by decide +kernel
theorem dX10_design_89 : decode cX10_design 89 = .ok (.aload_n 0, 1) := by decide +kernel
theorem dX10_design_90 : decode cX10_design 90 = .ok (.getfield 33, 3) := by decide +kernel
theorem dX10_design_93 : decode cX10_design 93 = .ok (.iconst 1, 1) := by decide +kernel
theorem dX10_design_94 : decode cX10_design 94 = .ok (.isub, 1) := by decide +kernel
theorem dX10_design_95 : decode cX10_design 95 = .ok (.ireturn, 1) := by decide +kernel
theorem dX10_assign_0 : decode cX10_assign 0 = .ok (.aload_n 0, 1) := by decide +kernel
theorem dX10_assign_1 : decode cX10_assign 1 = .ok (.iload_n 1, 1) := by decide +kernel
theorem dX10_assign_2 : decode cX10_assign 2 = .ok (.invokevirtual 176, 3) := by decide +kernel
theorem dX10_assign_5 : decode cX10_assign 5 = .ok (.aload_n 0, 1) := by decide +kernel
theorem dX10_assign_6 : decode cX10_assign 6 = .ok (.getfield 29, 3) := by decide +kernel
theorem dX10_assign_9 : decode cX10_assign 9 = .ok (.iload_n 1, 1) := by decide +kernel
theorem dX10_assign_10 : decode cX10_assign 10 = .ok (.aaload, 1) := by decide +kernel
theorem dX10_assign_11 : decode cX10_assign 11 = .ok (.iload_n 2, 1) := by decide +kernel
theorem dX10_assign_12 : decode cX10_assign 12 = .ok (.invokevirtual 179, 3) := by decide +kernel
theorem dX10_assign_15 : decode cX10_assign 15 = .ok (.ifCond .ne 13, 3) := by decide +kernel
theorem dX10_assign_18 : decode cX10_assign 18 = .ok (.new 132, 3) := by decide +kernel
theorem dX10_assign_21 : decode cX10_assign 21 = .ok (.dup, 1) := by decide +kernel
theorem dX10_assign_22 : decode cX10_assign 22 = .ok (.ldc 183, 2) := by decide +kernel
theorem dX10_assign_24 : decode cX10_assign 24 = .ok (.invokespecial 136, 3) := by decide +kernel
theorem dX10_assign_27 : decode cX10_assign 27 = .ok (.athrow, 1) := by decide +kernel
theorem dX10_assign_28 : decode cX10_assign 28 = .ok (.iload_n 3, 1) := by decide +kernel
theorem dX10_assign_29 : decode cX10_assign 29 = .ok (.ifCond .lt 9, 3) := by decide +kernel
theorem dX10_assign_32 : decode cX10_assign 32 = .ok (.iload_n 3, 1) := by decide +kernel
theorem dX10_assign_33 : decode cX10_assign 33 = .ok (.bipush 50, 2) := by decide +kernel
theorem dX10_assign_35 : decode cX10_assign 35 = .ok (.if_icmp .lt 13, 3) := by decide +kernel
theorem dX10_assign_38 : decode cX10_assign 38 = .ok (.new 89, 3) := by decide +kernel
theorem dX10_assign_41 : decode cX10_assign 41 = .ok (.dup, 1) := by decide +kernel
theorem dX10_assign_42 : decode cX10_assign 42 = .ok (.ldc 185, 2) := by decide +kernel
theorem dX10_assign_44 : decode cX10_assign 44 = .ok (.invokespecial 93, 3) := by decide +kernel
theorem dX10_assign_47 : decode cX10_assign 47 = .ok (.athrow, 1) := by decide +kernel
theorem dX10_assign_48 : decode cX10_assign 48 = .ok (.iload 4, 2) := by decide +kernel
theorem dX10_assign_50 : decode cX10_assign 50 = .ok (.ifCond .ne 27, 3) := by decide +kernel
theorem dX10_assign_53 : decode cX10_assign 53 = .ok (.aload_n 0, 1) := by decide +kernel
theorem dX10_assign_54 : decode cX10_assign 54 = .ok (.getfield 29, 3) := by decide +kernel
theorem dX10_assign_57 : decode cX10_assign 57 = .ok (.iload_n 1, 1) := by decide +kernel
theorem dX10_assign_58 : decode cX10_assign 58 = .ok (.aaload, 1) := by decide +kernel
theorem dX10_assign_59 : decode cX10_assign 59 = .ok (.iload_n 2, 1) := by decide +kernel
theorem dX10_assign_60 : decode cX10_assign 60 = .ok (.iload_n 3, 1) := by decide +kernel
theorem dX10_assign_61 : decode cX10_assign 61 = .ok (.invokevirtual 187, 3) := by decide +kernel
theorem dX10_assign_64 : decode cX10_assign 64 = .ok (.ifCond .eq 13, 3) := by decide +kernel
theorem dX10_assign_67 : decode cX10_assign 67 = .ok (.new 99, 3) := by decide +kernel
theorem dX10_assign_70 : decode cX10_assign 70 = .ok (.dup, 1) := by decide +kernel
theorem dX10_assign_71 : decode cX10_assign 71 = .ok (.ldc 191, 2) := by decide +kernel
theorem dX10_assign_73 : decode cX10_assign 73 = .ok (.invokespecial 103, 3) := by decide +kernel
theorem dX10_assign_76 : decode cX10_assign 76 = .ok (.athrow, 1) := by decide +kernel
theorem dX10_assign_77 : decode cX10_assign 77 = .ok (.aload_n 0, 1) := by decide +kernel
theorem dX10_assign_78 : decode cX10_assign 78 = .ok (.getfield 29, 3) := by decide +kernel
theorem dX10_assign_81 : decode cX10_assign 81 = .ok (.iload_n 1, 1) := by decide +kernel
theorem dX10_assign_82 : decode cX10_assign 82 = .ok (.aaload, 1) := by decide +kernel
theorem dX10_assign_83 : decode cX10_assign 83 = .ok (.getfield 193, 3) := by decide +kernel
theorem dX10_assign_86 : decode cX10_assign 86 = .ok (.iload_n 2, 1) := by decide +kernel
theorem dX10_assign_87 : decode cX10_assign 87 = .ok (.iaload, 1) := by decide +kernel
theorem dX10_assign_88 : decode cX10_assign 88 = .ok (.istore 5, 2) := by decide +kernel
theorem dX10_assign_90 : decode cX10_assign 90 = .ok (.aload_n 0, 1) := by decide +kernel
theorem dX10_assign_91 : decode cX10_assign 91 = .ok (.getfield 29, 3) := by decide +kernel
theorem dX10_assign_94 : decode cX10_assign 94 = .ok (.iload_n 1, 1) := by decide +kernel
theorem dX10_assign_95 : decode cX10_assign 95 = .ok (.aaload, 1) := by decide +kernel
theorem dX10_assign_96 : decode cX10_assign 96 = .ok (.getfield 193, 3) := by decide +kernel
theorem dX10_assign_99 : decode cX10_assign 99 = .ok (.iload_n 2, 1) := by decide +kernel
theorem dX10_assign_100 : decode cX10_assign 100 = .ok (.iload_n 3, 1) := by decide +kernel
theorem dX10_assign_101 : decode cX10_assign 101 = .ok (.iastore, 1) := by decide +kernel
theorem dX10_assign_102 : decode cX10_assign 102 = .ok (.iload 5, 2) := by decide +kernel
theorem dX10_assign_104 : decode cX10_assign 104 = .ok (.ireturn, 1) := by decide +kernel
theorem dX10_mark_0 : decode cX10_mark 0 = .ok (.aload_n 0, 1) := by decide +kernel
theorem dX10_mark_1 : decode cX10_mark 1 = .ok (.iload_n 1, 1) := by decide +kernel
theorem dX10_mark_2 : decode cX10_mark 2 = .ok (.invokevirtual 176, 3) := by decide +kernel
theorem dX10_mark_5 : decode cX10_mark 5 = .ok (.aload_n 0, 1) := by decide +kernel
theorem dX10_mark_6 : decode cX10_mark 6 = .ok (.iload_n 2, 1) := by decide +kernel
theorem dX10_mark_7 : decode cX10_mark 7 = .ok (.invokevirtual 196, 3) := by decide +kernel
theorem dX10_mark_10 : decode cX10_mark 10 = .ok (.aload_n 0, 1) := by decide +kernel
theorem dX10_mark_11 : decode cX10_mark 11 = .ok (.getfield 29, 3) := by decide +kernel
theorem dX10_mark_14 : decode cX10_mark 14 = .ok (.iload_n 1, 1) := by decide +kernel
theorem dX10_mark_15 : decode cX10_mark 15 = .ok (.aaload, 1) := by decide +kernel
theorem dX10_mark_16 : decode cX10_mark 16 = .ok (.getfield 199, 3) := by decide +kernel
theorem dX10_mark_19 : decode cX10_mark 19 = .ok (.iload_n 2, 1) := by decide +kernel
theorem dX10_mark_20 : decode cX10_mark 20 = .ok (.baload, 1) := by decide +kernel
theorem dX10_mark_21 : decode cX10_mark 21 = .ok (.istore 4, 2) := by decide +kernel
theorem dX10_mark_23 : decode cX10_mark 23 = .ok (.aload_n 0, 1) := by decide +kernel
theorem dX10_mark_24 : decode cX10_mark 24 = .ok (.getfield 29, 3) := by decide +kernel
theorem dX10_mark_27 : decode cX10_mark 27 = .ok (.iload_n 1, 1) := by decide +kernel
theorem dX10_mark_28 : decode cX10_mark 28 = .ok (.aaload, 1) := by decide +kernel
theorem dX10_mark_29 : decode cX10_mark 29 = .ok (.getfield 199, 3) := by decide +kernel
theorem dX10_mark_32 : decode cX10_mark 32 = .ok (.iload_n 2, 1) := by decide +kernel
theorem dX10_mark_33 : decode cX10_mark 33 = .ok (.iload_n 3, 1) := by decide +kernel
theorem dX10_mark_34 : decode cX10_mark 34 = .ok (.bastore, 1) := by decide +kernel
theorem dX10_mark_35 : decode cX10_mark 35 = .ok (.iload 4, 2) := by decide +kernel
theorem dX10_mark_37 : decode cX10_mark 37 = .ok (.ireturn, 1) := by decide +kernel
theorem dX10_spelled_0 : decode cX10_spelled 0 = .ok (.aload_n 0, 1) := by decide +kernel
theorem dX10_spelled_1 : decode cX10_spelled 1 = .ok (.iload_n 1, 1) := by decide +kernel
theorem dX10_spelled_2 : decode cX10_spelled 2 = .ok (.invokevirtual 176, 3) := by decide +kernel
theorem dX10_spelled_5 : decode cX10_spelled 5 = .ok (.aload_n 0, 1) := by decide +kernel
theorem dX10_spelled_6 : decode cX10_spelled 6 = .ok (.iload_n 2, 1) := by decide +kernel
theorem dX10_spelled_7 : decode cX10_spelled 7 = .ok (.invokevirtual 150, 3) := by decide +kernel
theorem dX10_spelled_10 : decode cX10_spelled 10 = .ok (.aload_n 0, 1) := by decide +kernel
theorem dX10_spelled_11 : decode cX10_spelled 11 = .ok (.iload_n 3, 1) := by decide +kernel
theorem dX10_spelled_12 : decode cX10_spelled 12 = .ok (.invokevirtual 153, 3) := by decide +kernel
theorem dX10_spelled_15 : decode cX10_spelled 15 = .ok (.aload_n 0, 1) := by decide +kernel
theorem dX10_spelled_16 : decode cX10_spelled 16 = .ok (.aload_n 0, 1) := by decide +kernel
theorem dX10_spelled_17 : decode cX10_spelled 17 = .ok (.getfield 29, 3) := by decide +kernel
theorem dX10_spelled_20 : decode cX10_spelled 20 = .ok (.iload_n 1, 1) := by decide +kernel
theorem dX10_spelled_21 : decode cX10_spelled 21 = .ok (.aaload, 1) := by decide +kernel
theorem dX10_spelled_22 : decode cX10_spelled 22 = .ok (.invokevirtual 203, 3) := by decide +kernel
theorem dX10_spelled_25 : decode cX10_spelled 25 = .ok (.iload_n 3, 1) := by decide +kernel
theorem dX10_spelled_26 : decode cX10_spelled 26 = .ok (.aload_n 0, 1) := by decide +kernel
theorem dX10_spelled_27 : decode cX10_spelled 27 = .ok (.getfield 54, 3) := by decide +kernel
theorem dX10_spelled_30 : decode cX10_spelled 30 = .ok (.getfield 207, 3) := by decide +kernel
theorem dX10_spelled_33 : decode cX10_spelled 33 = .ok (.iload_n 2, 1) := by decide +kernel
theorem dX10_spelled_34 : decode cX10_spelled 34 = .ok (.iaload, 1) := by decide +kernel
theorem dX10_spelled_35 : decode cX10_spelled 35 = .ok (.if_icmp .ge 17, 3) := by decide +kernel
theorem dX10_spelled_38 : decode cX10_spelled 38 = .ok (.aload_n 0, 1) := by decide +kernel
theorem dX10_spelled_39 : decode cX10_spelled 39 = .ok (.getfield 54, 3) := by decide +kernel
theorem dX10_spelled_42 : decode cX10_spelled 42 = .ok (.getfield 208, 3) := by decide +kernel
theorem dX10_spelled_45 : decode cX10_spelled 45 = .ok (.iload_n 2, 1) := by decide +kernel
theorem dX10_spelled_46 : decode cX10_spelled 46 = .ok (.aaload, 1) := by decide +kernel
theorem dX10_spelled_47 : decode cX10_spelled 47 = .ok (.iload_n 3, 1) := by decide +kernel
theorem dX10_spelled_48 : decode cX10_spelled 48 = .ok (.iaload, 1) := by decide +kernel
theorem dX10_spelled_49 : decode cX10_spelled 49 = .ok (.goto 4, 3) := by decide +kernel
theorem dX10_spelled_52 : decode cX10_spelled 52 = .ok (.iconst (-1), 1) := by decide +kernel
theorem dX10_spelled_53 : decode cX10_spelled 53 = .ok (.ireturn, 1) := by decide +kernel
theorem dX10_doubts_0 : decode cX10_doubts 0 = .ok (.aload_n 0, 1) := by decide +kernel
theorem dX10_doubts_1 : decode cX10_doubts 1 = .ok (.iload_n 1, 1) := by decide +kernel
theorem dX10_doubts_2 : decode cX10_doubts 2 = .ok (.invokevirtual 176, 3) := by decide +kernel
theorem dX10_doubts_5 : decode cX10_doubts 5 = .ok (.aload_n 0, 1) := by decide +kernel
theorem dX10_doubts_6 : decode cX10_doubts 6 = .ok (.aload_n 0, 1) := by decide +kernel
theorem dX10_doubts_7 : decode cX10_doubts 7 = .ok (.getfield 29, 3) := by decide +kernel
theorem dX10_doubts_10 : decode cX10_doubts 10 = .ok (.iload_n 1, 1) := by decide +kernel
theorem dX10_doubts_11 : decode cX10_doubts 11 = .ok (.aaload, 1) := by decide +kernel
theorem dX10_doubts_12 : decode cX10_doubts 12 = .ok (.invokevirtual 203, 3) := by decide +kernel
theorem dX10_doubts_15 : decode cX10_doubts 15 = .ok (.iconst 0, 1) := by decide +kernel
theorem dX10_doubts_16 : decode cX10_doubts 16 = .ok (.istore_n 2, 1) := by decide +kernel
theorem dX10_doubts_17 : decode cX10_doubts 17 = .ok (.iconst 0, 1) := by decide +kernel
theorem dX10_doubts_18 : decode cX10_doubts 18 = .ok (.istore_n 3, 1) := by decide +kernel
theorem dX10_doubts_19 : decode cX10_doubts 19 = .ok (.iload_n 3, 1) := by decide +kernel
theorem dX10_doubts_20 : decode cX10_doubts 20 = .ok (.aload_n 0, 1) := by decide +kernel
theorem dX10_doubts_21 : decode cX10_doubts 21 = .ok (.getfield 12, 3) := by decide +kernel
theorem dX10_doubts_24 : decode cX10_doubts 24 = .ok (.getfield 112, 3) := by decide +kernel
theorem dX10_doubts_27 : decode cX10_doubts 27 = .ok (.if_icmp .ge 40, 3) := by decide +kernel
theorem dX10_doubts_30 : decode cX10_doubts 30 = .ok (.iconst 0, 1) := by decide +kernel
theorem dX10_doubts_31 : decode cX10_doubts 31 = .ok (.istore 4, 2) := by decide +kernel
theorem dX10_doubts_33 : decode cX10_doubts 33 = .ok (.iload 4, 2) := by decide +kernel
theorem dX10_doubts_35 : decode cX10_doubts 35 = .ok (.iload_n 3, 1) := by decide +kernel
theorem dX10_doubts_36 : decode cX10_doubts 36 = .ok (.if_icmp .ge 25, 3) := by decide +kernel
theorem dX10_doubts_39 : decode cX10_doubts 39 = .ok (.aload_n 0, 1) := by decide +kernel
theorem dX10_doubts_40 : decode cX10_doubts 40 = .ok (.getfield 54, 3) := by decide +kernel
theorem dX10_doubts_43 : decode cX10_doubts 43 = .ok (.iload_n 3, 1) := by decide +kernel
theorem dX10_doubts_44 : decode cX10_doubts 44 = .ok (.iload 4, 2) := by decide +kernel
theorem dX10_doubts_46 : decode cX10_doubts 46 = .ok (.invokevirtual 209, 3) := by decide +kernel
theorem dX10_doubts_49 : decode cX10_doubts 49 = .ok (.ifCond .eq 6, 3) := by decide +kernel
theorem dX10_doubts_52 : decode cX10_doubts 52 = .ok (.iinc 2 1, 3) := by decide +kernel
theorem dX10_doubts_55 : decode cX10_doubts 55 = .ok (.iinc 4 1, 3) := by decide +kernel
theorem dX10_doubts_58 : decode cX10_doubts 58 = .ok (.goto (-25), 3) := by decide +kernel
theorem dX10_doubts_61 : decode cX10_doubts 61 = .ok (.iinc 3 1, 3) := by decide +kernel
theorem dX10_doubts_64 : decode cX10_doubts 64 = .ok (.goto (-45), 3) := by decide +kernel
theorem dX10_doubts_67 : decode cX10_doubts 67 = .ok (.iload_n 2, 1) := by decide +kernel
theorem dX10_doubts_68 : decode cX10_doubts 68 = .ok (.ireturn, 1) := by decide +kernel
theorem dX10_load_0 : decode cX10_load 0 = .ok (.aload_n 0, 1) := by decide +kernel
theorem dX10_load_1 : decode cX10_load 1 = .ok (.iload_n 1, 1) := by decide +kernel
theorem dX10_load_2 : decode cX10_load 2 = .ok (.invokevirtual 176, 3) := by decide +kernel
theorem dX10_load_5 : decode cX10_load 5 = .ok (.aload_n 0, 1) := by decide +kernel
theorem dX10_load_6 : decode cX10_load 6 = .ok (.aload_n 0, 1) := by decide +kernel
theorem dX10_load_7 : decode cX10_load 7 = .ok (.getfield 29, 3) := by decide +kernel
theorem dX10_load_10 : decode cX10_load 10 = .ok (.iload_n 1, 1) := by decide +kernel
theorem dX10_load_11 : decode cX10_load 11 = .ok (.aaload, 1) := by decide +kernel
theorem dX10_load_12 : decode cX10_load 12 = .ok (.invokevirtual 203, 3) := by decide +kernel
theorem dX10_load_15 : decode cX10_load 15 = .ok (.aload_n 0, 1) := by decide +kernel
theorem dX10_load_16 : decode cX10_load 16 = .ok (.getfield 54, 3) := by decide +kernel
theorem dX10_load_19 : decode cX10_load 19 = .ok (.aload_n 0, 1) := by decide +kernel
theorem dX10_load_20 : decode cX10_load 20 = .ok (.getfield 12, 3) := by decide +kernel
theorem dX10_load_23 : decode cX10_load 23 = .ok (.getfield 212, 3) := by decide +kernel
theorem dX10_load_26 : decode cX10_load 26 = .ok (.invokevirtual 215, 3) := by decide +kernel
theorem dX10_load_29 : decode cX10_load 29 = .ok (.ireturn, 1) := by decide +kernel
theorem dX10_loadIf_0 : decode cX10_loadIf 0 = .ok (.aload_n 0, 1) := by decide +kernel
theorem dX10_loadIf_1 : decode cX10_loadIf 1 = .ok (.iload_n 1, 1) := by decide +kernel
theorem dX10_loadIf_2 : decode cX10_loadIf 2 = .ok (.invokevirtual 176, 3) := by decide +kernel
theorem dX10_loadIf_5 : decode cX10_loadIf 5 = .ok (.aload_n 0, 1) := by decide +kernel
theorem dX10_loadIf_6 : decode cX10_loadIf 6 = .ok (.iload_n 2, 1) := by decide +kernel
theorem dX10_loadIf_7 : decode cX10_loadIf 7 = .ok (.invokevirtual 196, 3) := by decide +kernel
theorem dX10_loadIf_10 : decode cX10_loadIf 10 = .ok (.aload_n 0, 1) := by decide +kernel
theorem dX10_loadIf_11 : decode cX10_loadIf 11 = .ok (.getfield 29, 3) := by decide +kernel
theorem dX10_loadIf_14 : decode cX10_loadIf 14 = .ok (.iload_n 1, 1) := by decide +kernel
theorem dX10_loadIf_15 : decode cX10_loadIf 15 = .ok (.aaload, 1) := by decide +kernel
theorem dX10_loadIf_16 : decode cX10_loadIf 16 = .ok (.getfield 199, 3) := by decide +kernel
theorem dX10_loadIf_19 : decode cX10_loadIf 19 = .ok (.astore_n 3, 1) := by decide +kernel
theorem dX10_loadIf_20 : decode cX10_loadIf 20 = .ok (.aload_n 3, 1) := by decide +kernel
theorem dX10_loadIf_21 : decode cX10_loadIf 21 = .ok (.iload_n 2, 1) := by decide +kernel
theorem dX10_loadIf_22 : decode cX10_loadIf 22 = .ok (.baload, 1) := by decide +kernel
theorem dX10_loadIf_23 : decode cX10_loadIf 23 = .ok (.istore 4, 2) := by decide +kernel
theorem dX10_loadIf_25 : decode cX10_loadIf 25 = .ok (.aload_n 3, 1) := by decide +kernel
theorem dX10_loadIf_26 : decode cX10_loadIf 26 = .ok (.iload_n 2, 1) := by decide +kernel
theorem dX10_loadIf_27 : decode cX10_loadIf 27 = .ok (.iload 4, 2) := by decide +kernel
theorem dX10_loadIf_29 : decode cX10_loadIf 29 = .ok (.ifCond .ne 7, 3) := by decide +kernel
theorem dX10_loadIf_32 : decode cX10_loadIf 32 = .ok (.iconst 1, 1) := by decide +kernel
theorem dX10_loadIf_33 : decode cX10_loadIf 33 = .ok (.goto 4, 3) := by decide +kernel
theorem dX10_loadIf_36 : decode cX10_loadIf 36 = .ok (.iconst 0, 1) := by decide +kernel
theorem dX10_loadIf_37 : decode cX10_loadIf 37 = .ok (.bastore, 1) := by decide +kernel
theorem dX10_loadIf_38 : decode cX10_loadIf 38 = .ok (.aload_n 0, 1) := by decide +kernel
theorem dX10_loadIf_39 : decode cX10_loadIf 39 = .ok (.aload_n 0, 1) := by decide +kernel
theorem dX10_loadIf_40 : decode cX10_loadIf 40 = .ok (.getfield 29, 3) := by decide +kernel
theorem dX10_loadIf_43 : decode cX10_loadIf 43 = .ok (.iload_n 1, 1) := by decide +kernel
theorem dX10_loadIf_44 : decode cX10_loadIf 44 = .ok (.aaload, 1) := by decide +kernel
theorem dX10_loadIf_45 : decode cX10_loadIf 45 = .ok (.invokevirtual 203, 3) := by decide +kernel
theorem dX10_loadIf_48 : decode cX10_loadIf 48 = .ok (.aload_n 3, 1) := by decide +kernel
theorem dX10_loadIf_49 : decode cX10_loadIf 49 = .ok (.iload_n 2, 1) := by decide +kernel
theorem dX10_loadIf_50 : decode cX10_loadIf 50 = .ok (.iload 4, 2) := by decide +kernel
theorem dX10_loadIf_52 : decode cX10_loadIf 52 = .ok (.bastore, 1) := by decide +kernel
theorem dX10_loadIf_53 : decode cX10_loadIf 53 = .ok (.aload_n 0, 1) := by decide +kernel
theorem dX10_loadIf_54 : decode cX10_loadIf 54 = .ok (.getfield 54, 3) := by decide +kernel
theorem dX10_loadIf_57 : decode cX10_loadIf 57 = .ok (.aload_n 0, 1) := by decide +kernel
theorem dX10_loadIf_58 : decode cX10_loadIf 58 = .ok (.getfield 12, 3) := by decide +kernel
theorem dX10_loadIf_61 : decode cX10_loadIf 61 = .ok (.getfield 212, 3) := by decide +kernel
theorem dX10_loadIf_64 : decode cX10_loadIf 64 = .ok (.invokevirtual 215, 3) := by decide +kernel
theorem dX10_loadIf_67 : decode cX10_loadIf 67 = .ok (.ireturn, 1) := by decide +kernel
theorem dX10_readings_0 : decode cX10_readings 0 = .ok (.aload_n 0, 1) := by decide +kernel
theorem dX10_readings_1 : decode cX10_readings 1 = .ok (.iload_n 1, 1) := by decide +kernel
theorem dX10_readings_2 : decode cX10_readings 2 = .ok (.invokevirtual 176, 3) := by decide +kernel
theorem dX10_readings_5 : decode cX10_readings 5 = .ok (.aload_n 0, 1) := by decide +kernel
theorem dX10_readings_6 : decode cX10_readings 6 = .ok (.iload_n 2, 1) := by decide +kernel
theorem dX10_readings_7 : decode cX10_readings 7 = .ok (.invokevirtual 150, 3) := by decide +kernel
theorem dX10_readings_10 : decode cX10_readings 10 = .ok (.aload_n 0, 1) := by decide +kernel
theorem dX10_readings_11 : decode cX10_readings 11 = .ok (.aload_n 0, 1) := by decide +kernel
theorem dX10_readings_12 : decode cX10_readings 12 = .ok (.getfield 29, 3) := by decide +kernel
theorem dX10_readings_15 : decode cX10_readings 15 = .ok (.iload_n 1, 1) := by decide +kernel
theorem dX10_readings_16 : decode cX10_readings 16 = .ok (.aaload, 1) := by decide +kernel
theorem dX10_readings_17 : decode cX10_readings 17 = .ok (.invokevirtual 203, 3) := by decide +kernel
theorem dX10_readings_20 : decode cX10_readings 20 = .ok (.aload_n 0, 1) := by decide +kernel
theorem dX10_readings_21 : decode cX10_readings 21 = .ok (.getfield 71, 3) := by decide +kernel
theorem dX10_readings_24 : decode cX10_readings 24 = .ok (.aload_n 0, 1) := by decide +kernel
theorem dX10_readings_25 : decode cX10_readings 25 = .ok (.getfield 29, 3) := by decide +kernel
theorem dX10_readings_28 : decode cX10_readings 28 = .ok (.iload_n 1, 1) := by decide +kernel
theorem dX10_readings_29 : decode cX10_readings 29 = .ok (.aaload, 1) := by decide +kernel
theorem dX10_readings_30 : decode cX10_readings 30 = .ok (.aload_n 0, 1) := by decide +kernel
theorem dX10_readings_31 : decode cX10_readings 31 = .ok (.getfield 54, 3) := by decide +kernel
theorem dX10_readings_34 : decode cX10_readings 34 = .ok (.getfield 208, 3) := by decide +kernel
theorem dX10_readings_37 : decode cX10_readings 37 = .ok (.iload_n 2, 1) := by decide +kernel
theorem dX10_readings_38 : decode cX10_readings 38 = .ok (.aaload, 1) := by decide +kernel
theorem dX10_readings_39 : decode cX10_readings 39 = .ok (.aload_n 0, 1) := by decide +kernel
theorem dX10_readings_40 : decode cX10_readings 40 = .ok (.getfield 54, 3) := by decide +kernel
theorem dX10_readings_43 : decode cX10_readings 43 = .ok (.getfield 207, 3) := by decide +kernel
theorem dX10_readings_46 : decode cX10_readings 46 = .ok (.iload_n 2, 1) := by decide +kernel
theorem dX10_readings_47 : decode cX10_readings 47 = .ok (.iaload, 1) := by decide +kernel
theorem dX10_readings_48 : decode cX10_readings 48 = .ok (.invokevirtual 219, 3) := by decide +kernel
theorem dX10_readings_51 : decode cX10_readings 51 = .ok (.lreturn, 1) := by decide +kernel
theorem dX10_readingsAnew_0 : decode cX10_readingsAnew 0 = .ok (.aload_n 0, 1) := by decide +kernel
theorem dX10_readingsAnew_1 : decode cX10_readingsAnew 1 = .ok (.iload_n 1, 1) := by decide +kernel
theorem dX10_readingsAnew_2 : decode cX10_readingsAnew 2 = .ok (.invokevirtual 176, 3) := by decide +kernel
theorem dX10_readingsAnew_5 : decode cX10_readingsAnew 5 = .ok (.aload_n 0, 1) := by decide +kernel
theorem dX10_readingsAnew_6 : decode cX10_readingsAnew 6 = .ok (.iload_n 2, 1) := by decide +kernel
theorem dX10_readingsAnew_7 : decode cX10_readingsAnew 7 = .ok (.invokevirtual 150, 3) := by decide +kernel
theorem dX10_readingsAnew_10 : decode cX10_readingsAnew 10 = .ok (.aload_n 0, 1) := by decide +kernel
theorem dX10_readingsAnew_11 : decode cX10_readingsAnew 11 = .ok (.aload_n 0, 1) := by decide +kernel
theorem dX10_readingsAnew_12 : decode cX10_readingsAnew 12 = .ok (.getfield 29, 3) := by decide +kernel
theorem dX10_readingsAnew_15 : decode cX10_readingsAnew 15 = .ok (.iload_n 1, 1) := by decide +kernel
theorem dX10_readingsAnew_16 : decode cX10_readingsAnew 16 = .ok (.aaload, 1) := by decide +kernel
theorem dX10_readingsAnew_17 : decode cX10_readingsAnew 17 = .ok (.invokevirtual 203, 3) := by decide +kernel
theorem dX10_readingsAnew_20 : decode cX10_readingsAnew 20 = .ok (.aload_n 0, 1) := by decide +kernel
theorem dX10_readingsAnew_21 : decode cX10_readingsAnew 21 = .ok (.getfield 71, 3) := by decide +kernel
theorem dX10_readingsAnew_24 : decode cX10_readingsAnew 24 = .ok (.aload_n 0, 1) := by decide +kernel
theorem dX10_readingsAnew_25 : decode cX10_readingsAnew 25 = .ok (.getfield 29, 3) := by decide +kernel
theorem dX10_readingsAnew_28 : decode cX10_readingsAnew 28 = .ok (.iload_n 1, 1) := by decide +kernel
theorem dX10_readingsAnew_29 : decode cX10_readingsAnew 29 = .ok (.aaload, 1) := by decide +kernel
theorem dX10_readingsAnew_30 : decode cX10_readingsAnew 30 = .ok (.aload_n 0, 1) := by decide +kernel
theorem dX10_readingsAnew_31 : decode cX10_readingsAnew 31 = .ok (.getfield 54, 3) := by decide +kernel
theorem dX10_readingsAnew_34 : decode cX10_readingsAnew 34 = .ok (.getfield 208, 3) := by decide +kernel
theorem dX10_readingsAnew_37 : decode cX10_readingsAnew 37 = .ok (.iload_n 2, 1) := by decide +kernel
theorem dX10_readingsAnew_38 : decode cX10_readingsAnew 38 = .ok (.aaload, 1) := by decide +kernel
theorem dX10_readingsAnew_39 : decode cX10_readingsAnew 39 = .ok (.aload_n 0, 1) := by decide +kernel
theorem dX10_readingsAnew_40 : decode cX10_readingsAnew 40 = .ok (.getfield 54, 3) := by decide +kernel
theorem dX10_readingsAnew_43 : decode cX10_readingsAnew 43 = .ok (.getfield 207, 3) := by decide +kernel
theorem dX10_readingsAnew_46 : decode cX10_readingsAnew 46 = .ok (.iload_n 2, 1) := by decide +kernel
theorem dX10_readingsAnew_47 : decode cX10_readingsAnew 47 = .ok (.iaload, 1) := by decide +kernel
theorem dX10_readingsAnew_48 : decode cX10_readingsAnew 48 = .ok (.invokevirtual 223, 3) := by decide +kernel
theorem dX10_readingsAnew_51 : decode cX10_readingsAnew 51 = .ok (.lreturn, 1) := by decide +kernel
theorem dX10_fit_0 : decode cX10_fit 0 = .ok (.aload_n 0, 1) := by decide +kernel
theorem dX10_fit_1 : decode cX10_fit 1 = .ok (.iload_n 1, 1) := by decide +kernel
theorem dX10_fit_2 : decode cX10_fit 2 = .ok (.invokevirtual 176, 3) := by decide +kernel
theorem dX10_fit_5 : decode cX10_fit 5 = .ok (.aload_n 0, 1) := by decide +kernel
theorem dX10_fit_6 : decode cX10_fit 6 = .ok (.iload_n 2, 1) := by decide +kernel
theorem dX10_fit_7 : decode cX10_fit 7 = .ok (.invokevirtual 128, 3) := by decide +kernel
theorem dX10_fit_10 : decode cX10_fit 10 = .ok (.aload_n 0, 1) := by decide +kernel
theorem dX10_fit_11 : decode cX10_fit 11 = .ok (.aload_n 0, 1) := by decide +kernel
theorem dX10_fit_12 : decode cX10_fit 12 = .ok (.getfield 29, 3) := by decide +kernel
theorem dX10_fit_15 : decode cX10_fit 15 = .ok (.iload_n 1, 1) := by decide +kernel
theorem dX10_fit_16 : decode cX10_fit 16 = .ok (.aaload, 1) := by decide +kernel
theorem dX10_fit_17 : decode cX10_fit 17 = .ok (.invokevirtual 203, 3) := by decide +kernel
theorem dX10_fit_20 : decode cX10_fit 20 = .ok (.aload_n 0, 1) := by decide +kernel
theorem dX10_fit_21 : decode cX10_fit 21 = .ok (.aload_n 0, 1) := by decide +kernel
theorem dX10_fit_22 : decode cX10_fit 22 = .ok (.getfield 29, 3) := by decide +kernel
theorem dX10_fit_25 : decode cX10_fit 25 = .ok (.iload_n 1, 1) := by decide +kernel
theorem dX10_fit_26 : decode cX10_fit 26 = .ok (.aaload, 1) := by decide +kernel
theorem dX10_fit_27 : decode cX10_fit 27 = .ok (.iload_n 2, 1) := by decide +kernel
theorem dX10_fit_28 : decode cX10_fit 28 = .ok (.invokevirtual 226, 3) := by decide +kernel
theorem dX10_fit_31 : decode cX10_fit 31 = .ok (.ireturn, 1) := by decide +kernel
theorem dX10_shape_0 : decode cX10_shape 0 = .ok (.aload_n 0, 1) := by decide +kernel
theorem dX10_shape_1 : decode cX10_shape 1 = .ok (.iload_n 1, 1) := by decide +kernel
theorem dX10_shape_2 : decode cX10_shape 2 = .ok (.invokevirtual 230, 3) := by decide +kernel
theorem dX10_shape_5 : decode cX10_shape 5 = .ok (.iload_n 2, 1) := by decide +kernel
theorem dX10_shape_6 : decode cX10_shape 6 = .ok (.invokestatic 233, 3) := by decide +kernel
theorem dX10_shape_9 : decode cX10_shape 9 = .ok (.ifCond .ne 13, 3) := by decide +kernel
theorem dX10_shape_12 : decode cX10_shape 12 = .ok (.new 89, 3) := by decide +kernel
theorem dX10_shape_15 : decode cX10_shape 15 = .ok (.dup, 1) := by decide +kernel
theorem dX10_shape_16 : decode cX10_shape 16 = .ok (.ldc 236, 2) := by decide +kernel
theorem dX10_shape_18 : decode cX10_shape 18 = .ok (.invokespecial 93, 3) := by decide +kernel
theorem dX10_shape_21 : decode cX10_shape 21 = .ok (.athrow, 1) := by decide +kernel
theorem dX10_shape_22 : decode cX10_shape 22 = .ok (.aload_n 0, 1) := by decide +kernel
theorem dX10_shape_23 : decode cX10_shape 23 = .ok (.getfield 40, 3) := by decide +kernel
theorem dX10_shape_26 : decode cX10_shape 26 = .ok (.getfield 238, 3) := by decide +kernel
theorem dX10_shape_29 : decode cX10_shape 29 = .ok (.iload_n 1, 1) := by decide +kernel
theorem dX10_shape_30 : decode cX10_shape 30 = .ok (.iaload, 1) := by decide +kernel
theorem dX10_shape_31 : decode cX10_shape 31 = .ok (.istore_n 3, 1) := by decide +kernel
theorem dX10_shape_32 : decode cX10_shape 32 = .ok (.aload_n 0, 1) := by decide +kernel
theorem dX10_shape_33 : decode cX10_shape 33 = .ok (.getfield 40, 3) := by decide +kernel
theorem dX10_shape_36 : decode cX10_shape 36 = .ok (.iload_n 1, 1) := by decide +kernel
theorem dX10_shape_37 : decode cX10_shape 37 = .ok (.iload_n 2, 1) := by decide +kernel
theorem dX10_shape_38 : decode cX10_shape 38 = .ok (.invokevirtual 241, 3) := by decide +kernel
theorem dX10_shape_41 : decode cX10_shape 41 = .ok (.iload_n 3, 1) := by decide +kernel
theorem dX10_shape_42 : decode cX10_shape 42 = .ok (.ireturn, 1) := by decide +kernel
theorem dX10_apart_0 : decode cX10_apart 0 = .ok (.aload_n 0, 1) := by decide +kernel
theorem dX10_apart_1 : decode cX10_apart 1 = .ok (.iload_n 1, 1) := by decide +kernel
theorem dX10_apart_2 : decode cX10_apart 2 = .ok (.invokevirtual 230, 3) := by decide +kernel
theorem dX10_apart_5 : decode cX10_apart 5 = .ok (.aload_n 0, 1) := by decide +kernel
theorem dX10_apart_6 : decode cX10_apart 6 = .ok (.iload_n 2, 1) := by decide +kernel
theorem dX10_apart_7 : decode cX10_apart 7 = .ok (.invokevirtual 230, 3) := by decide +kernel
theorem dX10_apart_10 : decode cX10_apart 10 = .ok (.aload_n 0, 1) := by decide +kernel
theorem dX10_apart_11 : decode cX10_apart 11 = .ok (.getfield 40, 3) := by decide +kernel
theorem dX10_apart_14 : decode cX10_apart 14 = .ok (.iload_n 1, 1) := by decide +kernel
theorem dX10_apart_15 : decode cX10_apart 15 = .ok (.iload_n 2, 1) := by decide +kernel
theorem dX10_apart_16 : decode cX10_apart 16 = .ok (.invokevirtual 244, 3) := by decide +kernel
theorem dX10_apart_19 : decode cX10_apart 19 = .ok (.ireturn, 1) := by decide +kernel
theorem dX10_clear_0 : decode cX10_clear 0 = .ok (.aload_n 0, 1) := by decide +kernel
theorem dX10_clear_1 : decode cX10_clear 1 = .ok (.iload_n 1, 1) := by decide +kernel
theorem dX10_clear_2 : decode cX10_clear 2 = .ok (.invokevirtual 176, 3) := by decide +kernel
theorem dX10_clear_5 : decode cX10_clear 5 = .ok (.aload_n 0, 1) := by decide +kernel
theorem dX10_clear_6 : decode cX10_clear 6 = .ok (.getfield 40, 3) := by decide +kernel
theorem dX10_clear_9 : decode cX10_clear 9 = .ok (.aload_n 0, 1) := by decide +kernel
theorem dX10_clear_10 : decode cX10_clear 10 = .ok (.getfield 29, 3) := by decide +kernel
theorem dX10_clear_13 : decode cX10_clear 13 = .ok (.iload_n 1, 1) := by decide +kernel
theorem dX10_clear_14 : decode cX10_clear 14 = .ok (.aaload, 1) := by decide +kernel
theorem dX10_clear_15 : decode cX10_clear 15 = .ok (.invokevirtual 248, 3) := by decide +kernel
theorem dX10_clear_18 : decode cX10_clear 18 = .ok (.invokevirtual 252, 3) := by decide +kernel
theorem dX10_clear_21 : decode cX10_clear 21 = .ok (.ireturn, 1) := by decide +kernel
theorem dX10_errors_0 : decode cX10_errors 0 = .ok (.aload_n 0, 1) := by decide +kernel
theorem dX10_errors_1 : decode cX10_errors 1 = .ok (.iload_n 1, 1) := by decide +kernel
theorem dX10_errors_2 : decode cX10_errors 2 = .ok (.invokevirtual 176, 3) := by decide +kernel
theorem dX10_errors_5 : decode cX10_errors 5 = .ok (.iload_n 2, 1) := by decide +kernel
theorem dX10_errors_6 : decode cX10_errors 6 = .ok (.ifCond .lt 8, 3) := by decide +kernel
theorem dX10_errors_9 : decode cX10_errors 9 = .ok (.iload_n 2, 1) := by decide +kernel
theorem dX10_errors_10 : decode cX10_errors 10 = .ok (.iconst 4, 1) := by decide +kernel
theorem dX10_errors_11 : decode cX10_errors 11 = .ok (.if_icmp .le 14, 3) := by decide +kernel
theorem dX10_errors_14 : decode cX10_errors 14 = .ok (.new 89, 3) := by decide +kernel
theorem dX10_errors_17 : decode cX10_errors 17 = .ok (.dup, 1) := by decide +kernel
theorem dX10_errors_18 : decode cX10_errors 18 = .ok (.ldc_w 256, 3) := by decide +kernel
theorem dX10_errors_21 : decode cX10_errors 21 = .ok (.invokespecial 93, 3) := by decide +kernel
theorem dX10_errors_24 : decode cX10_errors 24 = .ok (.athrow, 1) := by decide +kernel
theorem dX10_errors_25 : decode cX10_errors 25 = .ok (.aload_n 0, 1) := by decide +kernel
theorem dX10_errors_26 : decode cX10_errors 26 = .ok (.aload_n 0, 1) := by decide +kernel
theorem dX10_errors_27 : decode cX10_errors 27 = .ok (.getfield 29, 3) := by decide +kernel
theorem dX10_errors_30 : decode cX10_errors 30 = .ok (.iload_n 1, 1) := by decide +kernel
theorem dX10_errors_31 : decode cX10_errors 31 = .ok (.aaload, 1) := by decide +kernel
theorem dX10_errors_32 : decode cX10_errors 32 = .ok (.invokevirtual 203, 3) := by decide +kernel
theorem dX10_errors_35 : decode cX10_errors 35 = .ok (.aload_n 0, 1) := by decide +kernel
theorem dX10_errors_36 : decode cX10_errors 36 = .ok (.getfield 40, 3) := by decide +kernel
theorem dX10_errors_39 : decode cX10_errors 39 = .ok (.aload_n 0, 1) := by decide +kernel
theorem dX10_errors_40 : decode cX10_errors 40 = .ok (.getfield 54, 3) := by decide +kernel
theorem dX10_errors_43 : decode cX10_errors 43 = .ok (.invokevirtual 258, 3) := by decide +kernel
theorem dX10_errors_46 : decode cX10_errors 46 = .ok (.aload_n 0, 1) := by decide +kernel
theorem dX10_errors_47 : decode cX10_errors 47 = .ok (.getfield 29, 3) := by decide +kernel
theorem dX10_errors_50 : decode cX10_errors 50 = .ok (.iload_n 1, 1) := by decide +kernel
theorem dX10_errors_51 : decode cX10_errors 51 = .ok (.aaload, 1) := by decide +kernel
theorem dX10_errors_52 : decode cX10_errors 52 = .ok (.invokevirtual 248, 3) := by decide +kernel
theorem dX10_errors_55 : decode cX10_errors 55 = .ok (.iload_n 2, 1) := by decide +kernel
theorem dX10_errors_56 : decode cX10_errors 56 = .ok (.invokevirtual 261, 3) := by decide +kernel
theorem dX10_errors_59 : decode cX10_errors 59 = .ok (.lstore_n 3, 1) := by decide +kernel
theorem dX10_errors_60 : decode cX10_errors 60 = .ok (.iconst 0, 1) := by decide +kernel
theorem dX10_errors_61 : decode cX10_errors 61 = .ok (.istore 5, 2) := by decide +kernel
theorem dX10_errors_63 : decode cX10_errors 63 = .ok (.iconst 0, 1) := by decide +kernel
theorem dX10_errors_64 : decode cX10_errors 64 = .ok (.istore 6, 2) := by decide +kernel
theorem dX10_errors_66 : decode cX10_errors 66 = .ok (.iload 6, 2) := by decide +kernel
theorem dX10_errors_68 : decode cX10_errors 68 = .ok (.aload_n 0, 1) := by decide +kernel
theorem dX10_errors_69 : decode cX10_errors 69 = .ok (.getfield 12, 3) := by decide +kernel
theorem dX10_errors_72 : decode cX10_errors 72 = .ok (.getfield 112, 3) := by decide +kernel
theorem dX10_errors_75 : decode cX10_errors 75 = .ok (.if_icmp .ge 35, 3) := by decide +kernel
theorem dX10_errors_78 : decode cX10_errors 78 = .ok (.iload 5, 2) := by decide +kernel
theorem dX10_errors_80 : decode cX10_errors 80 = .ok (.aload_n 0, 1) := by decide +kernel
theorem dX10_errors_81 : decode cX10_errors 81 = .ok (.getfield 12, 3) := by decide +kernel
theorem dX10_errors_84 : decode cX10_errors 84 = .ok (.getfield 212, 3) := by decide +kernel
theorem dX10_errors_87 : decode cX10_errors 87 = .ok (.iload 6, 2) := by decide +kernel
theorem dX10_errors_89 : decode cX10_errors 89 = .ok (.iaload, 1) := by decide +kernel
theorem dX10_errors_90 : decode cX10_errors 90 = .ok (.aload_n 0, 1) := by decide +kernel
theorem dX10_errors_91 : decode cX10_errors 91 = .ok (.getfield 54, 3) := by decide +kernel
theorem dX10_errors_94 : decode cX10_errors 94 = .ok (.iload 6, 2) := by decide +kernel
theorem dX10_errors_96 : decode cX10_errors 96 = .ok (.lload_n 3, 1) := by decide +kernel
theorem dX10_errors_97 : decode cX10_errors 97 = .ok (.invokevirtual 265, 3) := by decide +kernel
theorem dX10_errors_100 : decode cX10_errors 100 = .ok (.imul, 1) := by decide +kernel
theorem dX10_errors_101 : decode cX10_errors 101 = .ok (.iadd, 1) := by decide +kernel
theorem dX10_errors_102 : decode cX10_errors 102 = .ok (.istore 5, 2) := by decide +kernel
theorem dX10_errors_104 : decode cX10_errors 104 = .ok (.iinc 6 1, 3) := by decide +kernel
theorem dX10_errors_107 : decode cX10_errors 107 = .ok (.goto (-41), 3) := by decide +kernel
theorem dX10_errors_110 : decode cX10_errors 110 = .ok (.iload 5, 2) := by decide +kernel
theorem dX10_errors_112 : decode cX10_errors 112 = .ok (.ireturn, 1) := by decide +kernel
theorem dX10_primer_0 : decode cX10_primer 0 = .ok (.aload_n 0, 1) := by decide +kernel
theorem dX10_primer_1 : decode cX10_primer 1 = .ok (.iload_n 1, 1) := by decide +kernel
theorem dX10_primer_2 : decode cX10_primer 2 = .ok (.invokevirtual 176, 3) := by decide +kernel
theorem dX10_primer_5 : decode cX10_primer 5 = .ok (.aload_n 0, 1) := by decide +kernel
theorem dX10_primer_6 : decode cX10_primer 6 = .ok (.iload_n 2, 1) := by decide +kernel
theorem dX10_primer_7 : decode cX10_primer 7 = .ok (.invokevirtual 153, 3) := by decide +kernel
theorem dX10_primer_10 : decode cX10_primer 10 = .ok (.aload_n 0, 1) := by decide +kernel
theorem dX10_primer_11 : decode cX10_primer 11 = .ok (.aload_n 0, 1) := by decide +kernel
theorem dX10_primer_12 : decode cX10_primer 12 = .ok (.getfield 29, 3) := by decide +kernel
theorem dX10_primer_15 : decode cX10_primer 15 = .ok (.iload_n 1, 1) := by decide +kernel
theorem dX10_primer_16 : decode cX10_primer 16 = .ok (.aaload, 1) := by decide +kernel
theorem dX10_primer_17 : decode cX10_primer 17 = .ok (.invokevirtual 269, 3) := by decide +kernel
theorem dX10_primer_20 : decode cX10_primer 20 = .ok (.iload_n 2, 1) := by decide +kernel
theorem dX10_primer_21 : decode cX10_primer 21 = .ok (.aload_n 0, 1) := by decide +kernel
theorem dX10_primer_22 : decode cX10_primer 22 = .ok (.getfield 78, 3) := by decide +kernel
theorem dX10_primer_25 : decode cX10_primer 25 = .ok (.getfield 272, 3) := by decide +kernel
theorem dX10_primer_28 : decode cX10_primer 28 = .ok (.if_icmp .ge 15, 3) := by decide +kernel
theorem dX10_primer_31 : decode cX10_primer 31 = .ok (.aload_n 0, 1) := by decide +kernel
theorem dX10_primer_32 : decode cX10_primer 32 = .ok (.getfield 78, 3) := by decide +kernel
theorem dX10_primer_35 : decode cX10_primer 35 = .ok (.getfield 275, 3) := by decide +kernel
theorem dX10_primer_38 : decode cX10_primer 38 = .ok (.iload_n 2, 1) := by decide +kernel
theorem dX10_primer_39 : decode cX10_primer 39 = .ok (.iaload, 1) := by decide +kernel
theorem dX10_primer_40 : decode cX10_primer 40 = .ok (.goto 4, 3) := by decide +kernel
theorem dX10_primer_43 : decode cX10_primer 43 = .ok (.iconst (-1), 1) := by decide +kernel
theorem dX10_primer_44 : decode cX10_primer 44 = .ok (.ireturn, 1) := by decide +kernel
theorem dX10_cost_0 : decode cX10_cost 0 = .ok (.aload_n 0, 1) := by decide +kernel
theorem dX10_cost_1 : decode cX10_cost 1 = .ok (.iload_n 1, 1) := by decide +kernel
theorem dX10_cost_2 : decode cX10_cost 2 = .ok (.invokevirtual 176, 3) := by decide +kernel
theorem dX10_cost_5 : decode cX10_cost 5 = .ok (.aload_n 0, 1) := by decide +kernel
theorem dX10_cost_6 : decode cX10_cost 6 = .ok (.aload_n 0, 1) := by decide +kernel
theorem dX10_cost_7 : decode cX10_cost 7 = .ok (.getfield 29, 3) := by decide +kernel
theorem dX10_cost_10 : decode cX10_cost 10 = .ok (.iload_n 1, 1) := by decide +kernel
theorem dX10_cost_11 : decode cX10_cost 11 = .ok (.aaload, 1) := by decide +kernel
theorem dX10_cost_12 : decode cX10_cost 12 = .ok (.invokevirtual 269, 3) := by decide +kernel
theorem dX10_cost_15 : decode cX10_cost 15 = .ok (.aload_n 0, 1) := by decide +kernel
theorem dX10_cost_16 : decode cX10_cost 16 = .ok (.getfield 78, 3) := by decide +kernel
theorem dX10_cost_19 : decode cX10_cost 19 = .ok (.invokevirtual 278, 3) := by decide +kernel
theorem dX10_cost_22 : decode cX10_cost 22 = .ok (.ireturn, 1) := by decide +kernel
theorem dX10_leastCost_0 : decode cX10_leastCost 0 = .ok (.aload_n 0, 1) := by decide +kernel
theorem dX10_leastCost_1 : decode cX10_leastCost 1 = .ok (.iload_n 1, 1) := by decide +kernel
theorem dX10_leastCost_2 : decode cX10_leastCost 2 = .ok (.invokevirtual 176, 3) := by decide +kernel
theorem dX10_leastCost_5 : decode cX10_leastCost 5 = .ok (.aload_n 0, 1) := by decide +kernel
theorem dX10_leastCost_6 : decode cX10_leastCost 6 = .ok (.aload_n 0, 1) := by decide +kernel
theorem dX10_leastCost_7 : decode cX10_leastCost 7 = .ok (.getfield 29, 3) := by decide +kernel
theorem dX10_leastCost_10 : decode cX10_leastCost 10 = .ok (.iload_n 1, 1) := by decide +kernel
theorem dX10_leastCost_11 : decode cX10_leastCost 11 = .ok (.aaload, 1) := by decide +kernel
theorem dX10_leastCost_12 : decode cX10_leastCost 12 = .ok (.invokevirtual 203, 3) := by decide +kernel
theorem dX10_leastCost_15 : decode cX10_leastCost 15 = .ok (.aload_n 0, 1) := by decide +kernel
theorem dX10_leastCost_16 : decode cX10_leastCost 16 = .ok (.getfield 78, 3) := by decide +kernel
theorem dX10_leastCost_19 : decode cX10_leastCost 19 = .ok (.aload_n 0, 1) := by decide +kernel
theorem dX10_leastCost_20 : decode cX10_leastCost 20 = .ok (.getfield 54, 3) := by decide +kernel
theorem dX10_leastCost_23 : decode cX10_leastCost 23 = .ok (.aload_n 0, 1) := by decide +kernel
theorem dX10_leastCost_24 : decode cX10_leastCost 24 = .ok (.getfield 12, 3) := by decide +kernel
theorem dX10_leastCost_27 : decode cX10_leastCost 27 = .ok (.getfield 212, 3) := by decide +kernel
theorem dX10_leastCost_30 : decode cX10_leastCost 30 = .ok (.invokevirtual 282, 3) := by decide +kernel
theorem dX10_leastCost_33 : decode cX10_leastCost 33 = .ok (.aload_n 0, 1) := by decide +kernel
theorem dX10_leastCost_34 : decode cX10_leastCost 34 = .ok (.getfield 78, 3) := by decide +kernel
theorem dX10_leastCost_37 : decode cX10_leastCost 37 = .ok (.getfield 286, 3) := by decide +kernel
theorem dX10_leastCost_40 : decode cX10_leastCost 40 = .ok (.invokestatic 290, 3) := by decide +kernel
theorem dX10_leastCost_43 : decode cX10_leastCost 43 = .ok (.bipush 10, 2) := by decide +kernel
theorem dX10_leastCost_45 : decode cX10_leastCost 45 = .ok (.if_icmp .le 14, 3) := by decide +kernel
theorem dX10_leastCost_48 : decode cX10_leastCost 48 = .ok (.new 99, 3) := by decide +kernel
theorem dX10_leastCost_51 : decode cX10_leastCost 51 = .ok (.dup, 1) := by decide +kernel
theorem dX10_leastCost_52 : decode cX10_leastCost 52 = .ok (.ldc_w 295, 3) := by decide +kernel
theorem dX10_leastCost_55 : decode cX10_leastCost 55 = .ok (.invokespecial 103, 3) := by decide +kernel
theorem dX10_leastCost_58 : decode cX10_leastCost 58 = .ok (.athrow, 1) := by decide +kernel
theorem dX10_leastCost_59 : decode cX10_leastCost 59 = .ok (.aload_n 0, 1) := by decide +kernel
theorem dX10_leastCost_60 : decode cX10_leastCost 60 = .ok (.getfield 78, 3) := by decide +kernel
theorem dX10_leastCost_63 : decode cX10_leastCost 63 = .ok (.invokevirtual 297, 3) := by decide +kernel
theorem dX10_leastCost_66 : decode cX10_leastCost 66 = .ok (.ireturn, 1) := by decide +kernel
theorem dX10_key_0 : decode cX10_key 0 = .ok (.aload_n 0, 1) := by decide +kernel
theorem dX10_key_1 : decode cX10_key 1 = .ok (.iload_n 1, 1) := by decide +kernel
theorem dX10_key_2 : decode cX10_key 2 = .ok (.invokevirtual 176, 3) := by decide +kernel
theorem dX10_key_5 : decode cX10_key 5 = .ok (.aload_n 0, 1) := by decide +kernel
theorem dX10_key_6 : decode cX10_key 6 = .ok (.iload_n 2, 1) := by decide +kernel
theorem dX10_key_7 : decode cX10_key 7 = .ok (.invokevirtual 230, 3) := by decide +kernel
theorem dX10_key_10 : decode cX10_key 10 = .ok (.iload_n 3, 1) := by decide +kernel
theorem dX10_key_11 : decode cX10_key 11 = .ok (.ifCond .lt 9, 3) := by decide +kernel
theorem dX10_key_14 : decode cX10_key 14 = .ok (.iload_n 3, 1) := by decide +kernel
theorem dX10_key_15 : decode cX10_key 15 = .ok (.bipush 50, 2) := by decide +kernel
theorem dX10_key_17 : decode cX10_key 17 = .ok (.if_icmp .lt 14, 3) := by decide +kernel
theorem dX10_key_20 : decode cX10_key 20 = .ok (.new 132, 3) := by decide +kernel
theorem dX10_key_23 : decode cX10_key 23 = .ok (.dup, 1) := by decide +kernel
theorem dX10_key_24 : decode cX10_key 24 = .ok (.ldc_w 300, 3) := by decide +kernel
theorem dX10_key_27 : decode cX10_key 27 = .ok (.invokespecial 136, 3) := by decide +kernel
theorem dX10_key_30 : decode cX10_key 30 = .ok (.athrow, 1) := by decide +kernel
theorem dX10_key_31 : decode cX10_key 31 = .ok (.aload_n 0, 1) := by decide +kernel
theorem dX10_key_32 : decode cX10_key 32 = .ok (.getfield 29, 3) := by decide +kernel
theorem dX10_key_35 : decode cX10_key 35 = .ok (.iload_n 1, 1) := by decide +kernel
theorem dX10_key_36 : decode cX10_key 36 = .ok (.aaload, 1) := by decide +kernel
theorem dX10_key_37 : decode cX10_key 37 = .ok (.iload_n 2, 1) := by decide +kernel
theorem dX10_key_38 : decode cX10_key 38 = .ok (.iload_n 3, 1) := by decide +kernel
theorem dX10_key_39 : decode cX10_key 39 = .ok (.invokevirtual 302, 3) := by decide +kernel
theorem dX10_key_42 : decode cX10_key 42 = .ok (.ireturn, 1) := by decide +kernel
theorem dX10_travel_0 : decode cX10_travel 0 = .ok (.aload_n 0, 1) := by decide +kernel
theorem dX10_travel_1 : decode cX10_travel 1 = .ok (.iload_n 1, 1) := by decide +kernel
theorem dX10_travel_2 : decode cX10_travel 2 = .ok (.invokevirtual 176, 3) := by decide +kernel
theorem dX10_travel_5 : decode cX10_travel 5 = .ok (.aload_n 0, 1) := by decide +kernel
theorem dX10_travel_6 : decode cX10_travel 6 = .ok (.aload_n 0, 1) := by decide +kernel
theorem dX10_travel_7 : decode cX10_travel 7 = .ok (.getfield 29, 3) := by decide +kernel
theorem dX10_travel_10 : decode cX10_travel 10 = .ok (.iload_n 1, 1) := by decide +kernel
theorem dX10_travel_11 : decode cX10_travel 11 = .ok (.aaload, 1) := by decide +kernel
theorem dX10_travel_12 : decode cX10_travel 12 = .ok (.invokevirtual 203, 3) := by decide +kernel
theorem dX10_travel_15 : decode cX10_travel 15 = .ok (.iconst 0, 1) := by decide +kernel
theorem dX10_travel_16 : decode cX10_travel 16 = .ok (.istore_n 2, 1) := by decide +kernel
theorem dX10_travel_17 : decode cX10_travel 17 = .ok (.iconst 0, 1) := by decide +kernel
theorem dX10_travel_18 : decode cX10_travel 18 = .ok (.istore_n 3, 1) := by decide +kernel
theorem dX10_travel_19 : decode cX10_travel 19 = .ok (.iload_n 3, 1) := by decide +kernel
theorem dX10_travel_20 : decode cX10_travel 20 = .ok (.aload_n 0, 1) := by decide +kernel
theorem dX10_travel_21 : decode cX10_travel 21 = .ok (.getfield 12, 3) := by decide +kernel
theorem dX10_travel_24 : decode cX10_travel 24 = .ok (.getfield 112, 3) := by decide +kernel
theorem dX10_travel_27 : decode cX10_travel 27 = .ok (.if_icmp .ge 53, 3) := by decide +kernel
theorem dX10_travel_30 : decode cX10_travel 30 = .ok (.aload_n 0, 1) := by decide +kernel
theorem dX10_travel_31 : decode cX10_travel 31 = .ok (.getfield 29, 3) := by decide +kernel
theorem dX10_travel_34 : decode cX10_travel 34 = .ok (.iload_n 1, 1) := by decide +kernel
theorem dX10_travel_35 : decode cX10_travel 35 = .ok (.aaload, 1) := by decide +kernel
theorem dX10_travel_36 : decode cX10_travel 36 = .ok (.aload_n 0, 1) := by decide +kernel
theorem dX10_travel_37 : decode cX10_travel 37 = .ok (.getfield 54, 3) := by decide +kernel
theorem dX10_travel_40 : decode cX10_travel 40 = .ok (.getfield 208, 3) := by decide +kernel
theorem dX10_travel_43 : decode cX10_travel 43 = .ok (.iload_n 3, 1) := by decide +kernel
theorem dX10_travel_44 : decode cX10_travel 44 = .ok (.aaload, 1) := by decide +kernel
theorem dX10_travel_45 : decode cX10_travel 45 = .ok (.aload_n 0, 1) := by decide +kernel
theorem dX10_travel_46 : decode cX10_travel 46 = .ok (.getfield 54, 3) := by decide +kernel
theorem dX10_travel_49 : decode cX10_travel 49 = .ok (.getfield 207, 3) := by decide +kernel
theorem dX10_travel_52 : decode cX10_travel 52 = .ok (.iload_n 3, 1) := by decide +kernel
theorem dX10_travel_53 : decode cX10_travel 53 = .ok (.iaload, 1) := by decide +kernel
theorem dX10_travel_54 : decode cX10_travel 54 = .ok (.invokevirtual 305, 3) := by decide +kernel
theorem dX10_travel_57 : decode cX10_travel 57 = .ok (.istore 4, 2) := by decide +kernel
theorem dX10_travel_59 : decode cX10_travel 59 = .ok (.iload_n 2, 1) := by decide +kernel
theorem dX10_travel_60 : decode cX10_travel 60 = .ok (.aload_n 0, 1) := by decide +kernel
theorem dX10_travel_61 : decode cX10_travel 61 = .ok (.getfield 12, 3) := by decide +kernel
theorem dX10_travel_64 : decode cX10_travel 64 = .ok (.getfield 212, 3) := by decide +kernel
theorem dX10_travel_67 : decode cX10_travel 67 = .ok (.iload_n 3, 1) := by decide +kernel
theorem dX10_travel_68 : decode cX10_travel 68 = .ok (.iaload, 1) := by decide +kernel
theorem dX10_travel_69 : decode cX10_travel 69 = .ok (.iload 4, 2) := by decide +kernel
theorem dX10_travel_71 : decode cX10_travel 71 = .ok (.imul, 1) := by decide +kernel
theorem dX10_travel_72 : decode cX10_travel 72 = .ok (.iadd, 1) := by decide +kernel
theorem dX10_travel_73 : decode cX10_travel 73 = .ok (.istore_n 2, 1) := by decide +kernel
theorem dX10_travel_74 : decode cX10_travel 74 = .ok (.iinc 3 1, 3) := by decide +kernel
theorem dX10_travel_77 : decode cX10_travel 77 = .ok (.goto (-58), 3) := by decide +kernel
theorem dX10_travel_80 : decode cX10_travel 80 = .ok (.iload_n 2, 1) := by decide +kernel
theorem dX10_travel_81 : decode cX10_travel 81 = .ok (.ireturn, 1) := by decide +kernel
theorem dX10_exchange_0 : decode cX10_exchange 0 = .ok (.aload_n 0, 1) := by decide +kernel
theorem dX10_exchange_1 : decode cX10_exchange 1 = .ok (.iload_n 1, 1) := by decide +kernel
theorem dX10_exchange_2 : decode cX10_exchange 2 = .ok (.invokevirtual 176, 3) := by decide +kernel
theorem dX10_exchange_5 : decode cX10_exchange 5 = .ok (.aload_n 0, 1) := by decide +kernel
theorem dX10_exchange_6 : decode cX10_exchange 6 = .ok (.aload_n 0, 1) := by decide +kernel
theorem dX10_exchange_7 : decode cX10_exchange 7 = .ok (.getfield 29, 3) := by decide +kernel
theorem dX10_exchange_10 : decode cX10_exchange 10 = .ok (.iload_n 1, 1) := by decide +kernel
theorem dX10_exchange_11 : decode cX10_exchange 11 = .ok (.aaload, 1) := by decide +kernel
theorem dX10_exchange_12 : decode cX10_exchange 12 = .ok (.invokevirtual 203, 3) := by decide +kernel
theorem dX10_exchange_15 : decode cX10_exchange 15 = .ok (.aload_n 0, 1) := by decide +kernel
theorem dX10_exchange_16 : decode cX10_exchange 16 = .ok (.getfield 85, 3) := by decide +kernel
theorem dX10_exchange_19 : decode cX10_exchange 19 = .ok (.aload_n 0, 1) := by decide +kernel
theorem dX10_exchange_20 : decode cX10_exchange 20 = .ok (.getfield 54, 3) := by decide +kernel
theorem dX10_exchange_23 : decode cX10_exchange 23 = .ok (.aload_n 0, 1) := by decide +kernel
theorem dX10_exchange_24 : decode cX10_exchange 24 = .ok (.getfield 12, 3) := by decide +kernel
theorem dX10_exchange_27 : decode cX10_exchange 27 = .ok (.getfield 212, 3) := by decide +kernel
theorem dX10_exchange_30 : decode cX10_exchange 30 = .ok (.invokevirtual 309, 3) := by decide +kernel
theorem dX10_exchange_33 : decode cX10_exchange 33 = .ok (.aload_n 0, 1) := by decide +kernel
theorem dX10_exchange_34 : decode cX10_exchange 34 = .ok (.getfield 85, 3) := by decide +kernel
theorem dX10_exchange_37 : decode cX10_exchange 37 = .ok (.aload_n 0, 1) := by decide +kernel
theorem dX10_exchange_38 : decode cX10_exchange 38 = .ok (.getfield 54, 3) := by decide +kernel
theorem dX10_exchange_41 : decode cX10_exchange 41 = .ok (.invokevirtual 258, 3) := by decide +kernel
theorem dX10_exchange_44 : decode cX10_exchange 44 = .ok (.aload_n 0, 1) := by decide +kernel
theorem dX10_exchange_45 : decode cX10_exchange 45 = .ok (.getfield 29, 3) := by decide +kernel
theorem dX10_exchange_48 : decode cX10_exchange 48 = .ok (.iload_n 1, 1) := by decide +kernel
theorem dX10_exchange_49 : decode cX10_exchange 49 = .ok (.aaload, 1) := by decide +kernel
theorem dX10_exchange_50 : decode cX10_exchange 50 = .ok (.getfield 310, 3) := by decide +kernel
theorem dX10_exchange_53 : decode cX10_exchange 53 = .ok (.invokevirtual 313, 3) := by decide +kernel
theorem dX10_exchange_56 : decode cX10_exchange 56 = .ok (.ireturn, 1) := by decide +kernel
theorem dX10_group_0 : decode cX10_group 0 = .ok (.aload_n 0, 1) := by decide +kernel
theorem dX10_group_1 : decode cX10_group 1 = .ok (.iload_n 1, 1) := by decide +kernel
theorem dX10_group_2 : decode cX10_group 2 = .ok (.invokevirtual 317, 3) := by decide +kernel
theorem dX10_group_5 : decode cX10_group 5 = .ok (.aload_n 0, 1) := by decide +kernel
theorem dX10_group_6 : decode cX10_group 6 = .ok (.iload 4, 2) := by decide +kernel
theorem dX10_group_8 : decode cX10_group 8 = .ok (.invokevirtual 128, 3) := by decide +kernel
theorem dX10_group_11 : decode cX10_group 11 = .ok (.iload_n 2, 1) := by decide +kernel
theorem dX10_group_12 : decode cX10_group 12 = .ok (.ifCond .lt 10, 3) := by decide +kernel
theorem dX10_group_15 : decode cX10_group 15 = .ok (.iload_n 2, 1) := by decide +kernel
theorem dX10_group_16 : decode cX10_group 16 = .ok (.sipush 999, 3) := by decide +kernel
theorem dX10_group_19 : decode cX10_group 19 = .ok (.if_icmp .le 14, 3) := by decide +kernel
theorem dX10_group_22 : decode cX10_group 22 = .ok (.new 89, 3) := by decide +kernel
theorem dX10_group_25 : decode cX10_group 25 = .ok (.dup, 1) := by decide +kernel
theorem dX10_group_26 : decode cX10_group 26 = .ok (.ldc_w 320, 3) := by decide +kernel
theorem dX10_group_29 : decode cX10_group 29 = .ok (.invokespecial 93, 3) := by decide +kernel
theorem dX10_group_32 : decode cX10_group 32 = .ok (.athrow, 1) := by decide +kernel
theorem dX10_group_33 : decode cX10_group 33 = .ok (.iload_n 3, 1) := by decide +kernel
theorem dX10_group_34 : decode cX10_group 34 = .ok (.ifCond .lt 10, 3) := by decide +kernel
theorem dX10_group_37 : decode cX10_group 37 = .ok (.iload_n 3, 1) := by decide +kernel
theorem dX10_group_38 : decode cX10_group 38 = .ok (.sipush 999, 3) := by decide +kernel
theorem dX10_group_41 : decode cX10_group 41 = .ok (.if_icmp .le 14, 3) := by decide +kernel
theorem dX10_group_44 : decode cX10_group 44 = .ok (.new 89, 3) := by decide +kernel
theorem dX10_group_47 : decode cX10_group 47 = .ok (.dup, 1) := by decide +kernel
theorem dX10_group_48 : decode cX10_group 48 = .ok (.ldc_w 322, 3) := by decide +kernel
theorem dX10_group_51 : decode cX10_group 51 = .ok (.invokespecial 93, 3) := by decide +kernel
theorem dX10_group_54 : decode cX10_group 54 = .ok (.athrow, 1) := by decide +kernel
theorem dX10_group_55 : decode cX10_group 55 = .ok (.aload_n 0, 1) := by decide +kernel
theorem dX10_group_56 : decode cX10_group 56 = .ok (.getfield 47, 3) := by decide +kernel
theorem dX10_group_59 : decode cX10_group 59 = .ok (.getfield 324, 3) := by decide +kernel
theorem dX10_group_62 : decode cX10_group 62 = .ok (.iload_n 1, 1) := by decide +kernel
theorem dX10_group_63 : decode cX10_group 63 = .ok (.iaload, 1) := by decide +kernel
theorem dX10_group_64 : decode cX10_group 64 = .ok (.istore 5, 2) := by decide +kernel
theorem dX10_group_66 : decode cX10_group 66 = .ok (.aload_n 0, 1) := by decide +kernel
theorem dX10_group_67 : decode cX10_group 67 = .ok (.getfield 47, 3) := by decide +kernel
theorem dX10_group_70 : decode cX10_group 70 = .ok (.getfield 324, 3) := by decide +kernel
theorem dX10_group_73 : decode cX10_group 73 = .ok (.iload_n 1, 1) := by decide +kernel
theorem dX10_group_74 : decode cX10_group 74 = .ok (.iload_n 2, 1) := by decide +kernel
theorem dX10_group_75 : decode cX10_group 75 = .ok (.iastore, 1) := by decide +kernel
theorem dX10_group_76 : decode cX10_group 76 = .ok (.aload_n 0, 1) := by decide +kernel
theorem dX10_group_77 : decode cX10_group 77 = .ok (.getfield 47, 3) := by decide +kernel
theorem dX10_group_80 : decode cX10_group 80 = .ok (.getfield 327, 3) := by decide +kernel
theorem dX10_group_83 : decode cX10_group 83 = .ok (.iload_n 1, 1) := by decide +kernel
theorem dX10_group_84 : decode cX10_group 84 = .ok (.iload_n 3, 1) := by decide +kernel
theorem dX10_group_85 : decode cX10_group 85 = .ok (.iastore, 1) := by decide +kernel
theorem dX10_group_86 : decode cX10_group 86 = .ok (.aload_n 0, 1) := by decide +kernel
theorem dX10_group_87 : decode cX10_group 87 = .ok (.getfield 47, 3) := by decide +kernel
theorem dX10_group_90 : decode cX10_group 90 = .ok (.getfield 330, 3) := by decide +kernel
theorem dX10_group_93 : decode cX10_group 93 = .ok (.iload_n 1, 1) := by decide +kernel
theorem dX10_group_94 : decode cX10_group 94 = .ok (.iload 4, 2) := by decide +kernel
theorem dX10_group_96 : decode cX10_group 96 = .ok (.iastore, 1) := by decide +kernel
theorem dX10_group_97 : decode cX10_group 97 = .ok (.iload 5, 2) := by decide +kernel
theorem dX10_group_99 : decode cX10_group 99 = .ok (.ireturn, 1) := by decide +kernel
theorem dX10_score_0 : decode cX10_score 0 = .ok (.aload_n 0, 1) := by decide +kernel
theorem dX10_score_1 : decode cX10_score 1 = .ok (.iload_n 1, 1) := by decide +kernel
theorem dX10_score_2 : decode cX10_score 2 = .ok (.invokevirtual 317, 3) := by decide +kernel
theorem dX10_score_5 : decode cX10_score 5 = .ok (.aload_n 0, 1) := by decide +kernel
theorem dX10_score_6 : decode cX10_score 6 = .ok (.iload_n 2, 1) := by decide +kernel
theorem dX10_score_7 : decode cX10_score 7 = .ok (.invokevirtual 176, 3) := by decide +kernel
theorem dX10_score_10 : decode cX10_score 10 = .ok (.aload_n 0, 1) := by decide +kernel
theorem dX10_score_11 : decode cX10_score 11 = .ok (.iload_n 1, 1) := by decide +kernel
theorem dX10_score_12 : decode cX10_score 12 = .ok (.aload_n 0, 1) := by decide +kernel
theorem dX10_score_13 : decode cX10_score 13 = .ok (.getfield 29, 3) := by decide +kernel
theorem dX10_score_16 : decode cX10_score 16 = .ok (.iload_n 2, 1) := by decide +kernel
theorem dX10_score_17 : decode cX10_score 17 = .ok (.aaload, 1) := by decide +kernel
theorem dX10_score_18 : decode cX10_score 18 = .ok (.invokevirtual 332, 3) := by decide +kernel
theorem dX10_score_21 : decode cX10_score 21 = .ok (.ireturn, 1) := by decide +kernel
theorem dX10_votes_0 : decode cX10_votes 0 = .ok (.aload_n 0, 1) := by decide +kernel
theorem dX10_votes_1 : decode cX10_votes 1 = .ok (.iload_n 1, 1) := by decide +kernel
theorem dX10_votes_2 : decode cX10_votes 2 = .ok (.invokevirtual 176, 3) := by decide +kernel
theorem dX10_votes_5 : decode cX10_votes 5 = .ok (.aload_n 0, 1) := by decide +kernel
theorem dX10_votes_6 : decode cX10_votes 6 = .ok (.invokevirtual 336, 3) := by decide +kernel
theorem dX10_votes_9 : decode cX10_votes 9 = .ok (.aload_n 0, 1) := by decide +kernel
theorem dX10_votes_10 : decode cX10_votes 10 = .ok (.getfield 47, 3) := by decide +kernel
theorem dX10_votes_13 : decode cX10_votes 13 = .ok (.invokevirtual 339, 3) := by decide +kernel
theorem dX10_votes_16 : decode cX10_votes 16 = .ok (.aload_n 0, 1) := by decide +kernel
theorem dX10_votes_17 : decode cX10_votes 17 = .ok (.getfield 47, 3) := by decide +kernel
theorem dX10_votes_20 : decode cX10_votes 20 = .ok (.getfield 342, 3) := by decide +kernel
theorem dX10_votes_23 : decode cX10_votes 23 = .ok (.iload_n 1, 1) := by decide +kernel
theorem dX10_votes_24 : decode cX10_votes 24 = .ok (.iaload, 1) := by decide +kernel
theorem dX10_votes_25 : decode cX10_votes 25 = .ok (.ireturn, 1) := by decide +kernel
theorem dX10_elected_0 : decode cX10_elected 0 = .ok (.aload_n 0, 1) := by decide +kernel
theorem dX10_elected_1 : decode cX10_elected 1 = .ok (.getfield 33, 3) := by decide +kernel
theorem dX10_elected_4 : decode cX10_elected 4 = .ok (.ifCond .ne 14, 3) := by decide +kernel
theorem dX10_elected_7 : decode cX10_elected 7 = .ok (.new 99, 3) := by decide +kernel
theorem dX10_elected_10 : decode cX10_elected 10 = .ok (.dup, 1) := by decide +kernel
theorem dX10_elected_11 : decode cX10_elected 11 = .ok (.ldc_w 345, 3) := by decide +kernel
theorem dX10_elected_14 : decode cX10_elected 14 = .ok (.invokespecial 103, 3) := by decide +kernel
theorem dX10_elected_17 : decode cX10_elected 17 = .ok (.athrow, 1) := by decide +kernel
theorem dX10_elected_18 : decode cX10_elected 18 = .ok (.aload_n 0, 1) := by decide +kernel
theorem dX10_elected_19 : decode cX10_elected 19 = .ok (.getfield 47, 3) := by decide +kernel
theorem dX10_elected_22 : decode cX10_elected 22 = .ok (.invokevirtual 347, 3) := by decide +kernel
theorem dX10_elected_25 : decode cX10_elected 25 = .ok (.ifCond .ne 5, 3) := by decide +kernel
theorem dX10_elected_28 : decode cX10_elected 28 = .ok (.iconst (-1), 1) := by decide +kernel
theorem dX10_elected_29 : decode cX10_elected 29 = .ok (.ireturn, 1) := by decide +kernel
theorem dX10_elected_30 : decode cX10_elected 30 = .ok (.aload_n 0, 1) := by decide +kernel
theorem dX10_elected_31 : decode cX10_elected 31 = .ok (.invokevirtual 336, 3) := by decide +kernel
theorem dX10_elected_34 : decode cX10_elected 34 = .ok (.aload_n 0, 1) := by decide +kernel
theorem dX10_elected_35 : decode cX10_elected 35 = .ok (.getfield 47, 3) := by decide +kernel
theorem dX10_elected_38 : decode cX10_elected 38 = .ok (.invokevirtual 350, 3) := by decide +kernel
theorem dX10_elected_41 : decode cX10_elected 41 = .ok (.ireturn, 1) := by decide +kernel
theorem dX10_reform_0 : decode cX10_reform 0 = .ok (.aload_n 0, 1) := by decide +kernel
theorem dX10_reform_1 : decode cX10_reform 1 = .ok (.iload_n 1, 1) := by decide +kernel
theorem dX10_reform_2 : decode cX10_reform 2 = .ok (.invokevirtual 176, 3) := by decide +kernel
theorem dX10_reform_5 : decode cX10_reform 5 = .ok (.aload_n 0, 1) := by decide +kernel
theorem dX10_reform_6 : decode cX10_reform 6 = .ok (.iload_n 2, 1) := by decide +kernel
theorem dX10_reform_7 : decode cX10_reform 7 = .ok (.invokevirtual 176, 3) := by decide +kernel
theorem dX10_reform_10 : decode cX10_reform 10 = .ok (.aload_n 0, 1) := by decide +kernel
theorem dX10_reform_11 : decode cX10_reform 11 = .ok (.iload_n 1, 1) := by decide +kernel
theorem dX10_reform_12 : decode cX10_reform 12 = .ok (.iload_n 2, 1) := by decide +kernel
theorem dX10_reform_13 : decode cX10_reform 13 = .ok (.invokevirtual 353, 3) := by decide +kernel
theorem dX10_reform_16 : decode cX10_reform 16 = .ok (.iconst 0, 1) := by decide +kernel
theorem dX10_reform_17 : decode cX10_reform 17 = .ok (.istore_n 3, 1) := by decide +kernel
theorem dX10_reform_18 : decode cX10_reform 18 = .ok (.iconst 0, 1) := by decide +kernel
theorem dX10_reform_19 : decode cX10_reform 19 = .ok (.istore 4, 2) := by decide +kernel
theorem dX10_reform_21 : decode cX10_reform 21 = .ok (.iload 4, 2) := by decide +kernel
theorem dX10_reform_23 : decode cX10_reform 23 = .ok (.aload_n 0, 1) := by decide +kernel
theorem dX10_reform_24 : decode cX10_reform 24 = .ok (.getfield 12, 3) := by decide +kernel
theorem dX10_reform_27 : decode cX10_reform 27 = .ok (.getfield 112, 3) := by decide +kernel
theorem dX10_reform_30 : decode cX10_reform 30 = .ok (.if_icmp .ge 74, 3) := by decide +kernel
theorem dX10_reform_33 : decode cX10_reform 33 = .ok (.aload_n 0, 1) := by decide +kernel
theorem dX10_reform_34 : decode cX10_reform 34 = .ok (.getfield 64, 3) := by decide +kernel
theorem dX10_reform_37 : decode cX10_reform 37 = .ok (.aload_n 0, 1) := by decide +kernel
theorem dX10_reform_38 : decode cX10_reform 38 = .ok (.getfield 54, 3) := by decide +kernel
theorem dX10_reform_41 : decode cX10_reform 41 = .ok (.getfield 208, 3) := by decide +kernel
theorem dX10_reform_44 : decode cX10_reform 44 = .ok (.iload 4, 2) := by decide +kernel
theorem dX10_reform_46 : decode cX10_reform 46 = .ok (.aaload, 1) := by decide +kernel
theorem dX10_reform_47 : decode cX10_reform 47 = .ok (.aload_n 0, 1) := by decide +kernel
theorem dX10_reform_48 : decode cX10_reform 48 = .ok (.getfield 54, 3) := by decide +kernel
theorem dX10_reform_51 : decode cX10_reform 51 = .ok (.getfield 207, 3) := by decide +kernel
theorem dX10_reform_54 : decode cX10_reform 54 = .ok (.iload 4, 2) := by decide +kernel
theorem dX10_reform_56 : decode cX10_reform 56 = .ok (.iaload, 1) := by decide +kernel
theorem dX10_reform_57 : decode cX10_reform 57 = .ok (.aload_n 0, 1) := by decide +kernel
theorem dX10_reform_58 : decode cX10_reform 58 = .ok (.getfield 58, 3) := by decide +kernel
theorem dX10_reform_61 : decode cX10_reform 61 = .ok (.getfield 208, 3) := by decide +kernel
theorem dX10_reform_64 : decode cX10_reform 64 = .ok (.iload 4, 2) := by decide +kernel
theorem dX10_reform_66 : decode cX10_reform 66 = .ok (.aaload, 1) := by decide +kernel
theorem dX10_reform_67 : decode cX10_reform 67 = .ok (.aload_n 0, 1) := by decide +kernel
theorem dX10_reform_68 : decode cX10_reform 68 = .ok (.getfield 58, 3) := by decide +kernel
theorem dX10_reform_71 : decode cX10_reform 71 = .ok (.getfield 207, 3) := by decide +kernel
theorem dX10_reform_74 : decode cX10_reform 74 = .ok (.iload 4, 2) := by decide +kernel
theorem dX10_reform_76 : decode cX10_reform 76 = .ok (.iaload, 1) := by decide +kernel
theorem dX10_reform_77 : decode cX10_reform 77 = .ok (.invokevirtual 356, 3) := by decide +kernel
theorem dX10_reform_80 : decode cX10_reform 80 = .ok (.istore 5, 2) := by decide +kernel
theorem dX10_reform_82 : decode cX10_reform 82 = .ok (.iload_n 3, 1) := by decide +kernel
theorem dX10_reform_83 : decode cX10_reform 83 = .ok (.aload_n 0, 1) := by decide +kernel
theorem dX10_reform_84 : decode cX10_reform 84 = .ok (.getfield 12, 3) := by decide +kernel
theorem dX10_reform_87 : decode cX10_reform 87 = .ok (.getfield 212, 3) := by decide +kernel
theorem dX10_reform_90 : decode cX10_reform 90 = .ok (.iload 4, 2) := by decide +kernel
theorem dX10_reform_92 : decode cX10_reform 92 = .ok (.iaload, 1) := by decide +kernel
theorem dX10_reform_93 : decode cX10_reform 93 = .ok (.iload 5, 2) := by decide +kernel
theorem dX10_reform_95 : decode cX10_reform 95 = .ok (.imul, 1) := by decide +kernel
theorem dX10_reform_96 : decode cX10_reform 96 = .ok (.iadd, 1) := by decide +kernel
theorem dX10_reform_97 : decode cX10_reform 97 = .ok (.istore_n 3, 1) := by decide +kernel
theorem dX10_reform_98 : decode cX10_reform 98 = .ok (.iinc 4 1, 3) := by decide +kernel
theorem dX10_reform_101 : decode cX10_reform 101 = .ok (.goto (-80), 3) := by decide +kernel
theorem dX10_reform_104 : decode cX10_reform 104 = .ok (.iload_n 3, 1) := by decide +kernel
theorem dX10_reform_105 : decode cX10_reform 105 = .ok (.ireturn, 1) := by decide +kernel
theorem dX10_lost_0 : decode cX10_lost 0 = .ok (.aload_n 0, 1) := by decide +kernel
theorem dX10_lost_1 : decode cX10_lost 1 = .ok (.iload_n 1, 1) := by decide +kernel
theorem dX10_lost_2 : decode cX10_lost 2 = .ok (.invokevirtual 176, 3) := by decide +kernel
theorem dX10_lost_5 : decode cX10_lost 5 = .ok (.aload_n 0, 1) := by decide +kernel
theorem dX10_lost_6 : decode cX10_lost 6 = .ok (.iload_n 2, 1) := by decide +kernel
theorem dX10_lost_7 : decode cX10_lost 7 = .ok (.invokevirtual 176, 3) := by decide +kernel
theorem dX10_lost_10 : decode cX10_lost 10 = .ok (.aload_n 0, 1) := by decide +kernel
theorem dX10_lost_11 : decode cX10_lost 11 = .ok (.iload_n 1, 1) := by decide +kernel
theorem dX10_lost_12 : decode cX10_lost 12 = .ok (.iload_n 2, 1) := by decide +kernel
theorem dX10_lost_13 : decode cX10_lost 13 = .ok (.invokevirtual 353, 3) := by decide +kernel
theorem dX10_lost_16 : decode cX10_lost 16 = .ok (.iconst 0, 1) := by decide +kernel
theorem dX10_lost_17 : decode cX10_lost 17 = .ok (.istore_n 3, 1) := by decide +kernel
theorem dX10_lost_18 : decode cX10_lost 18 = .ok (.iconst 0, 1) := by decide +kernel
theorem dX10_lost_19 : decode cX10_lost 19 = .ok (.istore 4, 2) := by decide +kernel
theorem dX10_lost_21 : decode cX10_lost 21 = .ok (.iload 4, 2) := by decide +kernel
theorem dX10_lost_23 : decode cX10_lost 23 = .ok (.aload_n 0, 1) := by decide +kernel
theorem dX10_lost_24 : decode cX10_lost 24 = .ok (.getfield 12, 3) := by decide +kernel
theorem dX10_lost_27 : decode cX10_lost 27 = .ok (.getfield 112, 3) := by decide +kernel
theorem dX10_lost_30 : decode cX10_lost 30 = .ok (.if_icmp .ge 31, 3) := by decide +kernel
theorem dX10_lost_33 : decode cX10_lost 33 = .ok (.aload_n 0, 1) := by decide +kernel
theorem dX10_lost_34 : decode cX10_lost 34 = .ok (.iload 4, 2) := by decide +kernel
theorem dX10_lost_36 : decode cX10_lost 36 = .ok (.invokevirtual 359, 3) := by decide +kernel
theorem dX10_lost_39 : decode cX10_lost 39 = .ok (.ifCond .eq 16, 3) := by decide +kernel
theorem dX10_lost_42 : decode cX10_lost 42 = .ok (.iload_n 3, 1) := by decide +kernel
theorem dX10_lost_43 : decode cX10_lost 43 = .ok (.aload_n 0, 1) := by decide +kernel
theorem dX10_lost_44 : decode cX10_lost 44 = .ok (.getfield 12, 3) := by decide +kernel
theorem dX10_lost_47 : decode cX10_lost 47 = .ok (.getfield 212, 3) := by decide +kernel
theorem dX10_lost_50 : decode cX10_lost 50 = .ok (.iload 4, 2) := by decide +kernel
theorem dX10_lost_52 : decode cX10_lost 52 = .ok (.iaload, 1) := by decide +kernel
theorem dX10_lost_53 : decode cX10_lost 53 = .ok (.iadd, 1) := by decide +kernel
theorem dX10_lost_54 : decode cX10_lost 54 = .ok (.istore_n 3, 1) := by decide +kernel
theorem dX10_lost_55 : decode cX10_lost 55 = .ok (.iinc 4 1, 3) := by decide +kernel
theorem dX10_lost_58 : decode cX10_lost 58 = .ok (.goto (-37), 3) := by decide +kernel
theorem dX10_lost_61 : decode cX10_lost 61 = .ok (.iload_n 3, 1) := by decide +kernel
theorem dX10_lost_62 : decode cX10_lost 62 = .ok (.ireturn, 1) := by decide +kernel
theorem dX10_requireDialect_0 : decode cX10_requireDialect 0 = .ok (.iload_n 1, 1) := by decide +kernel
theorem dX10_requireDialect_1 : decode cX10_requireDialect 1 = .ok (.ifCond .lt 8, 3) := by decide +kernel
theorem dX10_requireDialect_4 : decode cX10_requireDialect 4 = .ok (.iload_n 1, 1) := by decide +kernel
theorem dX10_requireDialect_5 : decode cX10_requireDialect 5 = .ok (.iconst 3, 1) := by decide +kernel
theorem dX10_requireDialect_6 : decode cX10_requireDialect 6 = .ok (.if_icmp .lt 14, 3) := by decide +kernel
theorem dX10_requireDialect_9 : decode cX10_requireDialect 9 = .ok (.new 132, 3) := by decide +kernel
theorem dX10_requireDialect_12 : decode cX10_requireDialect 12 = .ok (.dup, 1) := by decide +kernel
theorem dX10_requireDialect_13 : decode cX10_requireDialect 13 = .ok (.ldc_w 362, 3) := by decide +kernel
theorem dX10_requireDialect_16 : decode cX10_requireDialect 16 = .ok (.invokespecial 136, 3) := by decide +kernel
theorem dX10_requireDialect_19 : decode cX10_requireDialect 19 = .ok (.athrow, 1) := by decide +kernel
theorem dX10_requireDialect_20 : decode cX10_requireDialect 20 = .ok (.return_, 1) := by decide +kernel
theorem dX10_requireWord_0 : decode cX10_requireWord 0 = .ok (.iload_n 1, 1) := by decide +kernel
theorem dX10_requireWord_1 : decode cX10_requireWord 1 = .ok (.ifCond .lt 14, 3) := by decide +kernel
theorem dX10_requireWord_4 : decode cX10_requireWord 4 = .ok (.iload_n 1, 1) := by decide +kernel
theorem dX10_requireWord_5 : decode cX10_requireWord 5 = .ok (.aload_n 0, 1) := by decide +kernel
theorem dX10_requireWord_6 : decode cX10_requireWord 6 = .ok (.getfield 12, 3) := by decide +kernel
theorem dX10_requireWord_9 : decode cX10_requireWord 9 = .ok (.getfield 112, 3) := by decide +kernel
theorem dX10_requireWord_12 : decode cX10_requireWord 12 = .ok (.if_icmp .lt 14, 3) := by decide +kernel
theorem dX10_requireWord_15 : decode cX10_requireWord 15 = .ok (.new 132, 3) := by decide +kernel
theorem dX10_requireWord_18 : decode cX10_requireWord 18 = .ok (.dup, 1) := by decide +kernel
theorem dX10_requireWord_19 : decode cX10_requireWord 19 = .ok (.ldc_w 364, 3) := by decide +kernel
theorem dX10_requireWord_22 : decode cX10_requireWord 22 = .ok (.invokespecial 136, 3) := by decide +kernel
theorem dX10_requireWord_25 : decode cX10_requireWord 25 = .ok (.athrow, 1) := by decide +kernel
theorem dX10_requireWord_26 : decode cX10_requireWord 26 = .ok (.return_, 1) := by decide +kernel
theorem dX10_requirePlace_0 : decode cX10_requirePlace 0 = .ok (.iload_n 1, 1) := by decide +kernel
theorem dX10_requirePlace_1 : decode cX10_requirePlace 1 = .ok (.ifCond .ge 14, 3) := by decide +kernel
theorem dX10_requirePlace_4 : decode cX10_requirePlace 4 = .ok (.new 132, 3) := by decide +kernel
theorem dX10_requirePlace_7 : decode cX10_requirePlace 7 = .ok (.dup, 1) := by decide +kernel
theorem dX10_requirePlace_8 : decode cX10_requirePlace 8 = .ok (.ldc_w 366, 3) := by decide +kernel
theorem dX10_requirePlace_11 : decode cX10_requirePlace 11 = .ok (.invokespecial 136, 3) := by decide +kernel
theorem dX10_requirePlace_14 : decode cX10_requirePlace 14 = .ok (.athrow, 1) := by decide +kernel
theorem dX10_requirePlace_15 : decode cX10_requirePlace 15 = .ok (.return_, 1) := by decide +kernel
theorem dX10_requireDesign_0 : decode cX10_requireDesign 0 = .ok (.iload_n 1, 1) := by decide +kernel
theorem dX10_requireDesign_1 : decode cX10_requireDesign 1 = .ok (.ifCond .lt 11, 3) := by decide +kernel
theorem dX10_requireDesign_4 : decode cX10_requireDesign 4 = .ok (.iload_n 1, 1) := by decide +kernel
theorem dX10_requireDesign_5 : decode cX10_requireDesign 5 = .ok (.aload_n 0, 1) := by decide +kernel
theorem dX10_requireDesign_6 : decode cX10_requireDesign 6 = .ok (.getfield 33, 3) := by decide +kernel
theorem dX10_requireDesign_9 : decode cX10_requireDesign 9 = .ok (.if_icmp .lt 14, 3) := by decide +kernel
theorem dX10_requireDesign_12 : decode cX10_requireDesign 12 = .ok (.new 132, 3) := by decide +kernel
theorem dX10_requireDesign_15 : decode cX10_requireDesign 15 = .ok (.dup, 1) := by decide +kernel
theorem dX10_requireDesign_16 : decode cX10_requireDesign 16 = .ok (.ldc_w 368, 3) := by decide +kernel
theorem dX10_requireDesign_19 : decode cX10_requireDesign 19 = .ok (.invokespecial 136, 3) := by decide +kernel
theorem dX10_requireDesign_22 : decode cX10_requireDesign 22 = .ok (.athrow, 1) := by decide +kernel
theorem dX10_requireDesign_23 : decode cX10_requireDesign 23 = .ok (.return_, 1) := by decide +kernel
theorem dX10_requireTone_0 : decode cX10_requireTone 0 = .ok (.iload_n 1, 1) := by decide +kernel
theorem dX10_requireTone_1 : decode cX10_requireTone 1 = .ok (.ifCond .lt 8, 3) := by decide +kernel
theorem dX10_requireTone_4 : decode cX10_requireTone 4 = .ok (.iload_n 1, 1) := by decide +kernel
theorem dX10_requireTone_5 : decode cX10_requireTone 5 = .ok (.iconst 3, 1) := by decide +kernel
theorem dX10_requireTone_6 : decode cX10_requireTone 6 = .ok (.if_icmp .lt 14, 3) := by decide +kernel
theorem dX10_requireTone_9 : decode cX10_requireTone 9 = .ok (.new 132, 3) := by decide +kernel
theorem dX10_requireTone_12 : decode cX10_requireTone 12 = .ok (.dup, 1) := by decide +kernel
theorem dX10_requireTone_13 : decode cX10_requireTone 13 = .ok (.ldc_w 370, 3) := by decide +kernel
theorem dX10_requireTone_16 : decode cX10_requireTone 16 = .ok (.invokespecial 136, 3) := by decide +kernel
theorem dX10_requireTone_19 : decode cX10_requireTone 19 = .ok (.athrow, 1) := by decide +kernel
theorem dX10_requireTone_20 : decode cX10_requireTone 20 = .ok (.return_, 1) := by decide +kernel
theorem dX10_requireSign_0 : decode cX10_requireSign 0 = .ok (.iload_n 1, 1) := by decide +kernel
theorem dX10_requireSign_1 : decode cX10_requireSign 1 = .ok (.ifCond .lt 9, 3) := by decide +kernel
theorem dX10_requireSign_4 : decode cX10_requireSign 4 = .ok (.iload_n 1, 1) := by decide +kernel
theorem dX10_requireSign_5 : decode cX10_requireSign 5 = .ok (.bipush 50, 2) := by decide +kernel
theorem dX10_requireSign_7 : decode cX10_requireSign 7 = .ok (.if_icmp .lt 14, 3) := by decide +kernel
theorem dX10_requireSign_10 : decode cX10_requireSign 10 = .ok (.new 132, 3) := by decide +kernel
theorem dX10_requireSign_13 : decode cX10_requireSign 13 = .ok (.dup, 1) := by decide +kernel
theorem dX10_requireSign_14 : decode cX10_requireSign 14 = .ok (.ldc_w 372, 3) := by decide +kernel
theorem dX10_requireSign_17 : decode cX10_requireSign 17 = .ok (.invokespecial 136, 3) := by decide +kernel
theorem dX10_requireSign_20 : decode cX10_requireSign 20 = .ok (.athrow, 1) := by decide +kernel
theorem dX10_requireSign_21 : decode cX10_requireSign 21 = .ok (.return_, 1) := by decide +kernel
theorem dX10_requireGroup_0 : decode cX10_requireGroup 0 = .ok (.iload_n 1, 1) := by decide +kernel
theorem dX10_requireGroup_1 : decode cX10_requireGroup 1 = .ok (.ifCond .lt 8, 3) := by decide +kernel
theorem dX10_requireGroup_4 : decode cX10_requireGroup 4 = .ok (.iload_n 1, 1) := by decide +kernel
theorem dX10_requireGroup_5 : decode cX10_requireGroup 5 = .ok (.iconst 4, 1) := by decide +kernel
theorem dX10_requireGroup_6 : decode cX10_requireGroup 6 = .ok (.if_icmp .lt 14, 3) := by decide +kernel
theorem dX10_requireGroup_9 : decode cX10_requireGroup 9 = .ok (.new 132, 3) := by decide +kernel
theorem dX10_requireGroup_12 : decode cX10_requireGroup 12 = .ok (.dup, 1) := by decide +kernel
theorem dX10_requireGroup_13 : decode cX10_requireGroup 13 = .ok (.ldc_w 374, 3) := by decide +kernel
theorem dX10_requireGroup_16 : decode cX10_requireGroup 16 = .ok (.invokespecial 136, 3) := by decide +kernel
theorem dX10_requireGroup_19 : decode cX10_requireGroup 19 = .ok (.athrow, 1) := by decide +kernel
theorem dX10_requireGroup_20 : decode cX10_requireGroup 20 = .ok (.return_, 1) := by decide +kernel
theorem dX10_speaker_0 : decode cX10_speaker 0 = .ok (.iload_n 1, 1) := by decide +kernel
theorem dX10_speaker_1 : decode cX10_speaker 1 = .ok (.iconst (-1), 1) := by decide +kernel
theorem dX10_speaker_2 : decode cX10_speaker 2 = .ok (.if_icmp .ne 10, 3) := by decide +kernel
theorem dX10_speaker_5 : decode cX10_speaker 5 = .ok (.aload_n 0, 1) := by decide +kernel
theorem dX10_speaker_6 : decode cX10_speaker 6 = .ok (.getfield 19, 3) := by decide +kernel
theorem dX10_speaker_9 : decode cX10_speaker 9 = .ok (.goto 9, 3) := by decide +kernel
theorem dX10_speaker_12 : decode cX10_speaker 12 = .ok (.aload_n 0, 1) := by decide +kernel
theorem dX10_speaker_13 : decode cX10_speaker 13 = .ok (.getfield 23, 3) := by decide +kernel
theorem dX10_speaker_16 : decode cX10_speaker 16 = .ok (.iload_n 1, 1) := by decide +kernel
theorem dX10_speaker_17 : decode cX10_speaker 17 = .ok (.aaload, 1) := by decide +kernel
theorem dX10_speaker_18 : decode cX10_speaker 18 = .ok (.areturn, 1) := by decide +kernel
theorem dX10_spellAll_0 : decode cX10_spellAll 0 = .ok (.aload_n 0, 1) := by decide +kernel
theorem dX10_spellAll_1 : decode cX10_spellAll 1 = .ok (.getfield 54, 3) := by decide +kernel
theorem dX10_spellAll_4 : decode cX10_spellAll 4 = .ok (.aload_n 1, 1) := by decide +kernel
theorem dX10_spellAll_5 : decode cX10_spellAll 5 = .ok (.aload_n 0, 1) := by decide +kernel
theorem dX10_spellAll_6 : decode cX10_spellAll 6 = .ok (.aload_n 1, 1) := by decide +kernel
theorem dX10_spellAll_7 : decode cX10_spellAll 7 = .ok (.getfield 376, 3) := by decide +kernel
theorem dX10_spellAll_10 : decode cX10_spellAll 10 = .ok (.invokevirtual 156, 3) := by decide +kernel
theorem dX10_spellAll_13 : decode cX10_spellAll 13 = .ok (.invokevirtual 379, 3) := by decide +kernel
theorem dX10_spellAll_16 : decode cX10_spellAll 16 = .ok (.return_, 1) := by decide +kernel
theorem dX10_spellBoth_0 : decode cX10_spellBoth 0 = .ok (.aload_n 0, 1) := by decide +kernel
theorem dX10_spellBoth_1 : decode cX10_spellBoth 1 = .ok (.aload_n 0, 1) := by decide +kernel
theorem dX10_spellBoth_2 : decode cX10_spellBoth 2 = .ok (.getfield 29, 3) := by decide +kernel
theorem dX10_spellBoth_5 : decode cX10_spellBoth 5 = .ok (.iload_n 1, 1) := by decide +kernel
theorem dX10_spellBoth_6 : decode cX10_spellBoth 6 = .ok (.aaload, 1) := by decide +kernel
theorem dX10_spellBoth_7 : decode cX10_spellBoth 7 = .ok (.invokevirtual 203, 3) := by decide +kernel
theorem dX10_spellBoth_10 : decode cX10_spellBoth 10 = .ok (.aload_n 0, 1) := by decide +kernel
theorem dX10_spellBoth_11 : decode cX10_spellBoth 11 = .ok (.getfield 58, 3) := by decide +kernel
theorem dX10_spellBoth_14 : decode cX10_spellBoth 14 = .ok (.aload_n 0, 1) := by decide +kernel
theorem dX10_spellBoth_15 : decode cX10_spellBoth 15 = .ok (.getfield 29, 3) := by decide +kernel
theorem dX10_spellBoth_18 : decode cX10_spellBoth 18 = .ok (.iload_n 2, 1) := by decide +kernel
theorem dX10_spellBoth_19 : decode cX10_spellBoth 19 = .ok (.aaload, 1) := by decide +kernel
theorem dX10_spellBoth_20 : decode cX10_spellBoth 20 = .ok (.aload_n 0, 1) := by decide +kernel
theorem dX10_spellBoth_21 : decode cX10_spellBoth 21 = .ok (.aload_n 0, 1) := by decide +kernel
theorem dX10_spellBoth_22 : decode cX10_spellBoth 22 = .ok (.getfield 29, 3) := by decide +kernel
theorem dX10_spellBoth_25 : decode cX10_spellBoth 25 = .ok (.iload_n 2, 1) := by decide +kernel
theorem dX10_spellBoth_26 : decode cX10_spellBoth 26 = .ok (.aaload, 1) := by decide +kernel
theorem dX10_spellBoth_27 : decode cX10_spellBoth 27 = .ok (.getfield 376, 3) := by decide +kernel
theorem dX10_spellBoth_30 : decode cX10_spellBoth 30 = .ok (.invokevirtual 156, 3) := by decide +kernel
theorem dX10_spellBoth_33 : decode cX10_spellBoth 33 = .ok (.invokevirtual 379, 3) := by decide +kernel
theorem dX10_spellBoth_36 : decode cX10_spellBoth 36 = .ok (.return_, 1) := by decide +kernel
theorem dX10_fitOfSpelled_0 : decode cX10_fitOfSpelled 0 = .ok (.aload_n 0, 1) := by decide +kernel
theorem dX10_fitOfSpelled_1 : decode cX10_fitOfSpelled 1 = .ok (.getfield 58, 3) := by decide +kernel
theorem dX10_fitOfSpelled_4 : decode cX10_fitOfSpelled 4 = .ok (.aload_n 1, 1) := by decide +kernel
theorem dX10_fitOfSpelled_5 : decode cX10_fitOfSpelled 5 = .ok (.aload_n 0, 1) := by decide +kernel
theorem dX10_fitOfSpelled_6 : decode cX10_fitOfSpelled 6 = .ok (.iload_n 2, 1) := by decide +kernel
theorem dX10_fitOfSpelled_7 : decode cX10_fitOfSpelled 7 = .ok (.invokevirtual 156, 3) := by decide +kernel
theorem dX10_fitOfSpelled_10 : decode cX10_fitOfSpelled 10 = .ok (.invokevirtual 379, 3) := by decide +kernel
theorem dX10_fitOfSpelled_13 : decode cX10_fitOfSpelled 13 = .ok (.iconst 0, 1) := by decide +kernel
theorem dX10_fitOfSpelled_14 : decode cX10_fitOfSpelled 14 = .ok (.istore_n 3, 1) := by decide +kernel
theorem dX10_fitOfSpelled_15 : decode cX10_fitOfSpelled 15 = .ok (.iconst 0, 1) := by decide +kernel
theorem dX10_fitOfSpelled_16 : decode cX10_fitOfSpelled 16 = .ok (.istore 4, 2) := by decide +kernel
theorem dX10_fitOfSpelled_18 : decode cX10_fitOfSpelled 18 = .ok (.iload 4, 2) := by decide +kernel
theorem dX10_fitOfSpelled_20 : decode cX10_fitOfSpelled 20 = .ok (.aload_n 0, 1) := by decide +kernel
theorem dX10_fitOfSpelled_21 : decode cX10_fitOfSpelled 21 = .ok (.getfield 12, 3) := by decide +kernel
theorem dX10_fitOfSpelled_24 : decode cX10_fitOfSpelled 24 = .ok (.getfield 112, 3) := by decide +kernel
theorem dX10_fitOfSpelled_27 : decode cX10_fitOfSpelled 27 = .ok (.if_icmp .ge 38, 3) := by decide +kernel
theorem dX10_fitOfSpelled_30 : decode cX10_fitOfSpelled 30 = .ok (.aload_n 0, 1) := by decide +kernel
theorem dX10_fitOfSpelled_31 : decode cX10_fitOfSpelled 31 = .ok (.getfield 54, 3) := by decide +kernel
theorem dX10_fitOfSpelled_34 : decode cX10_fitOfSpelled 34 = .ok (.aload_n 0, 1) := by decide +kernel
theorem dX10_fitOfSpelled_35 : decode cX10_fitOfSpelled 35 = .ok (.getfield 58, 3) := by decide +kernel
theorem dX10_fitOfSpelled_38 : decode cX10_fitOfSpelled 38 = .ok (.iload 4, 2) := by decide +kernel
theorem dX10_fitOfSpelled_40 : decode cX10_fitOfSpelled 40 = .ok (.invokevirtual 382, 3) := by decide +kernel
theorem dX10_fitOfSpelled_43 : decode cX10_fitOfSpelled 43 = .ok (.ifCond .eq 16, 3) := by decide +kernel
theorem dX10_fitOfSpelled_46 : decode cX10_fitOfSpelled 46 = .ok (.iload_n 3, 1) := by decide +kernel
theorem dX10_fitOfSpelled_47 : decode cX10_fitOfSpelled 47 = .ok (.aload_n 0, 1) := by decide +kernel
theorem dX10_fitOfSpelled_48 : decode cX10_fitOfSpelled 48 = .ok (.getfield 12, 3) := by decide +kernel
theorem dX10_fitOfSpelled_51 : decode cX10_fitOfSpelled 51 = .ok (.getfield 212, 3) := by decide +kernel
theorem dX10_fitOfSpelled_54 : decode cX10_fitOfSpelled 54 = .ok (.iload 4, 2) := by decide +kernel
theorem dX10_fitOfSpelled_56 : decode cX10_fitOfSpelled 56 = .ok (.iaload, 1) := by decide +kernel
theorem dX10_fitOfSpelled_57 : decode cX10_fitOfSpelled 57 = .ok (.iadd, 1) := by decide +kernel
theorem dX10_fitOfSpelled_58 : decode cX10_fitOfSpelled 58 = .ok (.istore_n 3, 1) := by decide +kernel
theorem dX10_fitOfSpelled_59 : decode cX10_fitOfSpelled 59 = .ok (.iinc 4 1, 3) := by decide +kernel
theorem dX10_fitOfSpelled_62 : decode cX10_fitOfSpelled 62 = .ok (.goto (-44), 3) := by decide +kernel
theorem dX10_fitOfSpelled_65 : decode cX10_fitOfSpelled 65 = .ok (.iload_n 3, 1) := by decide +kernel
theorem dX10_fitOfSpelled_66 : decode cX10_fitOfSpelled 66 = .ok (.ireturn, 1) := by decide +kernel
theorem dX10_prepareQuickPrimer_0 : decode cX10_prepareQuickPrimer 0 = .ok (.aload_n 0, 1) := by decide +kernel
theorem dX10_prepareQuickPrimer_1 : decode cX10_prepareQuickPrimer 1 = .ok (.aload_n 1, 1) := by decide +kernel
theorem dX10_prepareQuickPrimer_2 : decode cX10_prepareQuickPrimer 2 = .ok (.invokevirtual 203, 3) := by decide +kernel
theorem dX10_prepareQuickPrimer_5 : decode cX10_prepareQuickPrimer 5 = .ok (.aload_n 0, 1) := by decide +kernel
theorem dX10_prepareQuickPrimer_6 : decode cX10_prepareQuickPrimer 6 = .ok (.getfield 78, 3) := by decide +kernel
theorem dX10_prepareQuickPrimer_9 : decode cX10_prepareQuickPrimer 9 = .ok (.aload_n 0, 1) := by decide +kernel
theorem dX10_prepareQuickPrimer_10 : decode cX10_prepareQuickPrimer 10 = .ok (.getfield 54, 3) := by decide +kernel
theorem dX10_prepareQuickPrimer_13 : decode cX10_prepareQuickPrimer 13 = .ok (.aload_n 0, 1) := by decide +kernel
theorem dX10_prepareQuickPrimer_14 : decode cX10_prepareQuickPrimer 14 = .ok (.getfield 12, 3) := by decide +kernel
theorem dX10_prepareQuickPrimer_17 : decode cX10_prepareQuickPrimer 17 = .ok (.getfield 212, 3) := by decide +kernel
theorem dX10_prepareQuickPrimer_20 : decode cX10_prepareQuickPrimer 20 = .ok (.invokevirtual 282, 3) := by decide +kernel
theorem dX10_prepareQuickPrimer_23 : decode cX10_prepareQuickPrimer 23 = .ok (.aload_n 0, 1) := by decide +kernel
theorem dX10_prepareQuickPrimer_24 : decode cX10_prepareQuickPrimer 24 = .ok (.getfield 78, 3) := by decide +kernel
theorem dX10_prepareQuickPrimer_27 : decode cX10_prepareQuickPrimer 27 = .ok (.invokevirtual 386, 3) := by decide +kernel
theorem dX10_prepareQuickPrimer_30 : decode cX10_prepareQuickPrimer 30 = .ok (.return_, 1) := by decide +kernel
theorem dX10_scoreOf_0 : decode cX10_scoreOf 0 = .ok (.aload_n 0, 1) := by decide +kernel
theorem dX10_scoreOf_1 : decode cX10_scoreOf 1 = .ok (.aload_n 2, 1) := by decide +kernel
theorem dX10_scoreOf_2 : decode cX10_scoreOf 2 = .ok (.invokevirtual 203, 3) := by decide +kernel
theorem dX10_scoreOf_5 : decode cX10_scoreOf 5 = .ok (.aload_n 0, 1) := by decide +kernel
theorem dX10_scoreOf_6 : decode cX10_scoreOf 6 = .ok (.getfield 54, 3) := by decide +kernel
theorem dX10_scoreOf_9 : decode cX10_scoreOf 9 = .ok (.aload_n 0, 1) := by decide +kernel
theorem dX10_scoreOf_10 : decode cX10_scoreOf 10 = .ok (.getfield 12, 3) := by decide +kernel
theorem dX10_scoreOf_13 : decode cX10_scoreOf 13 = .ok (.getfield 212, 3) := by decide +kernel
theorem dX10_scoreOf_16 : decode cX10_scoreOf 16 = .ok (.invokevirtual 215, 3) := by decide +kernel
theorem dX10_scoreOf_19 : decode cX10_scoreOf 19 = .ok (.istore_n 3, 1) := by decide +kernel
theorem dX10_scoreOf_20 : decode cX10_scoreOf 20 = .ok (.iconst 0, 1) := by decide +kernel
theorem dX10_scoreOf_21 : decode cX10_scoreOf 21 = .ok (.istore 4, 2) := by decide +kernel
theorem dX10_scoreOf_23 : decode cX10_scoreOf 23 = .ok (.iconst 0, 1) := by decide +kernel
theorem dX10_scoreOf_24 : decode cX10_scoreOf 24 = .ok (.istore 5, 2) := by decide +kernel
theorem dX10_scoreOf_26 : decode cX10_scoreOf 26 = .ok (.iconst 0, 1) := by decide +kernel
theorem dX10_scoreOf_27 : decode cX10_scoreOf 27 = .ok (.istore 6, 2) := by decide +kernel
theorem dX10_scoreOf_29 : decode cX10_scoreOf 29 = .ok (.iload 6, 2) := by decide +kernel
theorem dX10_scoreOf_31 : decode cX10_scoreOf 31 = .ok (.aload_n 0, 1) := by decide +kernel
theorem dX10_scoreOf_32 : decode cX10_scoreOf 32 = .ok (.getfield 12, 3) := by decide +kernel
theorem dX10_scoreOf_35 : decode cX10_scoreOf 35 = .ok (.getfield 112, 3) := by decide +kernel
theorem dX10_scoreOf_38 : decode cX10_scoreOf 38 = .ok (.if_icmp .ge 67, 3) := by decide +kernel
theorem dX10_scoreOf_41 : decode cX10_scoreOf 41 = .ok (.iload 4, 2) := by decide +kernel
theorem dX10_scoreOf_43 : decode cX10_scoreOf 43 = .ok (.aload_n 0, 1) := by decide +kernel
theorem dX10_scoreOf_44 : decode cX10_scoreOf 44 = .ok (.getfield 12, 3) := by decide +kernel
theorem dX10_scoreOf_47 : decode cX10_scoreOf 47 = .ok (.getfield 212, 3) := by decide +kernel
theorem dX10_scoreOf_50 : decode cX10_scoreOf 50 = .ok (.iload 6, 2) := by decide +kernel
theorem dX10_scoreOf_52 : decode cX10_scoreOf 52 = .ok (.iaload, 1) := by decide +kernel
theorem dX10_scoreOf_53 : decode cX10_scoreOf 53 = .ok (.iadd, 1) := by decide +kernel
theorem dX10_scoreOf_54 : decode cX10_scoreOf 54 = .ok (.istore 4, 2) := by decide +kernel
theorem dX10_scoreOf_56 : decode cX10_scoreOf 56 = .ok (.iload 5, 2) := by decide +kernel
theorem dX10_scoreOf_58 : decode cX10_scoreOf 58 = .ok (.aload_n 0, 1) := by decide +kernel
theorem dX10_scoreOf_59 : decode cX10_scoreOf 59 = .ok (.getfield 12, 3) := by decide +kernel
theorem dX10_scoreOf_62 : decode cX10_scoreOf 62 = .ok (.getfield 212, 3) := by decide +kernel
theorem dX10_scoreOf_65 : decode cX10_scoreOf 65 = .ok (.iload 6, 2) := by decide +kernel
theorem dX10_scoreOf_67 : decode cX10_scoreOf 67 = .ok (.iaload, 1) := by decide +kernel
theorem dX10_scoreOf_68 : decode cX10_scoreOf 68 = .ok (.aload_n 0, 1) := by decide +kernel
theorem dX10_scoreOf_69 : decode cX10_scoreOf 69 = .ok (.getfield 40, 3) := by decide +kernel
theorem dX10_scoreOf_72 : decode cX10_scoreOf 72 = .ok (.aload_n 0, 1) := by decide +kernel
theorem dX10_scoreOf_73 : decode cX10_scoreOf 73 = .ok (.getfield 54, 3) := by decide +kernel
theorem dX10_scoreOf_76 : decode cX10_scoreOf 76 = .ok (.getfield 208, 3) := by decide +kernel
theorem dX10_scoreOf_79 : decode cX10_scoreOf 79 = .ok (.iload 6, 2) := by decide +kernel
theorem dX10_scoreOf_81 : decode cX10_scoreOf 81 = .ok (.aaload, 1) := by decide +kernel
theorem dX10_scoreOf_82 : decode cX10_scoreOf 82 = .ok (.aload_n 0, 1) := by decide +kernel
theorem dX10_scoreOf_83 : decode cX10_scoreOf 83 = .ok (.getfield 54, 3) := by decide +kernel
theorem dX10_scoreOf_86 : decode cX10_scoreOf 86 = .ok (.getfield 207, 3) := by decide +kernel
theorem dX10_scoreOf_89 : decode cX10_scoreOf 89 = .ok (.iload 6, 2) := by decide +kernel
theorem dX10_scoreOf_91 : decode cX10_scoreOf 91 = .ok (.iaload, 1) := by decide +kernel
theorem dX10_scoreOf_92 : decode cX10_scoreOf 92 = .ok (.invokevirtual 389, 3) := by decide +kernel
theorem dX10_scoreOf_95 : decode cX10_scoreOf 95 = .ok (.imul, 1) := by decide +kernel
theorem dX10_scoreOf_96 : decode cX10_scoreOf 96 = .ok (.iadd, 1) := by decide +kernel
theorem dX10_scoreOf_97 : decode cX10_scoreOf 97 = .ok (.istore 5, 2) := by decide +kernel
theorem dX10_scoreOf_99 : decode cX10_scoreOf 99 = .ok (.iinc 6 1, 3) := by decide +kernel
theorem dX10_scoreOf_102 : decode cX10_scoreOf 102 = .ok (.goto (-73), 3) := by decide +kernel
theorem dX10_scoreOf_105 : decode cX10_scoreOf 105 = .ok (.iload 4, 2) := by decide +kernel
theorem dX10_scoreOf_107 : decode cX10_scoreOf 107 = .ok (.aload_n 0, 1) := by decide +kernel
theorem dX10_scoreOf_108 : decode cX10_scoreOf 108 = .ok (.aload_n 2, 1) := by decide +kernel
theorem dX10_scoreOf_109 : decode cX10_scoreOf 109 = .ok (.aload_n 0, 1) := by decide +kernel
theorem dX10_scoreOf_110 : decode cX10_scoreOf 110 = .ok (.getfield 47, 3) := by decide +kernel
theorem dX10_scoreOf_113 : decode cX10_scoreOf 113 = .ok (.getfield 330, 3) := by decide +kernel
theorem dX10_scoreOf_116 : decode cX10_scoreOf 116 = .ok (.iload_n 1, 1) := by decide +kernel
theorem dX10_scoreOf_117 : decode cX10_scoreOf 117 = .ok (.iaload, 1) := by decide +kernel
theorem dX10_scoreOf_118 : decode cX10_scoreOf 118 = .ok (.invokevirtual 226, 3) := by decide +kernel
theorem dX10_scoreOf_121 : decode cX10_scoreOf 121 = .ok (.isub, 1) := by decide +kernel
theorem dX10_scoreOf_122 : decode cX10_scoreOf 122 = .ok (.istore 6, 2) := by decide +kernel
theorem dX10_scoreOf_124 : decode cX10_scoreOf 124 = .ok (.aload_n 0, 1) := by decide +kernel
theorem dX10_scoreOf_125 : decode cX10_scoreOf 125 = .ok (.getfield 47, 3) := by decide +kernel
theorem dX10_scoreOf_128 : decode cX10_scoreOf 128 = .ok (.getfield 327, 3) := by decide +kernel
theorem dX10_scoreOf_131 : decode cX10_scoreOf 131 = .ok (.iload_n 1, 1) := by decide +kernel
theorem dX10_scoreOf_132 : decode cX10_scoreOf 132 = .ok (.iaload, 1) := by decide +kernel
theorem dX10_scoreOf_133 : decode cX10_scoreOf 133 = .ok (.istore 7, 2) := by decide +kernel
theorem dX10_scoreOf_135 : decode cX10_scoreOf 135 = .ok (.iload_n 3, 1) := by decide +kernel
theorem dX10_scoreOf_136 : decode cX10_scoreOf 136 = .ok (.iload 7, 2) := by decide +kernel
theorem dX10_scoreOf_138 : decode cX10_scoreOf 138 = .ok (.bipush 100, 2) := by decide +kernel
theorem dX10_scoreOf_140 : decode cX10_scoreOf 140 = .ok (.idiv, 1) := by decide +kernel
theorem dX10_scoreOf_141 : decode cX10_scoreOf 141 = .ok (.imul, 1) := by decide +kernel
theorem dX10_scoreOf_142 : decode cX10_scoreOf 142 = .ok (.iload 5, 2) := by decide +kernel
theorem dX10_scoreOf_144 : decode cX10_scoreOf 144 = .ok (.bipush 100, 2) := by decide +kernel
theorem dX10_scoreOf_146 : decode cX10_scoreOf 146 = .ok (.idiv, 1) := by decide +kernel
theorem dX10_scoreOf_147 : decode cX10_scoreOf 147 = .ok (.iload 7, 2) := by decide +kernel
theorem dX10_scoreOf_149 : decode cX10_scoreOf 149 = .ok (.bipush 10, 2) := by decide +kernel
theorem dX10_scoreOf_151 : decode cX10_scoreOf 151 = .ok (.idiv, 1) := by decide +kernel
theorem dX10_scoreOf_152 : decode cX10_scoreOf 152 = .ok (.bipush 10, 2) := by decide +kernel
theorem dX10_scoreOf_154 : decode cX10_scoreOf 154 = .ok (.irem, 1) := by decide +kernel
theorem dX10_scoreOf_155 : decode cX10_scoreOf 155 = .ok (.imul, 1) := by decide +kernel
theorem dX10_scoreOf_156 : decode cX10_scoreOf 156 = .ok (.iadd, 1) := by decide +kernel
theorem dX10_scoreOf_157 : decode cX10_scoreOf 157 = .ok (.iload 6, 2) := by decide +kernel
theorem dX10_scoreOf_159 : decode cX10_scoreOf 159 = .ok (.iload 7, 2) := by decide +kernel
theorem dX10_scoreOf_161 : decode cX10_scoreOf 161 = .ok (.bipush 10, 2) := by decide +kernel
theorem dX10_scoreOf_163 : decode cX10_scoreOf 163 = .ok (.irem, 1) := by decide +kernel
theorem dX10_scoreOf_164 : decode cX10_scoreOf 164 = .ok (.imul, 1) := by decide +kernel
theorem dX10_scoreOf_165 : decode cX10_scoreOf 165 = .ok (.iadd, 1) := by decide +kernel
theorem dX10_scoreOf_166 : decode cX10_scoreOf 166 = .ok (.ireturn, 1) := by decide +kernel
theorem dX10_prepareBallot_0 : decode cX10_prepareBallot 0 = .ok (.aload_n 0, 1) := by decide +kernel
theorem dX10_prepareBallot_1 : decode cX10_prepareBallot 1 = .ok (.getfield 47, 3) := by decide +kernel
theorem dX10_prepareBallot_4 : decode cX10_prepareBallot 4 = .ok (.aload_n 0, 1) := by decide +kernel
theorem dX10_prepareBallot_5 : decode cX10_prepareBallot 5 = .ok (.getfield 33, 3) := by decide +kernel
theorem dX10_prepareBallot_8 : decode cX10_prepareBallot 8 = .ok (.invokevirtual 392, 3) := by decide +kernel
theorem dX10_prepareBallot_11 : decode cX10_prepareBallot 11 = .ok (.iconst 0, 1) := by decide +kernel
theorem dX10_prepareBallot_12 : decode cX10_prepareBallot 12 = .ok (.istore_n 1, 1) := by decide +kernel
theorem dX10_prepareBallot_13 : decode cX10_prepareBallot 13 = .ok (.iload_n 1, 1) := by decide +kernel
theorem dX10_prepareBallot_14 : decode cX10_prepareBallot 14 = .ok (.iconst 4, 1) := by decide +kernel
theorem dX10_prepareBallot_15 : decode cX10_prepareBallot 15 = .ok (.if_icmp .ge 47, 3) := by decide +kernel
theorem dX10_prepareBallot_18 : decode cX10_prepareBallot 18 = .ok (.iconst 0, 1) := by decide +kernel
theorem dX10_prepareBallot_19 : decode cX10_prepareBallot 19 = .ok (.istore_n 2, 1) := by decide +kernel
theorem dX10_prepareBallot_20 : decode cX10_prepareBallot 20 = .ok (.iload_n 2, 1) := by decide +kernel
theorem dX10_prepareBallot_21 : decode cX10_prepareBallot 21 = .ok (.aload_n 0, 1) := by decide +kernel
theorem dX10_prepareBallot_22 : decode cX10_prepareBallot 22 = .ok (.getfield 33, 3) := by decide +kernel
theorem dX10_prepareBallot_25 : decode cX10_prepareBallot 25 = .ok (.if_icmp .ge 31, 3) := by decide +kernel
theorem dX10_prepareBallot_28 : decode cX10_prepareBallot 28 = .ok (.aload_n 0, 1) := by decide +kernel
theorem dX10_prepareBallot_29 : decode cX10_prepareBallot 29 = .ok (.getfield 47, 3) := by decide +kernel
theorem dX10_prepareBallot_32 : decode cX10_prepareBallot 32 = .ok (.getfield 395, 3) := by decide +kernel
theorem dX10_prepareBallot_35 : decode cX10_prepareBallot 35 = .ok (.iload_n 1, 1) := by decide +kernel
theorem dX10_prepareBallot_36 : decode cX10_prepareBallot 36 = .ok (.aaload, 1) := by decide +kernel
theorem dX10_prepareBallot_37 : decode cX10_prepareBallot 37 = .ok (.iload_n 2, 1) := by decide +kernel
theorem dX10_prepareBallot_38 : decode cX10_prepareBallot 38 = .ok (.aload_n 0, 1) := by decide +kernel
theorem dX10_prepareBallot_39 : decode cX10_prepareBallot 39 = .ok (.iload_n 1, 1) := by decide +kernel
theorem dX10_prepareBallot_40 : decode cX10_prepareBallot 40 = .ok (.aload_n 0, 1) := by decide +kernel
theorem dX10_prepareBallot_41 : decode cX10_prepareBallot 41 = .ok (.getfield 29, 3) := by decide +kernel
theorem dX10_prepareBallot_44 : decode cX10_prepareBallot 44 = .ok (.iload_n 2, 1) := by decide +kernel
theorem dX10_prepareBallot_45 : decode cX10_prepareBallot 45 = .ok (.aaload, 1) := by decide +kernel
theorem dX10_prepareBallot_46 : decode cX10_prepareBallot 46 = .ok (.invokevirtual 332, 3) := by decide +kernel
theorem dX10_prepareBallot_49 : decode cX10_prepareBallot 49 = .ok (.iastore, 1) := by decide +kernel
theorem dX10_prepareBallot_50 : decode cX10_prepareBallot 50 = .ok (.iinc 2 1, 3) := by decide +kernel
theorem dX10_prepareBallot_53 : decode cX10_prepareBallot 53 = .ok (.goto (-33), 3) := by decide +kernel
theorem dX10_prepareBallot_56 : decode cX10_prepareBallot 56 = .ok (.iinc 1 1, 3) := by decide +kernel
theorem dX10_prepareBallot_59 : decode cX10_prepareBallot 59 = .ok (.goto (-46), 3) := by decide +kernel
theorem dX10_prepareBallot_62 : decode cX10_prepareBallot 62 = .ok (.return_, 1) := by decide +kernel
theorem dX10_isSplitByReform_0 : decode cX10_isSplitByReform 0 = .ok (.iconst 0, 1) := by decide +kernel
theorem dX10_isSplitByReform_1 : decode cX10_isSplitByReform 1 = .ok (.istore_n 2, 1) := by decide +kernel
theorem dX10_isSplitByReform_2 : decode cX10_isSplitByReform 2 = .ok (.iload_n 2, 1) := by decide +kernel
theorem dX10_isSplitByReform_3 : decode cX10_isSplitByReform 3 = .ok (.aload_n 0, 1) := by decide +kernel
theorem dX10_isSplitByReform_4 : decode cX10_isSplitByReform 4 = .ok (.getfield 12, 3) := by decide +kernel
theorem dX10_isSplitByReform_7 : decode cX10_isSplitByReform 7 = .ok (.getfield 112, 3) := by decide +kernel
theorem dX10_isSplitByReform_10 : decode cX10_isSplitByReform 10 = .ok (.if_icmp .ge 35, 3) := by decide +kernel
theorem dX10_isSplitByReform_13 : decode cX10_isSplitByReform 13 = .ok (.aload_n 0, 1) := by decide +kernel
theorem dX10_isSplitByReform_14 : decode cX10_isSplitByReform 14 = .ok (.getfield 54, 3) := by decide +kernel
theorem dX10_isSplitByReform_17 : decode cX10_isSplitByReform 17 = .ok (.iload_n 1, 1) := by decide +kernel
theorem dX10_isSplitByReform_18 : decode cX10_isSplitByReform 18 = .ok (.iload_n 2, 1) := by decide +kernel
theorem dX10_isSplitByReform_19 : decode cX10_isSplitByReform 19 = .ok (.invokevirtual 209, 3) := by decide +kernel
theorem dX10_isSplitByReform_22 : decode cX10_isSplitByReform 22 = .ok (.ifCond .eq 17, 3) := by decide +kernel
theorem dX10_isSplitByReform_25 : decode cX10_isSplitByReform 25 = .ok (.aload_n 0, 1) := by decide +kernel
theorem dX10_isSplitByReform_26 : decode cX10_isSplitByReform 26 = .ok (.getfield 58, 3) := by decide +kernel
theorem dX10_isSplitByReform_29 : decode cX10_isSplitByReform 29 = .ok (.iload_n 1, 1) := by decide +kernel
theorem dX10_isSplitByReform_30 : decode cX10_isSplitByReform 30 = .ok (.iload_n 2, 1) := by decide +kernel
theorem dX10_isSplitByReform_31 : decode cX10_isSplitByReform 31 = .ok (.invokevirtual 209, 3) := by decide +kernel
theorem dX10_isSplitByReform_34 : decode cX10_isSplitByReform 34 = .ok (.ifCond .ne 5, 3) := by decide +kernel
theorem dX10_isSplitByReform_37 : decode cX10_isSplitByReform 37 = .ok (.iconst 1, 1) := by decide +kernel
theorem dX10_isSplitByReform_38 : decode cX10_isSplitByReform 38 = .ok (.ireturn, 1) := by decide +kernel
theorem dX10_isSplitByReform_39 : decode cX10_isSplitByReform 39 = .ok (.iinc 2 1, 3) := by decide +kernel
theorem dX10_isSplitByReform_42 : decode cX10_isSplitByReform 42 = .ok (.goto (-40), 3) := by decide +kernel
theorem dX10_isSplitByReform_45 : decode cX10_isSplitByReform 45 = .ok (.iconst 0, 1) := by decide +kernel
theorem dX10_isSplitByReform_46 : decode cX10_isSplitByReform 46 = .ok (.ireturn, 1) := by decide +kernel
theorem dX10_valuesOf_0 : decode cX10_valuesOf 0 = .ok (.iload_n 0, 1) := by decide +kernel
theorem dX10_valuesOf_1 : decode cX10_valuesOf 1 = .ok (.tableswitch 32 0 2 #[27, 30, 27], 27) := by decide +kernel
theorem dX10_valuesOf_28 : decode cX10_valuesOf 28 = .ok (.bipush 9, 2) := by decide +kernel
theorem dX10_valuesOf_30 : decode cX10_valuesOf 30 = .ok (.ireturn, 1) := by decide +kernel
theorem dX10_valuesOf_31 : decode cX10_valuesOf 31 = .ok (.iconst 4, 1) := by decide +kernel
theorem dX10_valuesOf_32 : decode cX10_valuesOf 32 = .ok (.ireturn, 1) := by decide +kernel
theorem dX10_valuesOf_33 : decode cX10_valuesOf 33 = .ok (.iconst 3, 1) := by decide +kernel
theorem dX10_valuesOf_34 : decode cX10_valuesOf 34 = .ok (.ireturn, 1) := by decide +kernel
theorem dX10_stepOf_0 : decode cX10_stepOf 0 = .ok (.iload_n 0, 1) := by decide +kernel
theorem dX10_stepOf_1 : decode cX10_stepOf 1 = .ok (.tableswitch 35 0 2 #[27, 30, 33], 27) := by decide +kernel
theorem dX10_stepOf_28 : decode cX10_stepOf 28 = .ok (.bipush 108, 2) := by decide +kernel
theorem dX10_stepOf_30 : decode cX10_stepOf 30 = .ok (.ireturn, 1) := by decide +kernel
theorem dX10_stepOf_31 : decode cX10_stepOf 31 = .ok (.bipush 27, 2) := by decide +kernel
theorem dX10_stepOf_33 : decode cX10_stepOf 33 = .ok (.ireturn, 1) := by decide +kernel
theorem dX10_stepOf_34 : decode cX10_stepOf 34 = .ok (.iconst 3, 1) := by decide +kernel
theorem dX10_stepOf_35 : decode cX10_stepOf 35 = .ok (.ireturn, 1) := by decide +kernel
theorem dX10_stepOf_36 : decode cX10_stepOf 36 = .ok (.iconst 1, 1) := by decide +kernel
theorem dX10_stepOf_37 : decode cX10_stepOf 37 = .ok (.ireturn, 1) := by decide +kernel
theorem dX10_partOf_0 : decode cX10_partOf 0 = .ok (.iload_n 1, 1) := by decide +kernel
theorem dX10_partOf_1 : decode cX10_partOf 1 = .ok (.tableswitch 46 0 2 #[27, 32, 39], 27) := by decide +kernel
theorem dX10_partOf_28 : decode cX10_partOf 28 = .ok (.iload_n 0, 1) := by decide +kernel
theorem dX10_partOf_29 : decode cX10_partOf 29 = .ok (.bipush 108, 2) := by decide +kernel
theorem dX10_partOf_31 : decode cX10_partOf 31 = .ok (.idiv, 1) := by decide +kernel
theorem dX10_partOf_32 : decode cX10_partOf 32 = .ok (.ireturn, 1) := by decide +kernel
theorem dX10_partOf_33 : decode cX10_partOf 33 = .ok (.iload_n 0, 1) := by decide +kernel
theorem dX10_partOf_34 : decode cX10_partOf 34 = .ok (.bipush 27, 2) := by decide +kernel
theorem dX10_partOf_36 : decode cX10_partOf 36 = .ok (.idiv, 1) := by decide +kernel
theorem dX10_partOf_37 : decode cX10_partOf 37 = .ok (.iconst 4, 1) := by decide +kernel
theorem dX10_partOf_38 : decode cX10_partOf 38 = .ok (.irem, 1) := by decide +kernel
theorem dX10_partOf_39 : decode cX10_partOf 39 = .ok (.ireturn, 1) := by decide +kernel
theorem dX10_partOf_40 : decode cX10_partOf 40 = .ok (.iload_n 0, 1) := by decide +kernel
theorem dX10_partOf_41 : decode cX10_partOf 41 = .ok (.iconst 3, 1) := by decide +kernel
theorem dX10_partOf_42 : decode cX10_partOf 42 = .ok (.idiv, 1) := by decide +kernel
theorem dX10_partOf_43 : decode cX10_partOf 43 = .ok (.bipush 9, 2) := by decide +kernel
theorem dX10_partOf_45 : decode cX10_partOf 45 = .ok (.irem, 1) := by decide +kernel
theorem dX10_partOf_46 : decode cX10_partOf 46 = .ok (.ireturn, 1) := by decide +kernel
theorem dX10_partOf_47 : decode cX10_partOf 47 = .ok (.iload_n 0, 1) := by decide +kernel
theorem dX10_partOf_48 : decode cX10_partOf 48 = .ok (.iconst 3, 1) := by decide +kernel
theorem dX10_partOf_49 : decode cX10_partOf 49 = .ok (.irem, 1) := by decide +kernel
theorem dX10_partOf_50 : decode cX10_partOf 50 = .ok (.ireturn, 1) := by decide +kernel
theorem dX10_has_0 : decode cX10_has 0 = .ok (.lload_n 0, 1) := by decide +kernel
theorem dX10_has_1 : decode cX10_has 1 = .ok (.iload_n 2, 1) := by decide +kernel
theorem dX10_has_2 : decode cX10_has 2 = .ok (.lshr, 1) := by decide +kernel
theorem dX10_has_3 : decode cX10_has 3 = .ok (.lconst 1, 1) := by decide +kernel
theorem dX10_has_4 : decode cX10_has 4 = .ok (.land, 1) := by decide +kernel
theorem dX10_has_5 : decode cX10_has 5 = .ok (.lconst 0, 1) := by decide +kernel
theorem dX10_has_6 : decode cX10_has 6 = .ok (.lcmp, 1) := by decide +kernel
theorem dX10_has_7 : decode cX10_has 7 = .ok (.ifCond .eq 7, 3) := by decide +kernel
theorem dX10_has_10 : decode cX10_has 10 = .ok (.iconst 1, 1) := by decide +kernel
theorem dX10_has_11 : decode cX10_has 11 = .ok (.goto 4, 3) := by decide +kernel
theorem dX10_has_14 : decode cX10_has 14 = .ok (.iconst 0, 1) := by decide +kernel
theorem dX10_has_15 : decode cX10_has 15 = .ok (.ireturn, 1) := by decide +kernel
theorem dX10_distance_0 : decode cX10_distance 0 = .ok (.iload_n 0, 1) := by decide +kernel
theorem dX10_distance_1 : decode cX10_distance 1 = .ok (.iload_n 1, 1) := by decide +kernel
theorem dX10_distance_2 : decode cX10_distance 2 = .ok (.if_icmp .ge 9, 3) := by decide +kernel
theorem dX10_distance_5 : decode cX10_distance 5 = .ok (.iload_n 1, 1) := by decide +kernel
theorem dX10_distance_6 : decode cX10_distance 6 = .ok (.iload_n 0, 1) := by decide +kernel
theorem dX10_distance_7 : decode cX10_distance 7 = .ok (.isub, 1) := by decide +kernel
theorem dX10_distance_8 : decode cX10_distance 8 = .ok (.goto 6, 3) := by decide +kernel
theorem dX10_distance_11 : decode cX10_distance 11 = .ok (.iload_n 0, 1) := by decide +kernel
theorem dX10_distance_12 : decode cX10_distance 12 = .ok (.iload_n 1, 1) := by decide +kernel
theorem dX10_distance_13 : decode cX10_distance 13 = .ok (.isub, 1) := by decide +kernel
theorem dX10_distance_14 : decode cX10_distance 14 = .ok (.ireturn, 1) := by decide +kernel
theorem dX11_init_0 : decode cX11_init 0 = .ok (.aload_n 0, 1) := by decide +kernel
theorem dX11_init_1 : decode cX11_init 1 = .ok (.invokespecial 1, 3) := by decide +kernel
theorem dX11_init_4 : decode cX11_init 4 = .ok (.aload_n 0, 1) := by decide +kernel
theorem dX11_init_5 : decode cX11_init 5 = .ok (.iconst 4, 1) := by decide +kernel
theorem dX11_init_6 : decode cX11_init 6 = .ok (.newarray .int, 2) := by decide +kernel
theorem dX11_init_8 : decode cX11_init 8 = .ok (.putfield 7, 3) := by decide +kernel
theorem dX11_init_11 : decode cX11_init 11 = .ok (.aload_n 0, 1) := by decide +kernel
theorem dX11_init_12 : decode cX11_init 12 = .ok (.bipush 20, 2) := by decide +kernel
theorem dX11_init_14 : decode cX11_init 14 = .ok (.newarray .int, 2) := by decide +kernel
theorem dX11_init_16 : decode cX11_init 16 = .ok (.putfield 13, 3) := by decide +kernel
theorem dX11_init_19 : decode cX11_init 19 = .ok (.aload_n 0, 1) := by decide +kernel
theorem dX11_init_20 : decode cX11_init 20 = .ok (.bipush 80, 2) := by decide +kernel
theorem dX11_init_22 : decode cX11_init 22 = .ok (.newarray .int, 2) := by decide +kernel
theorem dX11_init_24 : decode cX11_init 24 = .ok (.putfield 16, 3) := by decide +kernel
theorem dX11_init_27 : decode cX11_init 27 = .ok (.aload_n 0, 1) := by decide +kernel
theorem dX11_init_28 : decode cX11_init 28 = .ok (.bipush 20, 2) := by decide +kernel
theorem dX11_init_30 : decode cX11_init 30 = .ok (.newarray .int, 2) := by decide +kernel
theorem dX11_init_32 : decode cX11_init 32 = .ok (.putfield 19, 3) := by decide +kernel
theorem dX11_init_35 : decode cX11_init 35 = .ok (.aload_n 0, 1) := by decide +kernel
theorem dX11_init_36 : decode cX11_init 36 = .ok (.iconst 3, 1) := by decide +kernel
theorem dX11_init_37 : decode cX11_init 37 = .ok (.newarray .int, 2) := by decide +kernel
theorem dX11_init_39 : decode cX11_init 39 = .ok (.putfield 22, 3) := by decide +kernel
theorem dX11_init_42 : decode cX11_init 42 = .ok (.aload_n 0, 1) := by decide +kernel
theorem dX11_init_43 : decode cX11_init 43 = .ok (.bipush 18, 2) := by decide +kernel
theorem dX11_init_45 : decode cX11_init 45 = .ok (.newarray .int, 2) := by decide +kernel
theorem dX11_init_47 : decode cX11_init 47 = .ok (.putfield 25, 3) := by decide +kernel
theorem dX11_init_50 : decode cX11_init 50 = .ok (.aload_n 0, 1) := by decide +kernel
theorem dX11_init_51 : decode cX11_init 51 = .ok (.bipush 18, 2) := by decide +kernel
theorem dX11_init_53 : decode cX11_init 53 = .ok (.newarray .int, 2) := by decide +kernel
theorem dX11_init_55 : decode cX11_init 55 = .ok (.putfield 28, 3) := by decide +kernel
theorem dX11_init_58 : decode cX11_init 58 = .ok (.aload_n 0, 1) := by decide +kernel
theorem dX11_init_59 : decode cX11_init 59 = .ok (.bipush 18, 2) := by decide +kernel
theorem dX11_init_61 : decode cX11_init 61 = .ok (.newarray .int, 2) := by decide +kernel
theorem dX11_init_63 : decode cX11_init 63 = .ok (.putfield 31, 3) := by decide +kernel
theorem dX11_init_66 : decode cX11_init 66 = .ok (.aload_n 0, 1) := by decide +kernel
theorem dX11_init_67 : decode cX11_init 67 = .ok (.bipush 18, 2) := by decide +kernel
theorem dX11_init_69 : decode cX11_init 69 = .ok (.newarray .boolean, 2) := by decide +kernel
theorem dX11_init_71 : decode cX11_init 71 = .ok (.putfield 34, 3) := by decide +kernel
theorem dX11_init_74 : decode cX11_init 74 = .ok (.aload_n 0, 1) := by decide +kernel
theorem dX11_init_75 : decode cX11_init 75 = .ok (.iconst 5, 1) := by decide +kernel
theorem dX11_init_76 : decode cX11_init 76 = .ok (.newarray .int, 2) := by decide +kernel
theorem dX11_init_78 : decode cX11_init 78 = .ok (.putfield 38, 3) := by decide +kernel
theorem dX11_init_81 : decode cX11_init 81 = .ok (.aload_n 0, 1) := by decide +kernel
theorem dX11_init_82 : decode cX11_init 82 = .ok (.iconst 5, 1) := by decide +kernel
theorem dX11_init_83 : decode cX11_init 83 = .ok (.newarray .int, 2) := by decide +kernel
theorem dX11_init_85 : decode cX11_init 85 = .ok (.putfield 41, 3) := by decide +kernel
theorem dX11_init_88 : decode cX11_init 88 = .ok (.aload_n 0, 1) := by decide +kernel
theorem dX11_init_89 : decode cX11_init 89 = .ok (.sipush 235, 3) := by decide +kernel
theorem dX11_init_92 : decode cX11_init 92 = .ok (.newarray .int, 2) := by decide +kernel
theorem dX11_init_94 : decode cX11_init 94 = .ok (.putfield 44, 3) := by decide +kernel
theorem dX11_init_97 : decode cX11_init 97 = .ok (.aload_n 0, 1) := by decide +kernel
theorem dX11_init_98 : decode cX11_init 98 = .ok (.bipush 15, 2) := by decide +kernel
theorem dX11_init_100 : decode cX11_init 100 = .ok (.newarray .boolean, 2) := by decide +kernel
theorem dX11_init_102 : decode cX11_init 102 = .ok (.putfield 47, 3) := by decide +kernel
theorem dX11_init_105 : decode cX11_init 105 = .ok (.aload_n 0, 1) := by decide +kernel
theorem dX11_init_106 : decode cX11_init 106 = .ok (.sipush 250, 3) := by decide +kernel
theorem dX11_init_109 : decode cX11_init 109 = .ok (.newarray .int, 2) := by decide +kernel
theorem dX11_init_111 : decode cX11_init 111 = .ok (.putfield 50, 3) := by decide +kernel
theorem dX11_init_114 : decode cX11_init 114 = .ok (.aload_n 0, 1) := by decide +kernel
theorem dX11_init_115 : decode cX11_init 115 = .ok (.bipush 50, 2) := by decide +kernel
theorem dX11_init_117 : decode cX11_init 117 = .ok (.newarray .int, 2) := by decide +kernel
theorem dX11_init_119 : decode cX11_init 119 = .ok (.putfield 53, 3) := by decide +kernel
theorem dX11_init_122 : decode cX11_init 122 = .ok (.aload_n 0, 1) := by decide +kernel
theorem dX11_init_123 : decode cX11_init 123 = .ok (.iconst 4, 1) := by decide +kernel
theorem dX11_init_124 : decode cX11_init 124 = .ok (.newarray .int, 2) := by decide +kernel
theorem dX11_init_126 : decode cX11_init 126 = .ok (.putfield 56, 3) := by decide +kernel
theorem dX11_init_129 : decode cX11_init 129 = .ok (.aload_n 0, 1) := by decide +kernel
theorem dX11_init_130 : decode cX11_init 130 = .ok (.iconst 4, 1) := by decide +kernel
theorem dX11_init_131 : decode cX11_init 131 = .ok (.newarray .int, 2) := by decide +kernel
theorem dX11_init_133 : decode cX11_init 133 = .ok (.putfield 59, 3) := by decide +kernel
theorem dX11_init_136 : decode cX11_init 136 = .ok (.aload_n 0, 1) := by decide +kernel
theorem dX11_init_137 : decode cX11_init 137 = .ok (.iconst 4, 1) := by decide +kernel
theorem dX11_init_138 : decode cX11_init 138 = .ok (.newarray .int, 2) := by decide +kernel
theorem dX11_init_140 : decode cX11_init 140 = .ok (.putfield 62, 3) := by decide +kernel
theorem dX11_init_143 : decode cX11_init 143 = .ok (.aload_n 0, 1) := by decide +kernel
theorem dX11_init_144 : decode cX11_init 144 = .ok (.sipush 640, 3) := by decide +kernel
theorem dX11_init_147 : decode cX11_init 147 = .ok (.newarray .int, 2) := by decide +kernel
theorem dX11_init_149 : decode cX11_init 149 = .ok (.putfield 65, 3) := by decide +kernel
theorem dX11_init_152 : decode cX11_init 152 = .ok (.aload_n 0, 1) := by decide +kernel
theorem dX11_init_153 : decode cX11_init 153 = .ok (.bipush 40, 2) := by decide +kernel
theorem dX11_init_155 : decode cX11_init 155 = .ok (.newarray .int, 2) := by decide +kernel
theorem dX11_init_157 : decode cX11_init 157 = .ok (.putfield 68, 3) := by decide +kernel
theorem dX11_init_160 : decode cX11_init 160 = .ok (.aload_n 0, 1) := by decide +kernel
theorem dX11_init_161 : decode cX11_init 161 = .ok (.iconst 4, 1) := by decide +kernel
theorem dX11_init_162 : decode cX11_init 162 = .ok (.newarray .int, 2) := by decide +kernel
theorem dX11_init_164 : decode cX11_init 164 = .ok (.putfield 71, 3) := by decide +kernel
theorem dX11_init_167 : decode cX11_init 167 = .ok (.aload_n 0, 1) := by decide +kernel
theorem dX11_init_168 : decode cX11_init 168 = .ok (.bipush 17, 2) := by decide +kernel
theorem dX11_init_170 : decode cX11_init 170 = .ok (.newarray .long, 2) := by decide +kernel
theorem dX11_init_172 : decode cX11_init 172 = .ok (.putfield 74, 3) := by decide +kernel
theorem dX11_init_175 : decode cX11_init 175 = .ok (.aload_n 0, 1) := by decide +kernel
theorem dX11_init_176 : decode cX11_init 176 = .ok (.bipush 17, 2) := by decide +kernel
theorem dX11_init_178 : decode cX11_init 178 = .ok (.newarray .long, 2) := by decide +kernel
theorem dX11_init_180 : decode cX11_init 180 = .ok (.putfield 78, 3) := by decide +kernel
theorem dX11_init_183 : decode cX11_init 183 = .ok (.aload_n 0, 1) := by decide +kernel
theorem dX11_init_184 : decode cX11_init 184 = .ok (.bipush 50, 2) := by decide +kernel
theorem dX11_init_186 : decode cX11_init 186 = .ok (.newarray .int, 2) := by decide +kernel
theorem dX11_init_188 : decode cX11_init 188 = .ok (.putfield 81, 3) := by decide +kernel
theorem dX11_init_191 : decode cX11_init 191 = .ok (.aload_n 0, 1) := by decide +kernel
theorem dX11_init_192 : decode cX11_init 192 = .ok (.bipush 50, 2) := by decide +kernel
theorem dX11_init_194 : decode cX11_init 194 = .ok (.newarray .int, 2) := by decide +kernel
theorem dX11_init_196 : decode cX11_init 196 = .ok (.putfield 84, 3) := by decide +kernel
theorem dX11_init_199 : decode cX11_init 199 = .ok (.aload_n 0, 1) := by decide +kernel
theorem dX11_init_200 : decode cX11_init 200 = .ok (.bipush 20, 2) := by decide +kernel
theorem dX11_init_202 : decode cX11_init 202 = .ok (.newarray .long, 2) := by decide +kernel
theorem dX11_init_204 : decode cX11_init 204 = .ok (.putfield 87, 3) := by decide +kernel
theorem dX11_init_207 : decode cX11_init 207 = .ok (.aload_n 0, 1) := by decide +kernel
theorem dX11_init_208 : decode cX11_init 208 = .ok (.sipush 1024, 3) := by decide +kernel
theorem dX11_init_211 : decode cX11_init 211 = .ok (.newarray .int, 2) := by decide +kernel
theorem dX11_init_213 : decode cX11_init 213 = .ok (.putfield 90, 3) := by decide +kernel
theorem dX11_init_216 : decode cX11_init 216 = .ok (.aload_n 0, 1) := by decide +kernel
theorem dX11_init_217 : decode cX11_init 217 = .ok (.bipush 17, 2) := by decide +kernel
theorem dX11_init_219 : decode cX11_init 219 = .ok (.newarray .int, 2) := by decide +kernel
theorem dX11_init_221 : decode cX11_init 221 = .ok (.putfield 93, 3) := by decide +kernel
theorem dX11_init_224 : decode cX11_init 224 = .ok (.iconst 0, 1) := by decide +kernel
theorem dX11_init_225 : decode cX11_init 225 = .ok (.istore_n 1, 1) := by decide +kernel
theorem dX11_init_226 : decode cX11_init 226 = .ok (.iload_n 1, 1) := by decide +kernel
theorem dX11_init_227 : decode cX11_init 227 = .ok (.bipush 50, 2) := by decide +kernel
theorem dX11_init_229 : decode cX11_init 229 = .ok (.if_icmp .ge 41, 3) := by decide +kernel
theorem dX11_init_232 : decode cX11_init 232 = .ok (.aload_n 0, 1) := by decide +kernel
theorem dX11_init_233 : decode cX11_init 233 = .ok (.getfield 53, 3) := by decide +kernel
theorem dX11_init_236 : decode cX11_init 236 = .ok (.iload_n 1, 1) := by decide +kernel
theorem dX11_init_237 : decode cX11_init 237 = .ok (.bipush 100, 2) := by decide +kernel
theorem dX11_init_239 : decode cX11_init 239 = .ok (.iload_n 1, 1) := by decide +kernel
theorem dX11_init_240 : decode cX11_init 240 = .ok (.bipush 16, 2) := by decide +kernel
theorem dX11_init_242 : decode cX11_init 242 = .ok (.idiv, 1) := by decide +kernel
theorem dX11_init_243 : decode cX11_init 243 = .ok (.iconst 1, 1) := by decide +kernel
theorem dX11_init_244 : decode cX11_init 244 = .ok (.iadd, 1) := by decide +kernel
theorem dX11_init_245 : decode cX11_init 245 = .ok (.imul, 1) := by decide +kernel
theorem dX11_init_246 : decode cX11_init 246 = .ok (.bipush 10, 2) := by decide +kernel
theorem dX11_init_248 : decode cX11_init 248 = .ok (.iload_n 1, 1) := by decide +kernel
theorem dX11_init_249 : decode cX11_init 249 = .ok (.iconst 4, 1) := by decide +kernel
theorem dX11_init_250 : decode cX11_init 250 = .ok (.idiv, 1) := by decide +kernel
theorem dX11_init_251 : decode cX11_init 251 = .ok (.iconst 4, 1) := by decide +kernel
theorem dX11_init_252 : decode cX11_init 252 = .ok (.irem, 1) := by decide +kernel
theorem dX11_init_253 : decode cX11_init 253 = .ok (.iconst 1, 1) := by decide +kernel
theorem dX11_init_254 : decode cX11_init 254 = .ok (.iadd, 1) := by decide +kernel
theorem dX11_init_255 : decode cX11_init 255 = .ok (.imul, 1) := by decide +kernel
theorem dX11_init_256 : decode cX11_init 256 = .ok (.iadd, 1) := by decide +kernel
theorem dX11_init_257 : decode cX11_init 257 = .ok (.iload_n 1, 1) := by decide +kernel
theorem dX11_init_258 : decode cX11_init 258 = .ok (.iconst 4, 1) := by decide +kernel
theorem dX11_init_259 : decode cX11_init 259 = .ok (.irem, 1) := by decide +kernel
theorem dX11_init_260 : decode cX11_init 260 = .ok (.iadd, 1) := by decide +kernel
theorem dX11_init_261 : decode cX11_init 261 = .ok (.iconst 1, 1) := by decide +kernel
theorem dX11_init_262 : decode cX11_init 262 = .ok (.iadd, 1) := by decide +kernel
theorem dX11_init_263 : decode cX11_init 263 = .ok (.iastore, 1) := by decide +kernel
theorem dX11_init_264 : decode cX11_init 264 = .ok (.iinc 1 1, 3) := by decide +kernel
theorem dX11_init_267 : decode cX11_init 267 = .ok (.goto (-41), 3) := by decide +kernel
theorem dX11_init_270 : decode cX11_init 270 = .ok (.return_, 1) := by decide +kernel
theorem dX11_thrown_0 : decode cX11_thrown 0 = .ok (.aload_n 0, 1) := by decide +kernel
theorem dX11_thrown_1 : decode cX11_thrown 1 = .ok (.getfield 96, 3) := by decide +kernel
theorem dX11_thrown_4 : decode cX11_thrown 4 = .ok (.ireturn, 1) := by decide +kernel
theorem dX11_fails_0 : decode cX11_fails 0 = .ok (.aload_n 0, 1) := by decide +kernel
theorem dX11_fails_1 : decode cX11_fails 1 = .ok (.iload_n 1, 1) := by decide +kernel
theorem dX11_fails_2 : decode cX11_fails 2 = .ok (.putfield 96, 3) := by decide +kernel
theorem dX11_fails_5 : decode cX11_fails 5 = .ok (.iload_n 1, 1) := by decide +kernel
theorem dX11_fails_6 : decode cX11_fails 6 = .ok (.ifCond .le 7, 3) := by decide +kernel
theorem dX11_fails_9 : decode cX11_fails 9 = .ok (.iconst 1, 1) := by decide +kernel
theorem dX11_fails_10 : decode cX11_fails 10 = .ok (.goto 4, 3) := by decide +kernel
theorem dX11_fails_13 : decode cX11_fails 13 = .ok (.iconst 0, 1) := by decide +kernel
theorem dX11_fails_14 : decode cX11_fails 14 = .ok (.ireturn, 1) := by decide +kernel
theorem dX11_isIn_0 : decode cX11_isIn 0 = .ok (.iload_n 0, 1) := by decide +kernel
theorem dX11_isIn_1 : decode cX11_isIn 1 = .ok (.iload_n 1, 1) := by decide +kernel
theorem dX11_isIn_2 : decode cX11_isIn 2 = .ok (.if_icmp .lt 12, 3) := by decide +kernel
theorem dX11_isIn_5 : decode cX11_isIn 5 = .ok (.iload_n 0, 1) := by decide +kernel
theorem dX11_isIn_6 : decode cX11_isIn 6 = .ok (.iload_n 2, 1) := by decide +kernel
theorem dX11_isIn_7 : decode cX11_isIn 7 = .ok (.if_icmp .gt 7, 3) := by decide +kernel
theorem dX11_isIn_10 : decode cX11_isIn 10 = .ok (.iconst 1, 1) := by decide +kernel
theorem dX11_isIn_11 : decode cX11_isIn 11 = .ok (.goto 4, 3) := by decide +kernel
theorem dX11_isIn_14 : decode cX11_isIn 14 = .ok (.iconst 0, 1) := by decide +kernel
theorem dX11_isIn_15 : decode cX11_isIn 15 = .ok (.ireturn, 1) := by decide +kernel
theorem dX11_isWord_0 : decode cX11_isWord 0 = .ok (.iload_n 1, 1) := by decide +kernel
theorem dX11_isWord_1 : decode cX11_isWord 1 = .ok (.iconst 0, 1) := by decide +kernel
theorem dX11_isWord_2 : decode cX11_isWord 2 = .ok (.aload_n 0, 1) := by decide +kernel
theorem dX11_isWord_3 : decode cX11_isWord 3 = .ok (.getfield 100, 3) := by decide +kernel
theorem dX11_isWord_6 : decode cX11_isWord 6 = .ok (.iconst 1, 1) := by decide +kernel
theorem dX11_isWord_7 : decode cX11_isWord 7 = .ok (.isub, 1) := by decide +kernel
theorem dX11_isWord_8 : decode cX11_isWord 8 = .ok (.invokestatic 103, 3) := by decide +kernel
theorem dX11_isWord_11 : decode cX11_isWord 11 = .ok (.ireturn, 1) := by decide +kernel
theorem dX11_isDesign_0 : decode cX11_isDesign 0 = .ok (.iload_n 1, 1) := by decide +kernel
theorem dX11_isDesign_1 : decode cX11_isDesign 1 = .ok (.iconst 0, 1) := by decide +kernel
theorem dX11_isDesign_2 : decode cX11_isDesign 2 = .ok (.aload_n 0, 1) := by decide +kernel
theorem dX11_isDesign_3 : decode cX11_isDesign 3 = .ok (.getfield 107, 3) := by decide +kernel
theorem dX11_isDesign_6 : decode cX11_isDesign 6 = .ok (.iconst 1, 1) := by decide +kernel
theorem dX11_isDesign_7 : decode cX11_isDesign 7 = .ok (.isub, 1) := by decide +kernel
theorem dX11_isDesign_8 : decode cX11_isDesign 8 = .ok (.invokestatic 103, 3) := by decide +kernel
theorem dX11_isDesign_11 : decode cX11_isDesign 11 = .ok (.ireturn, 1) := by decide +kernel
theorem dX11_isDialect_0 : decode cX11_isDialect 0 = .ok (.iload_n 0, 1) := by decide +kernel
theorem dX11_isDialect_1 : decode cX11_isDialect 1 = .ok (.iconst 0, 1) := by decide +kernel
theorem dX11_isDialect_2 : decode cX11_isDialect 2 = .ok (.iconst 2, 1) := by decide +kernel
theorem dX11_isDialect_3 : decode cX11_isDialect 3 = .ok (.invokestatic 103, 3) := by decide +kernel
theorem dX11_isDialect_6 : decode cX11_isDialect 6 = .ok (.ireturn, 1) := by decide +kernel
theorem dX11_isSign_0 : decode cX11_isSign 0 = .ok (.iload_n 0, 1) := by decide +kernel
theorem dX11_isSign_1 : decode cX11_isSign 1 = .ok (.iconst 0, 1) := by decide +kernel
theorem dX11_isSign_2 : decode cX11_isSign 2 = .ok (.bipush 49, 2) := by decide +kernel
theorem dX11_isSign_4 : decode cX11_isSign 4 = .ok (.invokestatic 103, 3) := by decide +kernel
theorem dX11_isSign_7 : decode cX11_isSign 7 = .ok (.ireturn, 1) := by decide +kernel
theorem dX11_syllable_0 : decode cX11_syllable 0 = .ok (.aload_n 0, 1) := by decide +kernel
theorem dX11_syllable_1 : decode cX11_syllable 1 = .ok (.iload_n 1, 1) := by decide +kernel
theorem dX11_syllable_2 : decode cX11_syllable 2 = .ok (.iconst 0, 1) := by decide +kernel
theorem dX11_syllable_3 : decode cX11_syllable 3 = .ok (.sipush 971, 3) := by decide +kernel
theorem dX11_syllable_6 : decode cX11_syllable 6 = .ok (.invokestatic 103, 3) := by decide +kernel
theorem dX11_syllable_9 : decode cX11_syllable 9 = .ok (.ifCond .ne 7, 3) := by decide +kernel
theorem dX11_syllable_12 : decode cX11_syllable 12 = .ok (.iconst 1, 1) := by decide +kernel
theorem dX11_syllable_13 : decode cX11_syllable 13 = .ok (.goto 16, 3) := by decide +kernel
theorem dX11_syllable_16 : decode cX11_syllable 16 = .ok (.aload_n 0, 1) := by decide +kernel
theorem dX11_syllable_17 : decode cX11_syllable 17 = .ok (.getfield 110, 3) := by decide +kernel
theorem dX11_syllable_20 : decode cX11_syllable 20 = .ok (.iconst 4, 1) := by decide +kernel
theorem dX11_syllable_21 : decode cX11_syllable 21 = .ok (.if_icmp .ne 7, 3) := by decide +kernel
theorem dX11_syllable_24 : decode cX11_syllable 24 = .ok (.iconst 2, 1) := by decide +kernel
theorem dX11_syllable_25 : decode cX11_syllable 25 = .ok (.goto 4, 3) := by decide +kernel
theorem dX11_syllable_28 : decode cX11_syllable 28 = .ok (.iconst 0, 1) := by decide +kernel
theorem dX11_syllable_29 : decode cX11_syllable 29 = .ok (.invokevirtual 113, 3) := by decide +kernel
theorem dX11_syllable_32 : decode cX11_syllable 32 = .ok (.ifCond .eq 5, 3) := by decide +kernel
theorem dX11_syllable_35 : decode cX11_syllable 35 = .ok (.iconst 0, 1) := by decide +kernel
theorem dX11_syllable_36 : decode cX11_syllable 36 = .ok (.ireturn, 1) := by decide +kernel
theorem dX11_syllable_37 : decode cX11_syllable 37 = .ok (.aload_n 0, 1) := by decide +kernel
theorem dX11_syllable_38 : decode cX11_syllable 38 = .ok (.getfield 7, 3) := by decide +kernel
theorem dX11_syllable_41 : decode cX11_syllable 41 = .ok (.aload_n 0, 1) := by decide +kernel
theorem dX11_syllable_42 : decode cX11_syllable 42 = .ok (.getfield 110, 3) := by decide +kernel
theorem dX11_syllable_45 : decode cX11_syllable 45 = .ok (.iload_n 1, 1) := by decide +kernel
theorem dX11_syllable_46 : decode cX11_syllable 46 = .ok (.iastore, 1) := by decide +kernel
theorem dX11_syllable_47 : decode cX11_syllable 47 = .ok (.aload_n 0, 1) := by decide +kernel
theorem dX11_syllable_48 : decode cX11_syllable 48 = .ok (.dup, 1) := by decide +kernel
theorem dX11_syllable_49 : decode cX11_syllable 49 = .ok (.getfield 110, 3) := by decide +kernel
theorem dX11_syllable_52 : decode cX11_syllable 52 = .ok (.iconst 1, 1) := by decide +kernel
theorem dX11_syllable_53 : decode cX11_syllable 53 = .ok (.iadd, 1) := by decide +kernel
theorem dX11_syllable_54 : decode cX11_syllable 54 = .ok (.putfield 110, 3) := by decide +kernel
theorem dX11_syllable_57 : decode cX11_syllable 57 = .ok (.aload_n 0, 1) := by decide +kernel
theorem dX11_syllable_58 : decode cX11_syllable 58 = .ok (.getfield 110, 3) := by decide +kernel
theorem dX11_syllable_61 : decode cX11_syllable 61 = .ok (.ireturn, 1) := by decide +kernel
theorem dX11_word_0 : decode cX11_word 0 = .ok (.aload_n 0, 1) := by decide +kernel
theorem dX11_word_1 : decode cX11_word 1 = .ok (.iload_n 1, 1) := by decide +kernel
theorem dX11_word_2 : decode cX11_word 2 = .ok (.iconst 1, 1) := by decide +kernel
theorem dX11_word_3 : decode cX11_word 3 = .ok (.sipush 999, 3) := by decide +kernel
theorem dX11_word_6 : decode cX11_word 6 = .ok (.invokestatic 103, 3) := by decide +kernel
theorem dX11_word_9 : decode cX11_word 9 = .ok (.ifCond .ne 7, 3) := by decide +kernel
theorem dX11_word_12 : decode cX11_word 12 = .ok (.iconst 1, 1) := by decide +kernel
theorem dX11_word_13 : decode cX11_word 13 = .ok (.goto 24, 3) := by decide +kernel
theorem dX11_word_16 : decode cX11_word 16 = .ok (.aload_n 0, 1) := by decide +kernel
theorem dX11_word_17 : decode cX11_word 17 = .ok (.getfield 110, 3) := by decide +kernel
theorem dX11_word_20 : decode cX11_word 20 = .ok (.ifCond .eq 12, 3) := by decide +kernel
theorem dX11_word_23 : decode cX11_word 23 = .ok (.aload_n 0, 1) := by decide +kernel
theorem dX11_word_24 : decode cX11_word 24 = .ok (.getfield 100, 3) := by decide +kernel
theorem dX11_word_27 : decode cX11_word 27 = .ok (.bipush 20, 2) := by decide +kernel
theorem dX11_word_29 : decode cX11_word 29 = .ok (.if_icmp .ne 7, 3) := by decide +kernel
theorem dX11_word_32 : decode cX11_word 32 = .ok (.iconst 2, 1) := by decide +kernel
theorem dX11_word_33 : decode cX11_word 33 = .ok (.goto 4, 3) := by decide +kernel
theorem dX11_word_36 : decode cX11_word 36 = .ok (.iconst 0, 1) := by decide +kernel
theorem dX11_word_37 : decode cX11_word 37 = .ok (.invokevirtual 113, 3) := by decide +kernel
theorem dX11_word_40 : decode cX11_word 40 = .ok (.ifCond .eq 5, 3) := by decide +kernel
theorem dX11_word_43 : decode cX11_word 43 = .ok (.iconst 0, 1) := by decide +kernel
theorem dX11_word_44 : decode cX11_word 44 = .ok (.ireturn, 1) := by decide +kernel
theorem dX11_word_45 : decode cX11_word 45 = .ok (.iconst 0, 1) := by decide +kernel
theorem dX11_word_46 : decode cX11_word 46 = .ok (.istore_n 2, 1) := by decide +kernel
theorem dX11_word_47 : decode cX11_word 47 = .ok (.iload_n 2, 1) := by decide +kernel
theorem dX11_word_48 : decode cX11_word 48 = .ok (.aload_n 0, 1) := by decide +kernel
theorem dX11_word_49 : decode cX11_word 49 = .ok (.getfield 110, 3) := by decide +kernel
theorem dX11_word_52 : decode cX11_word 52 = .ok (.if_icmp .ge 28, 3) := by decide +kernel
theorem dX11_word_55 : decode cX11_word 55 = .ok (.aload_n 0, 1) := by decide +kernel
theorem dX11_word_56 : decode cX11_word 56 = .ok (.getfield 16, 3) := by decide +kernel
theorem dX11_word_59 : decode cX11_word 59 = .ok (.iconst 4, 1) := by decide +kernel
theorem dX11_word_60 : decode cX11_word 60 = .ok (.aload_n 0, 1) := by decide +kernel
theorem dX11_word_61 : decode cX11_word 61 = .ok (.getfield 100, 3) := by decide +kernel
theorem dX11_word_64 : decode cX11_word 64 = .ok (.imul, 1) := by decide +kernel
theorem dX11_word_65 : decode cX11_word 65 = .ok (.iload_n 2, 1) := by decide +kernel
theorem dX11_word_66 : decode cX11_word 66 = .ok (.iadd, 1) := by decide +kernel
theorem dX11_word_67 : decode cX11_word 67 = .ok (.aload_n 0, 1) := by decide +kernel
theorem dX11_word_68 : decode cX11_word 68 = .ok (.getfield 7, 3) := by decide +kernel
theorem dX11_word_71 : decode cX11_word 71 = .ok (.iload_n 2, 1) := by decide +kernel
theorem dX11_word_72 : decode cX11_word 72 = .ok (.iaload, 1) := by decide +kernel
theorem dX11_word_73 : decode cX11_word 73 = .ok (.iastore, 1) := by decide +kernel
theorem dX11_word_74 : decode cX11_word 74 = .ok (.iinc 2 1, 3) := by decide +kernel
theorem dX11_word_77 : decode cX11_word 77 = .ok (.goto (-30), 3) := by decide +kernel
theorem dX11_word_80 : decode cX11_word 80 = .ok (.aload_n 0, 1) := by decide +kernel
theorem dX11_word_81 : decode cX11_word 81 = .ok (.getfield 13, 3) := by decide +kernel
theorem dX11_word_84 : decode cX11_word 84 = .ok (.aload_n 0, 1) := by decide +kernel
theorem dX11_word_85 : decode cX11_word 85 = .ok (.getfield 100, 3) := by decide +kernel
theorem dX11_word_88 : decode cX11_word 88 = .ok (.aload_n 0, 1) := by decide +kernel
theorem dX11_word_89 : decode cX11_word 89 = .ok (.getfield 110, 3) := by decide +kernel
theorem dX11_word_92 : decode cX11_word 92 = .ok (.iastore, 1) := by decide +kernel
theorem dX11_word_93 : decode cX11_word 93 = .ok (.aload_n 0, 1) := by decide +kernel
theorem dX11_word_94 : decode cX11_word 94 = .ok (.getfield 19, 3) := by decide +kernel
theorem dX11_word_97 : decode cX11_word 97 = .ok (.aload_n 0, 1) := by decide +kernel
theorem dX11_word_98 : decode cX11_word 98 = .ok (.getfield 100, 3) := by decide +kernel
theorem dX11_word_101 : decode cX11_word 101 = .ok (.iload_n 1, 1) := by decide +kernel
theorem dX11_word_102 : decode cX11_word 102 = .ok (.iastore, 1) := by decide +kernel
theorem dX11_word_103 : decode cX11_word 103 = .ok (.aload_n 0, 1) := by decide +kernel
theorem dX11_word_104 : decode cX11_word 104 = .ok (.iconst 0, 1) := by decide +kernel
theorem dX11_word_105 : decode cX11_word 105 = .ok (.putfield 110, 3) := by decide +kernel
theorem dX11_word_108 : decode cX11_word 108 = .ok (.aload_n 0, 1) := by decide +kernel
theorem dX11_word_109 : decode cX11_word 109 = .ok (.dup, 1) := by decide +kernel
theorem dX11_word_110 : decode cX11_word 110 = .ok (.getfield 100, 3) := by decide +kernel
theorem dX11_word_113 : decode cX11_word 113 = .ok (.iconst 1, 1) := by decide +kernel
theorem dX11_word_114 : decode cX11_word 114 = .ok (.iadd, 1) := by decide +kernel
theorem dX11_word_115 : decode cX11_word 115 = .ok (.putfield 100, 3) := by decide +kernel
theorem dX11_word_118 : decode cX11_word 118 = .ok (.aload_n 0, 1) := by decide +kernel
theorem dX11_word_119 : decode cX11_word 119 = .ok (.getfield 100, 3) := by decide +kernel
theorem dX11_word_122 : decode cX11_word 122 = .ok (.iconst 1, 1) := by decide +kernel
theorem dX11_word_123 : decode cX11_word 123 = .ok (.isub, 1) := by decide +kernel
theorem dX11_word_124 : decode cX11_word 124 = .ok (.ireturn, 1) := by decide +kernel
theorem dX11_isValue_0 : decode cX11_isValue 0 = .ok (.iload_n 1, 1) := by decide +kernel
theorem dX11_isValue_1 : decode cX11_isValue 1 = .ok (.iconst 0, 1) := by decide +kernel
theorem dX11_isValue_2 : decode cX11_isValue 2 = .ok (.iload_n 0, 1) := by decide +kernel
theorem dX11_isValue_3 : decode cX11_isValue 3 = .ok (.iconst 1, 1) := by decide +kernel
theorem dX11_isValue_4 : decode cX11_isValue 4 = .ok (.if_icmp .ne 7, 3) := by decide +kernel
theorem dX11_isValue_7 : decode cX11_isValue 7 = .ok (.iconst 3, 1) := by decide +kernel
theorem dX11_isValue_8 : decode cX11_isValue 8 = .ok (.goto 14, 3) := by decide +kernel
theorem dX11_isValue_11 : decode cX11_isValue 11 = .ok (.iload_n 0, 1) := by decide +kernel
theorem dX11_isValue_12 : decode cX11_isValue 12 = .ok (.iconst 3, 1) := by decide +kernel
theorem dX11_isValue_13 : decode cX11_isValue 13 = .ok (.if_icmp .ne 7, 3) := by decide +kernel
theorem dX11_isValue_16 : decode cX11_isValue 16 = .ok (.iconst 2, 1) := by decide +kernel
theorem dX11_isValue_17 : decode cX11_isValue 17 = .ok (.goto 5, 3) := by decide +kernel
theorem dX11_isValue_20 : decode cX11_isValue 20 = .ok (.bipush 8, 2) := by decide +kernel
theorem dX11_isValue_22 : decode cX11_isValue 22 = .ok (.invokestatic 103, 3) := by decide +kernel
theorem dX11_isValue_25 : decode cX11_isValue 25 = .ok (.ireturn, 1) := by decide +kernel
theorem dX11_change_0 : decode cX11_change 0 = .ok (.iload_n 1, 1) := by decide +kernel
theorem dX11_change_1 : decode cX11_change 1 = .ok (.invokestatic 117, 3) := by decide +kernel
theorem dX11_change_4 : decode cX11_change 4 = .ok (.ifCond .eq 16, 3) := by decide +kernel
theorem dX11_change_7 : decode cX11_change 7 = .ok (.iload_n 2, 1) := by decide +kernel
theorem dX11_change_8 : decode cX11_change 8 = .ok (.iconst 0, 1) := by decide +kernel
theorem dX11_change_9 : decode cX11_change 9 = .ok (.iconst 3, 1) := by decide +kernel
theorem dX11_change_10 : decode cX11_change 10 = .ok (.invokestatic 103, 3) := by decide +kernel
theorem dX11_change_13 : decode cX11_change 13 = .ok (.ifCond .eq 7, 3) := by decide +kernel
theorem dX11_change_16 : decode cX11_change 16 = .ok (.iconst 1, 1) := by decide +kernel
theorem dX11_change_17 : decode cX11_change 17 = .ok (.goto 4, 3) := by decide +kernel
theorem dX11_change_20 : decode cX11_change 20 = .ok (.iconst 0, 1) := by decide +kernel
theorem dX11_change_21 : decode cX11_change 21 = .ok (.istore 6, 2) := by decide +kernel
theorem dX11_change_23 : decode cX11_change 23 = .ok (.iload 6, 2) := by decide +kernel
theorem dX11_change_25 : decode cX11_change 25 = .ok (.ifCond .eq 24, 3) := by decide +kernel
theorem dX11_change_28 : decode cX11_change 28 = .ok (.iload_n 2, 1) := by decide +kernel
theorem dX11_change_29 : decode cX11_change 29 = .ok (.iload_n 3, 1) := by decide +kernel
theorem dX11_change_30 : decode cX11_change 30 = .ok (.invokestatic 120, 3) := by decide +kernel
theorem dX11_change_33 : decode cX11_change 33 = .ok (.ifCond .eq 16, 3) := by decide +kernel
theorem dX11_change_36 : decode cX11_change 36 = .ok (.iload_n 2, 1) := by decide +kernel
theorem dX11_change_37 : decode cX11_change 37 = .ok (.iload 4, 2) := by decide +kernel
theorem dX11_change_39 : decode cX11_change 39 = .ok (.invokestatic 120, 3) := by decide +kernel
theorem dX11_change_42 : decode cX11_change 42 = .ok (.ifCond .eq 7, 3) := by decide +kernel
theorem dX11_change_45 : decode cX11_change 45 = .ok (.iconst 1, 1) := by decide +kernel
theorem dX11_change_46 : decode cX11_change 46 = .ok (.goto 4, 3) := by decide +kernel
theorem dX11_change_49 : decode cX11_change 49 = .ok (.iconst 0, 1) := by decide +kernel
theorem dX11_change_50 : decode cX11_change 50 = .ok (.istore 7, 2) := by decide +kernel
theorem dX11_change_52 : decode cX11_change 52 = .ok (.aload_n 0, 1) := by decide +kernel
theorem dX11_change_53 : decode cX11_change 53 = .ok (.iload 6, 2) := by decide +kernel
theorem dX11_change_55 : decode cX11_change 55 = .ok (.ifCond .ne 7, 3) := by decide +kernel
theorem dX11_change_58 : decode cX11_change 58 = .ok (.iconst 1, 1) := by decide +kernel
theorem dX11_change_59 : decode cX11_change 59 = .ok (.goto 28, 3) := by decide +kernel
theorem dX11_change_62 : decode cX11_change 62 = .ok (.iload 7, 2) := by decide +kernel
theorem dX11_change_64 : decode cX11_change 64 = .ok (.ifCond .ne 7, 3) := by decide +kernel
theorem dX11_change_67 : decode cX11_change 67 = .ok (.iconst 2, 1) := by decide +kernel
theorem dX11_change_68 : decode cX11_change 68 = .ok (.goto 19, 3) := by decide +kernel
theorem dX11_change_71 : decode cX11_change 71 = .ok (.aload_n 0, 1) := by decide +kernel
theorem dX11_change_72 : decode cX11_change 72 = .ok (.getfield 22, 3) := by decide +kernel
theorem dX11_change_75 : decode cX11_change 75 = .ok (.iload_n 1, 1) := by decide +kernel
theorem dX11_change_76 : decode cX11_change 76 = .ok (.iaload, 1) := by decide +kernel
theorem dX11_change_77 : decode cX11_change 77 = .ok (.bipush 6, 2) := by decide +kernel
theorem dX11_change_79 : decode cX11_change 79 = .ok (.if_icmp .ne 7, 3) := by decide +kernel
theorem dX11_change_82 : decode cX11_change 82 = .ok (.iconst 3, 1) := by decide +kernel
theorem dX11_change_83 : decode cX11_change 83 = .ok (.goto 4, 3) := by decide +kernel
theorem dX11_change_86 : decode cX11_change 86 = .ok (.iconst 0, 1) := by decide +kernel
theorem dX11_change_87 : decode cX11_change 87 = .ok (.invokevirtual 113, 3) := by decide +kernel
theorem dX11_change_90 : decode cX11_change 90 = .ok (.ifCond .eq 5, 3) := by decide +kernel
theorem dX11_change_93 : decode cX11_change 93 = .ok (.iconst 0, 1) := by decide +kernel
theorem dX11_change_94 : decode cX11_change 94 = .ok (.ireturn, 1) := by decide +kernel
theorem dX11_change_95 : decode cX11_change 95 = .ok (.bipush 6, 2) := by decide +kernel
theorem dX11_change_97 : decode cX11_change 97 = .ok (.iload_n 1, 1) := by decide +kernel
theorem dX11_change_98 : decode cX11_change 98 = .ok (.imul, 1) := by decide +kernel
theorem dX11_change_99 : decode cX11_change 99 = .ok (.aload_n 0, 1) := by decide +kernel
theorem dX11_change_100 : decode cX11_change 100 = .ok (.getfield 22, 3) := by decide +kernel
theorem dX11_change_103 : decode cX11_change 103 = .ok (.iload_n 1, 1) := by decide +kernel
theorem dX11_change_104 : decode cX11_change 104 = .ok (.iaload, 1) := by decide +kernel
theorem dX11_change_105 : decode cX11_change 105 = .ok (.iadd, 1) := by decide +kernel
theorem dX11_change_106 : decode cX11_change 106 = .ok (.istore 8, 2) := by decide +kernel
theorem dX11_change_108 : decode cX11_change 108 = .ok (.aload_n 0, 1) := by decide +kernel
theorem dX11_change_109 : decode cX11_change 109 = .ok (.getfield 25, 3) := by decide +kernel
theorem dX11_change_112 : decode cX11_change 112 = .ok (.iload 8, 2) := by decide +kernel
theorem dX11_change_114 : decode cX11_change 114 = .ok (.iload_n 2, 1) := by decide +kernel
theorem dX11_change_115 : decode cX11_change 115 = .ok (.iastore, 1) := by decide +kernel
theorem dX11_change_116 : decode cX11_change 116 = .ok (.aload_n 0, 1) := by decide +kernel
theorem dX11_change_117 : decode cX11_change 117 = .ok (.getfield 28, 3) := by decide +kernel
theorem dX11_change_120 : decode cX11_change 120 = .ok (.iload 8, 2) := by decide +kernel
theorem dX11_change_122 : decode cX11_change 122 = .ok (.iload_n 3, 1) := by decide +kernel
theorem dX11_change_123 : decode cX11_change 123 = .ok (.iastore, 1) := by decide +kernel
theorem dX11_change_124 : decode cX11_change 124 = .ok (.aload_n 0, 1) := by decide +kernel
theorem dX11_change_125 : decode cX11_change 125 = .ok (.getfield 31, 3) := by decide +kernel
theorem dX11_change_128 : decode cX11_change 128 = .ok (.iload 8, 2) := by decide +kernel
theorem dX11_change_130 : decode cX11_change 130 = .ok (.iload 4, 2) := by decide +kernel
theorem dX11_change_132 : decode cX11_change 132 = .ok (.iastore, 1) := by decide +kernel
theorem dX11_change_133 : decode cX11_change 133 = .ok (.aload_n 0, 1) := by decide +kernel
theorem dX11_change_134 : decode cX11_change 134 = .ok (.getfield 34, 3) := by decide +kernel
theorem dX11_change_137 : decode cX11_change 137 = .ok (.iload 8, 2) := by decide +kernel
theorem dX11_change_139 : decode cX11_change 139 = .ok (.iload 5, 2) := by decide +kernel
theorem dX11_change_141 : decode cX11_change 141 = .ok (.bastore, 1) := by decide +kernel
theorem dX11_change_142 : decode cX11_change 142 = .ok (.aload_n 0, 1) := by decide +kernel
theorem dX11_change_143 : decode cX11_change 143 = .ok (.getfield 22, 3) := by decide +kernel
theorem dX11_change_146 : decode cX11_change 146 = .ok (.iload_n 1, 1) := by decide +kernel
theorem dX11_change_147 : decode cX11_change 147 = .ok (.dup2, 1) := by decide +kernel
theorem dX11_change_148 : decode cX11_change 148 = .ok (.iaload, 1) := by decide +kernel
theorem dX11_change_149 : decode cX11_change 149 = .ok (.iconst 1, 1) := by decide +kernel
theorem dX11_change_150 : decode cX11_change 150 = .ok (.iadd, 1) := by decide +kernel
theorem dX11_change_151 : decode cX11_change 151 = .ok (.iastore, 1) := by decide +kernel
theorem dX11_change_152 : decode cX11_change 152 = .ok (.aload_n 0, 1) := by decide +kernel
theorem dX11_change_153 : decode cX11_change 153 = .ok (.getfield 22, 3) := by decide +kernel
theorem dX11_change_156 : decode cX11_change 156 = .ok (.iload_n 1, 1) := by decide +kernel
theorem dX11_change_157 : decode cX11_change 157 = .ok (.iaload, 1) := by decide +kernel
theorem dX11_change_158 : decode cX11_change 158 = .ok (.ireturn, 1) := by decide +kernel
theorem dX11_times_0 : decode cX11_times 0 = .ok (.iload_n 0, 1) := by decide +kernel
theorem dX11_times_1 : decode cX11_times 1 = .ok (.ifCond .ne 8, 3) := by decide +kernel
theorem dX11_times_4 : decode cX11_times 4 = .ok (.bipush 108, 2) := by decide +kernel
theorem dX11_times_6 : decode cX11_times 6 = .ok (.goto 23, 3) := by decide +kernel
theorem dX11_times_9 : decode cX11_times 9 = .ok (.iload_n 0, 1) := by decide +kernel
theorem dX11_times_10 : decode cX11_times 10 = .ok (.iconst 1, 1) := by decide +kernel
theorem dX11_times_11 : decode cX11_times 11 = .ok (.if_icmp .ne 8, 3) := by decide +kernel
theorem dX11_times_14 : decode cX11_times 14 = .ok (.bipush 27, 2) := by decide +kernel
theorem dX11_times_16 : decode cX11_times 16 = .ok (.goto 13, 3) := by decide +kernel
theorem dX11_times_19 : decode cX11_times 19 = .ok (.iload_n 0, 1) := by decide +kernel
theorem dX11_times_20 : decode cX11_times 20 = .ok (.iconst 2, 1) := by decide +kernel
theorem dX11_times_21 : decode cX11_times 21 = .ok (.if_icmp .ne 7, 3) := by decide +kernel
theorem dX11_times_24 : decode cX11_times 24 = .ok (.iconst 3, 1) := by decide +kernel
theorem dX11_times_25 : decode cX11_times 25 = .ok (.goto 4, 3) := by decide +kernel
theorem dX11_times_28 : decode cX11_times 28 = .ok (.iconst 1, 1) := by decide +kernel
theorem dX11_times_29 : decode cX11_times 29 = .ok (.ireturn, 1) := by decide +kernel
theorem dX11_of_0 : decode cX11_of 0 = .ok (.iload_n 1, 1) := by decide +kernel
theorem dX11_of_1 : decode cX11_of 1 = .ok (.ifCond .ne 10, 3) := by decide +kernel
theorem dX11_of_4 : decode cX11_of 4 = .ok (.iload_n 0, 1) := by decide +kernel
theorem dX11_of_5 : decode cX11_of 5 = .ok (.bipush 108, 2) := by decide +kernel
theorem dX11_of_7 : decode cX11_of 7 = .ok (.idiv, 1) := by decide +kernel
theorem dX11_of_8 : decode cX11_of 8 = .ok (.goto 34, 3) := by decide +kernel
theorem dX11_of_11 : decode cX11_of 11 = .ok (.iload_n 1, 1) := by decide +kernel
theorem dX11_of_12 : decode cX11_of 12 = .ok (.iconst 1, 1) := by decide +kernel
theorem dX11_of_13 : decode cX11_of 13 = .ok (.if_icmp .ne 12, 3) := by decide +kernel
theorem dX11_of_16 : decode cX11_of 16 = .ok (.iload_n 0, 1) := by decide +kernel
theorem dX11_of_17 : decode cX11_of 17 = .ok (.bipush 27, 2) := by decide +kernel
theorem dX11_of_19 : decode cX11_of 19 = .ok (.idiv, 1) := by decide +kernel
theorem dX11_of_20 : decode cX11_of 20 = .ok (.iconst 4, 1) := by decide +kernel
theorem dX11_of_21 : decode cX11_of 21 = .ok (.irem, 1) := by decide +kernel
theorem dX11_of_22 : decode cX11_of 22 = .ok (.goto 20, 3) := by decide +kernel
theorem dX11_of_25 : decode cX11_of 25 = .ok (.iload_n 1, 1) := by decide +kernel
theorem dX11_of_26 : decode cX11_of 26 = .ok (.iconst 2, 1) := by decide +kernel
theorem dX11_of_27 : decode cX11_of 27 = .ok (.if_icmp .ne 12, 3) := by decide +kernel
theorem dX11_of_30 : decode cX11_of 30 = .ok (.iload_n 0, 1) := by decide +kernel
theorem dX11_of_31 : decode cX11_of 31 = .ok (.iconst 3, 1) := by decide +kernel
theorem dX11_of_32 : decode cX11_of 32 = .ok (.idiv, 1) := by decide +kernel
theorem dX11_of_33 : decode cX11_of 33 = .ok (.bipush 9, 2) := by decide +kernel
theorem dX11_of_35 : decode cX11_of 35 = .ok (.irem, 1) := by decide +kernel
theorem dX11_of_36 : decode cX11_of 36 = .ok (.goto 6, 3) := by decide +kernel
theorem dX11_of_39 : decode cX11_of 39 = .ok (.iload_n 0, 1) := by decide +kernel
theorem dX11_of_40 : decode cX11_of 40 = .ok (.iconst 3, 1) := by decide +kernel
theorem dX11_of_41 : decode cX11_of 41 = .ok (.irem, 1) := by decide +kernel
theorem dX11_of_42 : decode cX11_of 42 = .ok (.ireturn, 1) := by decide +kernel
theorem dX11_speaks_0 : decode cX11_speaks 0 = .ok (.iconst 0, 1) := by decide +kernel
theorem dX11_speaks_1 : decode cX11_speaks 1 = .ok (.istore_n 3, 1) := by decide +kernel
theorem dX11_speaks_2 : decode cX11_speaks 2 = .ok (.iload_n 3, 1) := by decide +kernel
theorem dX11_speaks_3 : decode cX11_speaks 3 = .ok (.aload_n 0, 1) := by decide +kernel
theorem dX11_speaks_4 : decode cX11_speaks 4 = .ok (.getfield 13, 3) := by decide +kernel
theorem dX11_speaks_7 : decode cX11_speaks 7 = .ok (.iload_n 2, 1) := by decide +kernel
theorem dX11_speaks_8 : decode cX11_speaks 8 = .ok (.iaload, 1) := by decide +kernel
theorem dX11_speaks_9 : decode cX11_speaks 9 = .ok (.if_icmp .ge 25, 3) := by decide +kernel
theorem dX11_speaks_12 : decode cX11_speaks 12 = .ok (.aload_n 0, 1) := by decide +kernel
theorem dX11_speaks_13 : decode cX11_speaks 13 = .ok (.getfield 71, 3) := by decide +kernel
theorem dX11_speaks_16 : decode cX11_speaks 16 = .ok (.iload_n 3, 1) := by decide +kernel
theorem dX11_speaks_17 : decode cX11_speaks 17 = .ok (.aload_n 0, 1) := by decide +kernel
theorem dX11_speaks_18 : decode cX11_speaks 18 = .ok (.getfield 16, 3) := by decide +kernel
theorem dX11_speaks_21 : decode cX11_speaks 21 = .ok (.iconst 4, 1) := by decide +kernel
theorem dX11_speaks_22 : decode cX11_speaks 22 = .ok (.iload_n 2, 1) := by decide +kernel
theorem dX11_speaks_23 : decode cX11_speaks 23 = .ok (.imul, 1) := by decide +kernel
theorem dX11_speaks_24 : decode cX11_speaks 24 = .ok (.iload_n 3, 1) := by decide +kernel
theorem dX11_speaks_25 : decode cX11_speaks 25 = .ok (.iadd, 1) := by decide +kernel
theorem dX11_speaks_26 : decode cX11_speaks 26 = .ok (.iaload, 1) := by decide +kernel
theorem dX11_speaks_27 : decode cX11_speaks 27 = .ok (.iastore, 1) := by decide +kernel
theorem dX11_speaks_28 : decode cX11_speaks 28 = .ok (.iinc 3 1, 3) := by decide +kernel
theorem dX11_speaks_31 : decode cX11_speaks 31 = .ok (.goto (-29), 3) := by decide +kernel
theorem dX11_speaks_34 : decode cX11_speaks 34 = .ok (.bipush 6, 2) := by decide +kernel
theorem dX11_speaks_36 : decode cX11_speaks 36 = .ok (.iload_n 1, 1) := by decide +kernel
theorem dX11_speaks_37 : decode cX11_speaks 37 = .ok (.imul, 1) := by decide +kernel
theorem dX11_speaks_38 : decode cX11_speaks 38 = .ok (.istore_n 3, 1) := by decide +kernel
theorem dX11_speaks_39 : decode cX11_speaks 39 = .ok (.iload_n 1, 1) := by decide +kernel
theorem dX11_speaks_40 : decode cX11_speaks 40 = .ok (.iconst (-1), 1) := by decide +kernel
theorem dX11_speaks_41 : decode cX11_speaks 41 = .ok (.if_icmp .eq 122, 3) := by decide +kernel
theorem dX11_speaks_44 : decode cX11_speaks 44 = .ok (.iload_n 3, 1) := by decide +kernel
theorem dX11_speaks_45 : decode cX11_speaks 45 = .ok (.bipush 6, 2) := by decide +kernel
theorem dX11_speaks_47 : decode cX11_speaks 47 = .ok (.iload_n 1, 1) := by decide +kernel
theorem dX11_speaks_48 : decode cX11_speaks 48 = .ok (.imul, 1) := by decide +kernel
theorem dX11_speaks_49 : decode cX11_speaks 49 = .ok (.aload_n 0, 1) := by decide +kernel
theorem dX11_speaks_50 : decode cX11_speaks 50 = .ok (.getfield 22, 3) := by decide +kernel
theorem dX11_speaks_53 : decode cX11_speaks 53 = .ok (.iload_n 1, 1) := by decide +kernel
theorem dX11_speaks_54 : decode cX11_speaks 54 = .ok (.iaload, 1) := by decide +kernel
theorem dX11_speaks_55 : decode cX11_speaks 55 = .ok (.iadd, 1) := by decide +kernel
theorem dX11_speaks_56 : decode cX11_speaks 56 = .ok (.if_icmp .ge 107, 3) := by decide +kernel
theorem dX11_speaks_59 : decode cX11_speaks 59 = .ok (.aload_n 0, 1) := by decide +kernel
theorem dX11_speaks_60 : decode cX11_speaks 60 = .ok (.getfield 34, 3) := by decide +kernel
theorem dX11_speaks_63 : decode cX11_speaks 63 = .ok (.iload_n 3, 1) := by decide +kernel
theorem dX11_speaks_64 : decode cX11_speaks 64 = .ok (.baload, 1) := by decide +kernel
theorem dX11_speaks_65 : decode cX11_speaks 65 = .ok (.ifCond .eq 14, 3) := by decide +kernel
theorem dX11_speaks_68 : decode cX11_speaks 68 = .ok (.aload_n 0, 1) := by decide +kernel
theorem dX11_speaks_69 : decode cX11_speaks 69 = .ok (.getfield 13, 3) := by decide +kernel
theorem dX11_speaks_72 : decode cX11_speaks 72 = .ok (.iload_n 2, 1) := by decide +kernel
theorem dX11_speaks_73 : decode cX11_speaks 73 = .ok (.iaload, 1) := by decide +kernel
theorem dX11_speaks_74 : decode cX11_speaks 74 = .ok (.iconst 1, 1) := by decide +kernel
theorem dX11_speaks_75 : decode cX11_speaks 75 = .ok (.isub, 1) := by decide +kernel
theorem dX11_speaks_76 : decode cX11_speaks 76 = .ok (.goto 4, 3) := by decide +kernel
theorem dX11_speaks_79 : decode cX11_speaks 79 = .ok (.iconst 0, 1) := by decide +kernel
theorem dX11_speaks_80 : decode cX11_speaks 80 = .ok (.istore 4, 2) := by decide +kernel
theorem dX11_speaks_82 : decode cX11_speaks 82 = .ok (.iload 4, 2) := by decide +kernel
theorem dX11_speaks_84 : decode cX11_speaks 84 = .ok (.aload_n 0, 1) := by decide +kernel
theorem dX11_speaks_85 : decode cX11_speaks 85 = .ok (.getfield 13, 3) := by decide +kernel
theorem dX11_speaks_88 : decode cX11_speaks 88 = .ok (.iload_n 2, 1) := by decide +kernel
theorem dX11_speaks_89 : decode cX11_speaks 89 = .ok (.iaload, 1) := by decide +kernel
theorem dX11_speaks_90 : decode cX11_speaks 90 = .ok (.if_icmp .ge 67, 3) := by decide +kernel
theorem dX11_speaks_93 : decode cX11_speaks 93 = .ok (.aload_n 0, 1) := by decide +kernel
theorem dX11_speaks_94 : decode cX11_speaks 94 = .ok (.getfield 71, 3) := by decide +kernel
theorem dX11_speaks_97 : decode cX11_speaks 97 = .ok (.iload 4, 2) := by decide +kernel
theorem dX11_speaks_99 : decode cX11_speaks 99 = .ok (.iaload, 1) := by decide +kernel
theorem dX11_speaks_100 : decode cX11_speaks 100 = .ok (.aload_n 0, 1) := by decide +kernel
theorem dX11_speaks_101 : decode cX11_speaks 101 = .ok (.getfield 25, 3) := by decide +kernel
theorem dX11_speaks_104 : decode cX11_speaks 104 = .ok (.iload_n 3, 1) := by decide +kernel
theorem dX11_speaks_105 : decode cX11_speaks 105 = .ok (.iaload, 1) := by decide +kernel
theorem dX11_speaks_106 : decode cX11_speaks 106 = .ok (.invokestatic 124, 3) := by decide +kernel
theorem dX11_speaks_109 : decode cX11_speaks 109 = .ok (.aload_n 0, 1) := by decide +kernel
theorem dX11_speaks_110 : decode cX11_speaks 110 = .ok (.getfield 28, 3) := by decide +kernel
theorem dX11_speaks_113 : decode cX11_speaks 113 = .ok (.iload_n 3, 1) := by decide +kernel
theorem dX11_speaks_114 : decode cX11_speaks 114 = .ok (.iaload, 1) := by decide +kernel
theorem dX11_speaks_115 : decode cX11_speaks 115 = .ok (.if_icmp .ne 36, 3) := by decide +kernel
theorem dX11_speaks_118 : decode cX11_speaks 118 = .ok (.aload_n 0, 1) := by decide +kernel
theorem dX11_speaks_119 : decode cX11_speaks 119 = .ok (.getfield 71, 3) := by decide +kernel
theorem dX11_speaks_122 : decode cX11_speaks 122 = .ok (.iload 4, 2) := by decide +kernel
theorem dX11_speaks_124 : decode cX11_speaks 124 = .ok (.dup2, 1) := by decide +kernel
theorem dX11_speaks_125 : decode cX11_speaks 125 = .ok (.iaload, 1) := by decide +kernel
theorem dX11_speaks_126 : decode cX11_speaks 126 = .ok (.aload_n 0, 1) := by decide +kernel
theorem dX11_speaks_127 : decode cX11_speaks 127 = .ok (.getfield 31, 3) := by decide +kernel
theorem dX11_speaks_130 : decode cX11_speaks 130 = .ok (.iload_n 3, 1) := by decide +kernel
theorem dX11_speaks_131 : decode cX11_speaks 131 = .ok (.iaload, 1) := by decide +kernel
theorem dX11_speaks_132 : decode cX11_speaks 132 = .ok (.aload_n 0, 1) := by decide +kernel
theorem dX11_speaks_133 : decode cX11_speaks 133 = .ok (.getfield 28, 3) := by decide +kernel
theorem dX11_speaks_136 : decode cX11_speaks 136 = .ok (.iload_n 3, 1) := by decide +kernel
theorem dX11_speaks_137 : decode cX11_speaks 137 = .ok (.iaload, 1) := by decide +kernel
theorem dX11_speaks_138 : decode cX11_speaks 138 = .ok (.isub, 1) := by decide +kernel
theorem dX11_speaks_139 : decode cX11_speaks 139 = .ok (.aload_n 0, 1) := by decide +kernel
theorem dX11_speaks_140 : decode cX11_speaks 140 = .ok (.getfield 25, 3) := by decide +kernel
theorem dX11_speaks_143 : decode cX11_speaks 143 = .ok (.iload_n 3, 1) := by decide +kernel
theorem dX11_speaks_144 : decode cX11_speaks 144 = .ok (.iaload, 1) := by decide +kernel
theorem dX11_speaks_145 : decode cX11_speaks 145 = .ok (.invokestatic 128, 3) := by decide +kernel
theorem dX11_speaks_148 : decode cX11_speaks 148 = .ok (.imul, 1) := by decide +kernel
theorem dX11_speaks_149 : decode cX11_speaks 149 = .ok (.iadd, 1) := by decide +kernel
theorem dX11_speaks_150 : decode cX11_speaks 150 = .ok (.iastore, 1) := by decide +kernel
theorem dX11_speaks_151 : decode cX11_speaks 151 = .ok (.iinc 4 1, 3) := by decide +kernel
theorem dX11_speaks_154 : decode cX11_speaks 154 = .ok (.goto (-72), 3) := by decide +kernel
theorem dX11_speaks_157 : decode cX11_speaks 157 = .ok (.iinc 3 1, 3) := by decide +kernel
theorem dX11_speaks_160 : decode cX11_speaks 160 = .ok (.goto (-121), 3) := by decide +kernel
theorem dX11_speaks_163 : decode cX11_speaks 163 = .ok (.return_, 1) := by decide +kernel
theorem dX11_spoken_0 : decode cX11_spoken 0 = .ok (.aload_n 0, 1) := by decide +kernel
theorem dX11_spoken_1 : decode cX11_spoken 1 = .ok (.iload_n 1, 1) := by decide +kernel
theorem dX11_spoken_2 : decode cX11_spoken 2 = .ok (.iconst (-1), 1) := by decide +kernel
theorem dX11_spoken_3 : decode cX11_spoken 3 = .ok (.if_icmp .eq 10, 3) := by decide +kernel
theorem dX11_spoken_6 : decode cX11_spoken 6 = .ok (.iload_n 1, 1) := by decide +kernel
theorem dX11_spoken_7 : decode cX11_spoken 7 = .ok (.invokestatic 117, 3) := by decide +kernel
theorem dX11_spoken_10 : decode cX11_spoken 10 = .ok (.ifCond .eq 19, 3) := by decide +kernel
theorem dX11_spoken_13 : decode cX11_spoken 13 = .ok (.aload_n 0, 1) := by decide +kernel
theorem dX11_spoken_14 : decode cX11_spoken 14 = .ok (.iload_n 2, 1) := by decide +kernel
theorem dX11_spoken_15 : decode cX11_spoken 15 = .ok (.invokevirtual 132, 3) := by decide +kernel
theorem dX11_spoken_18 : decode cX11_spoken 18 = .ok (.ifCond .eq 11, 3) := by decide +kernel
theorem dX11_spoken_21 : decode cX11_spoken 21 = .ok (.iload_n 3, 1) := by decide +kernel
theorem dX11_spoken_22 : decode cX11_spoken 22 = .ok (.ifCond .lt 7, 3) := by decide +kernel
theorem dX11_spoken_25 : decode cX11_spoken 25 = .ok (.iconst 0, 1) := by decide +kernel
theorem dX11_spoken_26 : decode cX11_spoken 26 = .ok (.goto 4, 3) := by decide +kernel
theorem dX11_spoken_29 : decode cX11_spoken 29 = .ok (.iconst 1, 1) := by decide +kernel
theorem dX11_spoken_30 : decode cX11_spoken 30 = .ok (.invokevirtual 113, 3) := by decide +kernel
theorem dX11_spoken_33 : decode cX11_spoken 33 = .ok (.ifCond .eq 5, 3) := by decide +kernel
theorem dX11_spoken_36 : decode cX11_spoken 36 = .ok (.iconst 0, 1) := by decide +kernel
theorem dX11_spoken_37 : decode cX11_spoken 37 = .ok (.ireturn, 1) := by decide +kernel
theorem dX11_spoken_38 : decode cX11_spoken 38 = .ok (.aload_n 0, 1) := by decide +kernel
theorem dX11_spoken_39 : decode cX11_spoken 39 = .ok (.iload_n 1, 1) := by decide +kernel
theorem dX11_spoken_40 : decode cX11_spoken 40 = .ok (.iload_n 2, 1) := by decide +kernel
theorem dX11_spoken_41 : decode cX11_spoken 41 = .ok (.invokevirtual 135, 3) := by decide +kernel
theorem dX11_spoken_44 : decode cX11_spoken 44 = .ok (.iload_n 3, 1) := by decide +kernel
theorem dX11_spoken_45 : decode cX11_spoken 45 = .ok (.aload_n 0, 1) := by decide +kernel
theorem dX11_spoken_46 : decode cX11_spoken 46 = .ok (.getfield 13, 3) := by decide +kernel
theorem dX11_spoken_49 : decode cX11_spoken 49 = .ok (.iload_n 2, 1) := by decide +kernel
theorem dX11_spoken_50 : decode cX11_spoken 50 = .ok (.iaload, 1) := by decide +kernel
theorem dX11_spoken_51 : decode cX11_spoken 51 = .ok (.if_icmp .ge 12, 3) := by decide +kernel
theorem dX11_spoken_54 : decode cX11_spoken 54 = .ok (.aload_n 0, 1) := by decide +kernel
theorem dX11_spoken_55 : decode cX11_spoken 55 = .ok (.getfield 71, 3) := by decide +kernel
theorem dX11_spoken_58 : decode cX11_spoken 58 = .ok (.iload_n 3, 1) := by decide +kernel
theorem dX11_spoken_59 : decode cX11_spoken 59 = .ok (.iaload, 1) := by decide +kernel
theorem dX11_spoken_60 : decode cX11_spoken 60 = .ok (.goto 4, 3) := by decide +kernel
theorem dX11_spoken_63 : decode cX11_spoken 63 = .ok (.iconst (-1), 1) := by decide +kernel
theorem dX11_spoken_64 : decode cX11_spoken 64 = .ok (.ireturn, 1) := by decide +kernel
theorem dX11_design_0 : decode cX11_design 0 = .ok (.iload_n 1, 1) := by decide +kernel
theorem dX11_design_1 : decode cX11_design 1 = .ok (.iconst 0, 1) := by decide +kernel
theorem dX11_design_2 : decode cX11_design 2 = .ok (.iconst 1, 1) := by decide +kernel
theorem dX11_design_3 : decode cX11_design 3 = .ok (.invokestatic 103, 3) := by decide +kernel
theorem dX11_design_6 : decode cX11_design 6 = .ok (.ifCond .eq 16, 3) := by decide +kernel
theorem dX11_design_9 : decode cX11_design 9 = .ok (.iload_n 2, 1) := by decide +kernel
theorem dX11_design_10 : decode cX11_design 10 = .ok (.iconst (-1), 1) := by decide +kernel
theorem dX11_design_11 : decode cX11_design 11 = .ok (.iconst 2, 1) := by decide +kernel
theorem dX11_design_12 : decode cX11_design 12 = .ok (.invokestatic 103, 3) := by decide +kernel
theorem dX11_design_15 : decode cX11_design 15 = .ok (.ifCond .eq 7, 3) := by decide +kernel
theorem dX11_design_18 : decode cX11_design 18 = .ok (.iconst 1, 1) := by decide +kernel
theorem dX11_design_19 : decode cX11_design 19 = .ok (.goto 4, 3) := by decide +kernel
theorem dX11_design_22 : decode cX11_design 22 = .ok (.iconst 0, 1) := by decide +kernel
theorem dX11_design_23 : decode cX11_design 23 = .ok (.istore_n 3, 1) := by decide +kernel
theorem dX11_design_24 : decode cX11_design 24 = .ok (.aload_n 0, 1) := by decide +kernel
theorem dX11_design_25 : decode cX11_design 25 = .ok (.iload_n 3, 1) := by decide +kernel
theorem dX11_design_26 : decode cX11_design 26 = .ok (.ifCond .ne 7, 3) := by decide +kernel
theorem dX11_design_29 : decode cX11_design 29 = .ok (.iconst 1, 1) := by decide +kernel
theorem dX11_design_30 : decode cX11_design 30 = .ok (.goto 16, 3) := by decide +kernel
theorem dX11_design_33 : decode cX11_design 33 = .ok (.aload_n 0, 1) := by decide +kernel
theorem dX11_design_34 : decode cX11_design 34 = .ok (.getfield 107, 3) := by decide +kernel
theorem dX11_design_37 : decode cX11_design 37 = .ok (.iconst 5, 1) := by decide +kernel
theorem dX11_design_38 : decode cX11_design 38 = .ok (.if_icmp .ne 7, 3) := by decide +kernel
theorem dX11_design_41 : decode cX11_design 41 = .ok (.iconst 2, 1) := by decide +kernel
theorem dX11_design_42 : decode cX11_design 42 = .ok (.goto 4, 3) := by decide +kernel
theorem dX11_design_45 : decode cX11_design 45 = .ok (.iconst 0, 1) := by decide +kernel
theorem dX11_design_46 : decode cX11_design 46 = .ok (.invokevirtual 113, 3) := by decide +kernel
theorem dX11_design_49 : decode cX11_design 49 = .ok (.ifCond .eq 5, 3) := by decide +kernel
theorem dX11_design_52 : decode cX11_design 52 = .ok (.iconst 0, 1) := by decide +kernel
theorem dX11_design_53 : decode cX11_design 53 = .ok (.ireturn, 1) := by decide +kernel
theorem dX11_design_54 : decode cX11_design 54 = .ok (.aload_n 0, 1) := by decide +kernel
theorem dX11_design_55 : decode cX11_design 55 = .ok (.getfield 38, 3) := by decide +kernel
theorem dX11_design_58 : decode cX11_design 58 = .ok (.aload_n 0, 1) := by decide +kernel
theorem dX11_design_59 : decode cX11_design 59 = .ok (.getfield 107, 3) := by decide +kernel
theorem dX11_design_62 : decode cX11_design 62 = .ok (.iload_n 1, 1) := by decide +kernel
theorem dX11_design_63 : decode cX11_design 63 = .ok (.iastore, 1) := by decide +kernel
theorem dX11_design_64 : decode cX11_design 64 = .ok (.aload_n 0, 1) := by decide +kernel
theorem dX11_design_65 : decode cX11_design 65 = .ok (.getfield 41, 3) := by decide +kernel
theorem dX11_design_68 : decode cX11_design 68 = .ok (.aload_n 0, 1) := by decide +kernel
theorem dX11_design_69 : decode cX11_design 69 = .ok (.getfield 107, 3) := by decide +kernel
theorem dX11_design_72 : decode cX11_design 72 = .ok (.iload_n 2, 1) := by decide +kernel
theorem dX11_design_73 : decode cX11_design 73 = .ok (.iastore, 1) := by decide +kernel
theorem dX11_design_74 : decode cX11_design 74 = .ok (.iconst 0, 1) := by decide +kernel
theorem dX11_design_75 : decode cX11_design 75 = .ok (.istore 4, 2) := by decide +kernel
theorem dX11_design_77 : decode cX11_design 77 = .ok (.iload 4, 2) := by decide +kernel
theorem dX11_design_79 : decode cX11_design 79 = .ok (.bipush 47, 2) := by decide +kernel
theorem dX11_design_81 : decode cX11_design 81 = .ok (.if_icmp .ge 26, 3) := by decide +kernel
theorem dX11_design_84 : decode cX11_design 84 = .ok (.aload_n 0, 1) := by decide +kernel
theorem dX11_design_85 : decode cX11_design 85 = .ok (.getfield 44, 3) := by decide +kernel
theorem dX11_design_88 : decode cX11_design 88 = .ok (.bipush 47, 2) := by decide +kernel
theorem dX11_design_90 : decode cX11_design 90 = .ok (.aload_n 0, 1) := by decide +kernel
theorem dX11_design_91 : decode cX11_design 91 = .ok (.getfield 107, 3) := by decide +kernel
theorem dX11_design_94 : decode cX11_design 94 = .ok (.imul, 1) := by decide +kernel
theorem dX11_design_95 : decode cX11_design 95 = .ok (.iload 4, 2) := by decide +kernel
theorem dX11_design_97 : decode cX11_design 97 = .ok (.iadd, 1) := by decide +kernel
theorem dX11_design_98 : decode cX11_design 98 = .ok (.iload 4, 2) := by decide +kernel
theorem dX11_design_100 : decode cX11_design 100 = .ok (.iastore, 1) := by decide +kernel
theorem dX11_design_101 : decode cX11_design 101 = .ok (.iinc 4 1, 3) := by decide +kernel
theorem dX11_design_104 : decode cX11_design 104 = .ok (.goto (-27), 3) := by decide +kernel
theorem dX11_design_107 : decode cX11_design 107 = .ok (.iconst 0, 1) := by decide +kernel
theorem dX11_design_108 : decode cX11_design 108 = .ok (.istore 4, 2) := by decide +kernel
theorem dX11_design_110 : decode cX11_design 110 = .ok (.iload 4, 2) := by decide +kernel
theorem dX11_design_112 : decode cX11_design 112 = .ok (.iconst 3, 1) := by decide +kernel
theorem dX11_design_113 : decode cX11_design 113 = .ok (.if_icmp .ge 24, 3) := by decide +kernel
theorem dX11_design_116 : decode cX11_design 116 = .ok (.aload_n 0, 1) := by decide +kernel
theorem dX11_design_117 : decode cX11_design 117 = .ok (.getfield 47, 3) := by decide +kernel
theorem dX11_design_120 : decode cX11_design 120 = .ok (.iconst 3, 1) := by decide +kernel
theorem dX11_design_121 : decode cX11_design 121 = .ok (.aload_n 0, 1) := by decide +kernel
theorem dX11_design_122 : decode cX11_design 122 = .ok (.getfield 107, 3) := by decide +kernel
theorem dX11_design_125 : decode cX11_design 125 = .ok (.imul, 1) := by decide +kernel
theorem dX11_design_126 : decode cX11_design 126 = .ok (.iload 4, 2) := by decide +kernel
theorem dX11_design_128 : decode cX11_design 128 = .ok (.iadd, 1) := by decide +kernel
theorem dX11_design_129 : decode cX11_design 129 = .ok (.iconst 1, 1) := by decide +kernel
theorem dX11_design_130 : decode cX11_design 130 = .ok (.bastore, 1) := by decide +kernel
theorem dX11_design_131 : decode cX11_design 131 = .ok (.iinc 4 1, 3) := by decide +kernel
theorem dX11_design_134 : decode cX11_design 134 = .ok (.goto (-24), 3) := by decide +kernel
theorem dX11_design_137 : decode cX11_design 137 = .ok (.iconst 0, 1) := by decide +kernel
theorem dX11_design_138 : decode cX11_design 138 = .ok (.istore 4, 2) := by decide +kernel
theorem dX11_design_140 : decode cX11_design 140 = .ok (.iload 4, 2) := by decide +kernel
theorem dX11_design_142 : decode cX11_design 142 = .ok (.bipush 50, 2) := by decide +kernel
theorem dX11_design_144 : decode cX11_design 144 = .ok (.if_icmp .ge 26, 3) := by decide +kernel
theorem dX11_design_147 : decode cX11_design 147 = .ok (.aload_n 0, 1) := by decide +kernel
theorem dX11_design_148 : decode cX11_design 148 = .ok (.getfield 50, 3) := by decide +kernel
theorem dX11_design_151 : decode cX11_design 151 = .ok (.bipush 50, 2) := by decide +kernel
theorem dX11_design_153 : decode cX11_design 153 = .ok (.aload_n 0, 1) := by decide +kernel
theorem dX11_design_154 : decode cX11_design 154 = .ok (.getfield 107, 3) := by decide +kernel
theorem dX11_design_157 : decode cX11_design 157 = .ok (.imul, 1) := by decide +kernel
theorem dX11_design_158 : decode cX11_design 158 = .ok (.iload 4, 2) := by decide +kernel
theorem dX11_design_160 : decode cX11_design 160 = .ok (.iadd, 1) := by decide +kernel
theorem dX11_design_161 : decode cX11_design 161 = .ok (.iload 4, 2) := by decide +kernel
theorem dX11_design_163 : decode cX11_design 163 = .ok (.iastore, 1) := by decide +kernel
theorem dX11_design_164 : decode cX11_design 164 = .ok (.iinc 4 1, 3) := by decide +kernel
theorem dX11_design_167 : decode cX11_design 167 = .ok (.goto (-27), 3) := by decide +kernel
theorem dX11_design_170 : decode cX11_design 170 = .ok (.aload_n 0, 1) := by decide +kernel
theorem dX11_design_171 : decode cX11_design 171 = .ok (.dup, 1) := by decide +kernel
theorem dX11_design_172 : decode cX11_design 172 = .ok (.getfield 107, 3) := by decide +kernel
theorem dX11_design_175 : decode cX11_design 175 = .ok (.iconst 1, 1) := by decide +kernel
theorem dX11_design_176 : decode cX11_design 176 = .ok (.iadd, 1) := by decide +kernel
theorem dX11_design_177 : decode cX11_design 177 = .ok (.putfield 107, 3) := by decide +kernel
theorem dX11_design_180 : decode cX11_design 180 = .ok (.aload_n 0, 1) := by decide +kernel
theorem dX11_design_181 : decode cX11_design 181 = .ok (.getfield 107, 3) := by decide +kernel
theorem dX11_design_184 : decode cX11_design 184 = .ok (.iconst 1, 1) := by decide +kernel
theorem dX11_design_185 : decode cX11_design 185 = .ok (.isub, 1) := by decide +kernel
theorem dX11_design_186 : decode cX11_design 186 = .ok (.ireturn, 1) := by decide +kernel
theorem dX11_isUnit_0 : decode cX11_isUnit 0 = .ok (.iload_n 2, 1) := by decide +kernel
theorem dX11_isUnit_1 : decode cX11_isUnit 1 = .ok (.iconst 0, 1) := by decide +kernel
theorem dX11_isUnit_2 : decode cX11_isUnit 2 = .ok (.aload_n 0, 1) := by decide +kernel
theorem dX11_isUnit_3 : decode cX11_isUnit 3 = .ok (.getfield 38, 3) := by decide +kernel
theorem dX11_isUnit_6 : decode cX11_isUnit 6 = .ok (.iload_n 1, 1) := by decide +kernel
theorem dX11_isUnit_7 : decode cX11_isUnit 7 = .ok (.iaload, 1) := by decide +kernel
theorem dX11_isUnit_8 : decode cX11_isUnit 8 = .ok (.ifCond .ne 8, 3) := by decide +kernel
theorem dX11_isUnit_11 : decode cX11_isUnit 11 = .ok (.bipush 11, 2) := by decide +kernel
theorem dX11_isUnit_13 : decode cX11_isUnit 13 = .ok (.goto 5, 3) := by decide +kernel
theorem dX11_isUnit_16 : decode cX11_isUnit 16 = .ok (.bipush 43, 2) := by decide +kernel
theorem dX11_isUnit_18 : decode cX11_isUnit 18 = .ok (.invokestatic 103, 3) := by decide +kernel
theorem dX11_isUnit_21 : decode cX11_isUnit 21 = .ok (.ifCond .ne 14, 3) := by decide +kernel
theorem dX11_isUnit_24 : decode cX11_isUnit 24 = .ok (.iload_n 2, 1) := by decide +kernel
theorem dX11_isUnit_25 : decode cX11_isUnit 25 = .ok (.bipush 44, 2) := by decide +kernel
theorem dX11_isUnit_27 : decode cX11_isUnit 27 = .ok (.bipush 46, 2) := by decide +kernel
theorem dX11_isUnit_29 : decode cX11_isUnit 29 = .ok (.invokestatic 103, 3) := by decide +kernel
theorem dX11_isUnit_32 : decode cX11_isUnit 32 = .ok (.ifCond .eq 7, 3) := by decide +kernel
theorem dX11_isUnit_35 : decode cX11_isUnit 35 = .ok (.iconst 1, 1) := by decide +kernel
theorem dX11_isUnit_36 : decode cX11_isUnit 36 = .ok (.goto 4, 3) := by decide +kernel
theorem dX11_isUnit_39 : decode cX11_isUnit 39 = .ok (.iconst 0, 1) := by decide +kernel
theorem dX11_isUnit_40 : decode cX11_isUnit 40 = .ok (.ireturn, 1) := by decide +kernel
theorem dX11_units_0 : decode cX11_units 0 = .ok (.iconst 0, 1) := by decide +kernel
theorem dX11_units_1 : decode cX11_units 1 = .ok (.istore 5, 2) := by decide +kernel
theorem dX11_units_3 : decode cX11_units 3 = .ok (.iload_n 2, 1) := by decide +kernel
theorem dX11_units_4 : decode cX11_units 4 = .ok (.istore 6, 2) := by decide +kernel
theorem dX11_units_6 : decode cX11_units 6 = .ok (.iload 6, 2) := by decide +kernel
theorem dX11_units_8 : decode cX11_units 8 = .ok (.iload_n 3, 1) := by decide +kernel
theorem dX11_units_9 : decode cX11_units 9 = .ok (.if_icmp .gt 46, 3) := by decide +kernel
theorem dX11_units_12 : decode cX11_units 12 = .ok (.iload 5, 2) := by decide +kernel
theorem dX11_units_14 : decode cX11_units 14 = .ok (.aload_n 0, 1) := by decide +kernel
theorem dX11_units_15 : decode cX11_units 15 = .ok (.iload_n 1, 1) := by decide +kernel
theorem dX11_units_16 : decode cX11_units 16 = .ok (.iload 6, 2) := by decide +kernel
theorem dX11_units_18 : decode cX11_units 18 = .ok (.invokevirtual 139, 3) := by decide +kernel
theorem dX11_units_21 : decode cX11_units 21 = .ok (.ifCond .eq 24, 3) := by decide +kernel
theorem dX11_units_24 : decode cX11_units 24 = .ok (.aload_n 0, 1) := by decide +kernel
theorem dX11_units_25 : decode cX11_units 25 = .ok (.getfield 44, 3) := by decide +kernel
theorem dX11_units_28 : decode cX11_units 28 = .ok (.bipush 47, 2) := by decide +kernel
theorem dX11_units_30 : decode cX11_units 30 = .ok (.iload_n 1, 1) := by decide +kernel
theorem dX11_units_31 : decode cX11_units 31 = .ok (.imul, 1) := by decide +kernel
theorem dX11_units_32 : decode cX11_units 32 = .ok (.iload 6, 2) := by decide +kernel
theorem dX11_units_34 : decode cX11_units 34 = .ok (.iadd, 1) := by decide +kernel
theorem dX11_units_35 : decode cX11_units 35 = .ok (.iaload, 1) := by decide +kernel
theorem dX11_units_36 : decode cX11_units 36 = .ok (.iload 4, 2) := by decide +kernel
theorem dX11_units_38 : decode cX11_units 38 = .ok (.if_icmp .ne 7, 3) := by decide +kernel
theorem dX11_units_41 : decode cX11_units 41 = .ok (.iconst 1, 1) := by decide +kernel
theorem dX11_units_42 : decode cX11_units 42 = .ok (.goto 4, 3) := by decide +kernel
theorem dX11_units_45 : decode cX11_units 45 = .ok (.iconst 0, 1) := by decide +kernel
theorem dX11_units_46 : decode cX11_units 46 = .ok (.iadd, 1) := by decide +kernel
theorem dX11_units_47 : decode cX11_units 47 = .ok (.istore 5, 2) := by decide +kernel
theorem dX11_units_49 : decode cX11_units 49 = .ok (.iinc 6 1, 3) := by decide +kernel
theorem dX11_units_52 : decode cX11_units 52 = .ok (.goto (-46), 3) := by decide +kernel
theorem dX11_units_55 : decode cX11_units 55 = .ok (.iload 5, 2) := by decide +kernel
theorem dX11_units_57 : decode cX11_units 57 = .ok (.ireturn, 1) := by decide +kernel
theorem dX11_isOf_0 : decode cX11_isOf 0 = .ok (.aload_n 0, 1) := by decide +kernel
theorem dX11_isOf_1 : decode cX11_isOf 1 = .ok (.iload_n 1, 1) := by decide +kernel
theorem dX11_isOf_2 : decode cX11_isOf 2 = .ok (.iconst 0, 1) := by decide +kernel
theorem dX11_isOf_3 : decode cX11_isOf 3 = .ok (.bipush 46, 2) := by decide +kernel
theorem dX11_isOf_5 : decode cX11_isOf 5 = .ok (.iload_n 2, 1) := by decide +kernel
theorem dX11_isOf_6 : decode cX11_isOf 6 = .ok (.invokevirtual 142, 3) := by decide +kernel
theorem dX11_isOf_9 : decode cX11_isOf 9 = .ok (.ifCond .le 7, 3) := by decide +kernel
theorem dX11_isOf_12 : decode cX11_isOf 12 = .ok (.iconst 1, 1) := by decide +kernel
theorem dX11_isOf_13 : decode cX11_isOf 13 = .ok (.goto 4, 3) := by decide +kernel
theorem dX11_isOf_16 : decode cX11_isOf 16 = .ok (.iconst 0, 1) := by decide +kernel
theorem dX11_isOf_17 : decode cX11_isOf 17 = .ok (.ireturn, 1) := by decide +kernel
theorem dX11_assign_0 : decode cX11_assign 0 = .ok (.aload_n 0, 1) := by decide +kernel
theorem dX11_assign_1 : decode cX11_assign 1 = .ok (.iload_n 1, 1) := by decide +kernel
theorem dX11_assign_2 : decode cX11_assign 2 = .ok (.invokevirtual 146, 3) := by decide +kernel
theorem dX11_assign_5 : decode cX11_assign 5 = .ok (.ifCond .eq 16, 3) := by decide +kernel
theorem dX11_assign_8 : decode cX11_assign 8 = .ok (.aload_n 0, 1) := by decide +kernel
theorem dX11_assign_9 : decode cX11_assign 9 = .ok (.iload_n 1, 1) := by decide +kernel
theorem dX11_assign_10 : decode cX11_assign 10 = .ok (.iload_n 2, 1) := by decide +kernel
theorem dX11_assign_11 : decode cX11_assign 11 = .ok (.invokevirtual 139, 3) := by decide +kernel
theorem dX11_assign_14 : decode cX11_assign 14 = .ok (.ifCond .eq 7, 3) := by decide +kernel
theorem dX11_assign_17 : decode cX11_assign 17 = .ok (.iconst 1, 1) := by decide +kernel
theorem dX11_assign_18 : decode cX11_assign 18 = .ok (.goto 4, 3) := by decide +kernel
theorem dX11_assign_21 : decode cX11_assign 21 = .ok (.iconst 0, 1) := by decide +kernel
theorem dX11_assign_22 : decode cX11_assign 22 = .ok (.istore 5, 2) := by decide +kernel
theorem dX11_assign_24 : decode cX11_assign 24 = .ok (.iload 5, 2) := by decide +kernel
theorem dX11_assign_26 : decode cX11_assign 26 = .ok (.ifCond .eq 17, 3) := by decide +kernel
theorem dX11_assign_29 : decode cX11_assign 29 = .ok (.aload_n 0, 1) := by decide +kernel
theorem dX11_assign_30 : decode cX11_assign 30 = .ok (.getfield 44, 3) := by decide +kernel
theorem dX11_assign_33 : decode cX11_assign 33 = .ok (.bipush 47, 2) := by decide +kernel
theorem dX11_assign_35 : decode cX11_assign 35 = .ok (.iload_n 1, 1) := by decide +kernel
theorem dX11_assign_36 : decode cX11_assign 36 = .ok (.imul, 1) := by decide +kernel
theorem dX11_assign_37 : decode cX11_assign 37 = .ok (.iload_n 2, 1) := by decide +kernel
theorem dX11_assign_38 : decode cX11_assign 38 = .ok (.iadd, 1) := by decide +kernel
theorem dX11_assign_39 : decode cX11_assign 39 = .ok (.iaload, 1) := by decide +kernel
theorem dX11_assign_40 : decode cX11_assign 40 = .ok (.goto 4, 3) := by decide +kernel
theorem dX11_assign_43 : decode cX11_assign 43 = .ok (.iconst 0, 1) := by decide +kernel
theorem dX11_assign_44 : decode cX11_assign 44 = .ok (.istore 6, 2) := by decide +kernel
theorem dX11_assign_46 : decode cX11_assign 46 = .ok (.iload 5, 2) := by decide +kernel
theorem dX11_assign_48 : decode cX11_assign 48 = .ok (.ifCond .eq 37, 3) := by decide +kernel
theorem dX11_assign_51 : decode cX11_assign 51 = .ok (.iload_n 3, 1) := by decide +kernel
theorem dX11_assign_52 : decode cX11_assign 52 = .ok (.invokestatic 149, 3) := by decide +kernel
theorem dX11_assign_55 : decode cX11_assign 55 = .ok (.ifCond .eq 30, 3) := by decide +kernel
theorem dX11_assign_58 : decode cX11_assign 58 = .ok (.aload_n 0, 1) := by decide +kernel
theorem dX11_assign_59 : decode cX11_assign 59 = .ok (.iload_n 1, 1) := by decide +kernel
theorem dX11_assign_60 : decode cX11_assign 60 = .ok (.iconst 0, 1) := by decide +kernel
theorem dX11_assign_61 : decode cX11_assign 61 = .ok (.bipush 46, 2) := by decide +kernel
theorem dX11_assign_63 : decode cX11_assign 63 = .ok (.iload_n 3, 1) := by decide +kernel
theorem dX11_assign_64 : decode cX11_assign 64 = .ok (.invokevirtual 142, 3) := by decide +kernel
theorem dX11_assign_67 : decode cX11_assign 67 = .ok (.iload 6, 2) := by decide +kernel
theorem dX11_assign_69 : decode cX11_assign 69 = .ok (.iload_n 3, 1) := by decide +kernel
theorem dX11_assign_70 : decode cX11_assign 70 = .ok (.if_icmp .ne 7, 3) := by decide +kernel
theorem dX11_assign_73 : decode cX11_assign 73 = .ok (.iconst 1, 1) := by decide +kernel
theorem dX11_assign_74 : decode cX11_assign 74 = .ok (.goto 4, 3) := by decide +kernel
theorem dX11_assign_77 : decode cX11_assign 77 = .ok (.iconst 0, 1) := by decide +kernel
theorem dX11_assign_78 : decode cX11_assign 78 = .ok (.if_icmp .le 7, 3) := by decide +kernel
theorem dX11_assign_81 : decode cX11_assign 81 = .ok (.iconst 1, 1) := by decide +kernel
theorem dX11_assign_82 : decode cX11_assign 82 = .ok (.goto 4, 3) := by decide +kernel
theorem dX11_assign_85 : decode cX11_assign 85 = .ok (.iconst 0, 1) := by decide +kernel
theorem dX11_assign_86 : decode cX11_assign 86 = .ok (.istore 7, 2) := by decide +kernel
theorem dX11_assign_88 : decode cX11_assign 88 = .ok (.aload_n 0, 1) := by decide +kernel
theorem dX11_assign_89 : decode cX11_assign 89 = .ok (.iload 5, 2) := by decide +kernel
theorem dX11_assign_91 : decode cX11_assign 91 = .ok (.ifCond .ne 7, 3) := by decide +kernel
theorem dX11_assign_94 : decode cX11_assign 94 = .ok (.iconst 1, 1) := by decide +kernel
theorem dX11_assign_95 : decode cX11_assign 95 = .ok (.goto 29, 3) := by decide +kernel
theorem dX11_assign_98 : decode cX11_assign 98 = .ok (.iload_n 3, 1) := by decide +kernel
theorem dX11_assign_99 : decode cX11_assign 99 = .ok (.invokestatic 149, 3) := by decide +kernel
theorem dX11_assign_102 : decode cX11_assign 102 = .ok (.ifCond .ne 7, 3) := by decide +kernel
theorem dX11_assign_105 : decode cX11_assign 105 = .ok (.iconst 2, 1) := by decide +kernel
theorem dX11_assign_106 : decode cX11_assign 106 = .ok (.goto 18, 3) := by decide +kernel
theorem dX11_assign_109 : decode cX11_assign 109 = .ok (.iload 7, 2) := by decide +kernel
theorem dX11_assign_111 : decode cX11_assign 111 = .ok (.ifCond .eq 12, 3) := by decide +kernel
theorem dX11_assign_114 : decode cX11_assign 114 = .ok (.iload 4, 2) := by decide +kernel
theorem dX11_assign_116 : decode cX11_assign 116 = .ok (.ifCond .ne 7, 3) := by decide +kernel
theorem dX11_assign_119 : decode cX11_assign 119 = .ok (.iconst 3, 1) := by decide +kernel
theorem dX11_assign_120 : decode cX11_assign 120 = .ok (.goto 4, 3) := by decide +kernel
theorem dX11_assign_123 : decode cX11_assign 123 = .ok (.iconst 0, 1) := by decide +kernel
theorem dX11_assign_124 : decode cX11_assign 124 = .ok (.invokevirtual 113, 3) := by decide +kernel
theorem dX11_assign_127 : decode cX11_assign 127 = .ok (.ifCond .eq 5, 3) := by decide +kernel
theorem dX11_assign_130 : decode cX11_assign 130 = .ok (.iconst 0, 1) := by decide +kernel
theorem dX11_assign_131 : decode cX11_assign 131 = .ok (.ireturn, 1) := by decide +kernel
theorem dX11_assign_132 : decode cX11_assign 132 = .ok (.aload_n 0, 1) := by decide +kernel
theorem dX11_assign_133 : decode cX11_assign 133 = .ok (.getfield 44, 3) := by decide +kernel
theorem dX11_assign_136 : decode cX11_assign 136 = .ok (.bipush 47, 2) := by decide +kernel
theorem dX11_assign_138 : decode cX11_assign 138 = .ok (.iload_n 1, 1) := by decide +kernel
theorem dX11_assign_139 : decode cX11_assign 139 = .ok (.imul, 1) := by decide +kernel
theorem dX11_assign_140 : decode cX11_assign 140 = .ok (.iload_n 2, 1) := by decide +kernel
theorem dX11_assign_141 : decode cX11_assign 141 = .ok (.iadd, 1) := by decide +kernel
theorem dX11_assign_142 : decode cX11_assign 142 = .ok (.iload_n 3, 1) := by decide +kernel
theorem dX11_assign_143 : decode cX11_assign 143 = .ok (.iastore, 1) := by decide +kernel
theorem dX11_assign_144 : decode cX11_assign 144 = .ok (.iload 6, 2) := by decide +kernel
theorem dX11_assign_146 : decode cX11_assign 146 = .ok (.ireturn, 1) := by decide +kernel
theorem dX11_mark_0 : decode cX11_mark 0 = .ok (.aload_n 0, 1) := by decide +kernel
theorem dX11_mark_1 : decode cX11_mark 1 = .ok (.aload_n 0, 1) := by decide +kernel
theorem dX11_mark_2 : decode cX11_mark 2 = .ok (.iload_n 1, 1) := by decide +kernel
theorem dX11_mark_3 : decode cX11_mark 3 = .ok (.invokevirtual 146, 3) := by decide +kernel
theorem dX11_mark_6 : decode cX11_mark 6 = .ok (.ifCond .eq 16, 3) := by decide +kernel
theorem dX11_mark_9 : decode cX11_mark 9 = .ok (.iload_n 2, 1) := by decide +kernel
theorem dX11_mark_10 : decode cX11_mark 10 = .ok (.iconst 0, 1) := by decide +kernel
theorem dX11_mark_11 : decode cX11_mark 11 = .ok (.iconst 2, 1) := by decide +kernel
theorem dX11_mark_12 : decode cX11_mark 12 = .ok (.invokestatic 103, 3) := by decide +kernel
theorem dX11_mark_15 : decode cX11_mark 15 = .ok (.ifCond .eq 7, 3) := by decide +kernel
theorem dX11_mark_18 : decode cX11_mark 18 = .ok (.iconst 0, 1) := by decide +kernel
theorem dX11_mark_19 : decode cX11_mark 19 = .ok (.goto 4, 3) := by decide +kernel
theorem dX11_mark_22 : decode cX11_mark 22 = .ok (.iconst 1, 1) := by decide +kernel
theorem dX11_mark_23 : decode cX11_mark 23 = .ok (.invokevirtual 113, 3) := by decide +kernel
theorem dX11_mark_26 : decode cX11_mark 26 = .ok (.ifCond .eq 5, 3) := by decide +kernel
theorem dX11_mark_29 : decode cX11_mark 29 = .ok (.iconst 0, 1) := by decide +kernel
theorem dX11_mark_30 : decode cX11_mark 30 = .ok (.ireturn, 1) := by decide +kernel
theorem dX11_mark_31 : decode cX11_mark 31 = .ok (.aload_n 0, 1) := by decide +kernel
theorem dX11_mark_32 : decode cX11_mark 32 = .ok (.getfield 47, 3) := by decide +kernel
theorem dX11_mark_35 : decode cX11_mark 35 = .ok (.iconst 3, 1) := by decide +kernel
theorem dX11_mark_36 : decode cX11_mark 36 = .ok (.iload_n 1, 1) := by decide +kernel
theorem dX11_mark_37 : decode cX11_mark 37 = .ok (.imul, 1) := by decide +kernel
theorem dX11_mark_38 : decode cX11_mark 38 = .ok (.iload_n 2, 1) := by decide +kernel
theorem dX11_mark_39 : decode cX11_mark 39 = .ok (.iadd, 1) := by decide +kernel
theorem dX11_mark_40 : decode cX11_mark 40 = .ok (.baload, 1) := by decide +kernel
theorem dX11_mark_41 : decode cX11_mark 41 = .ok (.istore 4, 2) := by decide +kernel
theorem dX11_mark_43 : decode cX11_mark 43 = .ok (.aload_n 0, 1) := by decide +kernel
theorem dX11_mark_44 : decode cX11_mark 44 = .ok (.getfield 47, 3) := by decide +kernel
theorem dX11_mark_47 : decode cX11_mark 47 = .ok (.iconst 3, 1) := by decide +kernel
theorem dX11_mark_48 : decode cX11_mark 48 = .ok (.iload_n 1, 1) := by decide +kernel
theorem dX11_mark_49 : decode cX11_mark 49 = .ok (.imul, 1) := by decide +kernel
theorem dX11_mark_50 : decode cX11_mark 50 = .ok (.iload_n 2, 1) := by decide +kernel
theorem dX11_mark_51 : decode cX11_mark 51 = .ok (.iadd, 1) := by decide +kernel
theorem dX11_mark_52 : decode cX11_mark 52 = .ok (.iload_n 3, 1) := by decide +kernel
theorem dX11_mark_53 : decode cX11_mark 53 = .ok (.bastore, 1) := by decide +kernel
theorem dX11_mark_54 : decode cX11_mark 54 = .ok (.iload 4, 2) := by decide +kernel
theorem dX11_mark_56 : decode cX11_mark 56 = .ok (.ireturn, 1) := by decide +kernel
theorem dX11_spells_0 : decode cX11_spells 0 = .ok (.aload_n 0, 1) := by decide +kernel
theorem dX11_spells_1 : decode cX11_spells 1 = .ok (.iload_n 2, 1) := by decide +kernel
theorem dX11_spells_2 : decode cX11_spells 2 = .ok (.iload_n 3, 1) := by decide +kernel
theorem dX11_spells_3 : decode cX11_spells 3 = .ok (.invokevirtual 135, 3) := by decide +kernel
theorem dX11_spells_6 : decode cX11_spells 6 = .ok (.bipush 16, 2) := by decide +kernel
theorem dX11_spells_8 : decode cX11_spells 8 = .ok (.iload 4, 2) := by decide +kernel
theorem dX11_spells_10 : decode cX11_spells 10 = .ok (.imul, 1) := by decide +kernel
theorem dX11_spells_11 : decode cX11_spells 11 = .ok (.istore 5, 2) := by decide +kernel
theorem dX11_spells_13 : decode cX11_spells 13 = .ok (.bipush 47, 2) := by decide +kernel
theorem dX11_spells_15 : decode cX11_spells 15 = .ok (.iload_n 1, 1) := by decide +kernel
theorem dX11_spells_16 : decode cX11_spells 16 = .ok (.imul, 1) := by decide +kernel
theorem dX11_spells_17 : decode cX11_spells 17 = .ok (.istore 6, 2) := by decide +kernel
theorem dX11_spells_19 : decode cX11_spells 19 = .ok (.iconst 0, 1) := by decide +kernel
theorem dX11_spells_20 : decode cX11_spells 20 = .ok (.istore 7, 2) := by decide +kernel
theorem dX11_spells_22 : decode cX11_spells 22 = .ok (.iload 7, 2) := by decide +kernel
theorem dX11_spells_24 : decode cX11_spells 24 = .ok (.aload_n 0, 1) := by decide +kernel
theorem dX11_spells_25 : decode cX11_spells 25 = .ok (.getfield 13, 3) := by decide +kernel
theorem dX11_spells_28 : decode cX11_spells 28 = .ok (.iload_n 3, 1) := by decide +kernel
theorem dX11_spells_29 : decode cX11_spells 29 = .ok (.iaload, 1) := by decide +kernel
theorem dX11_spells_30 : decode cX11_spells 30 = .ok (.if_icmp .ge 220, 3) := by decide +kernel
theorem dX11_spells_33 : decode cX11_spells 33 = .ok (.aload_n 0, 1) := by decide +kernel
theorem dX11_spells_34 : decode cX11_spells 34 = .ok (.getfield 71, 3) := by decide +kernel
theorem dX11_spells_37 : decode cX11_spells 37 = .ok (.iload 7, 2) := by decide +kernel
theorem dX11_spells_39 : decode cX11_spells 39 = .ok (.iaload, 1) := by decide +kernel
theorem dX11_spells_40 : decode cX11_spells 40 = .ok (.iconst 0, 1) := by decide +kernel
theorem dX11_spells_41 : decode cX11_spells 41 = .ok (.invokestatic 124, 3) := by decide +kernel
theorem dX11_spells_44 : decode cX11_spells 44 = .ok (.istore 8, 2) := by decide +kernel
theorem dX11_spells_46 : decode cX11_spells 46 = .ok (.aload_n 0, 1) := by decide +kernel
theorem dX11_spells_47 : decode cX11_spells 47 = .ok (.getfield 71, 3) := by decide +kernel
theorem dX11_spells_50 : decode cX11_spells 50 = .ok (.iload 7, 2) := by decide +kernel
theorem dX11_spells_52 : decode cX11_spells 52 = .ok (.iaload, 1) := by decide +kernel
theorem dX11_spells_53 : decode cX11_spells 53 = .ok (.iconst 1, 1) := by decide +kernel
theorem dX11_spells_54 : decode cX11_spells 54 = .ok (.invokestatic 124, 3) := by decide +kernel
theorem dX11_spells_57 : decode cX11_spells 57 = .ok (.istore 9, 2) := by decide +kernel
theorem dX11_spells_59 : decode cX11_spells 59 = .ok (.aload_n 0, 1) := by decide +kernel
theorem dX11_spells_60 : decode cX11_spells 60 = .ok (.getfield 71, 3) := by decide +kernel
theorem dX11_spells_63 : decode cX11_spells 63 = .ok (.iload 7, 2) := by decide +kernel
theorem dX11_spells_65 : decode cX11_spells 65 = .ok (.iaload, 1) := by decide +kernel
theorem dX11_spells_66 : decode cX11_spells 66 = .ok (.iconst 2, 1) := by decide +kernel
theorem dX11_spells_67 : decode cX11_spells 67 = .ok (.invokestatic 124, 3) := by decide +kernel
theorem dX11_spells_70 : decode cX11_spells 70 = .ok (.istore 10, 2) := by decide +kernel
theorem dX11_spells_72 : decode cX11_spells 72 = .ok (.aload_n 0, 1) := by decide +kernel
theorem dX11_spells_73 : decode cX11_spells 73 = .ok (.getfield 71, 3) := by decide +kernel
theorem dX11_spells_76 : decode cX11_spells 76 = .ok (.iload 7, 2) := by decide +kernel
theorem dX11_spells_78 : decode cX11_spells 78 = .ok (.iaload, 1) := by decide +kernel
theorem dX11_spells_79 : decode cX11_spells 79 = .ok (.iconst 3, 1) := by decide +kernel
theorem dX11_spells_80 : decode cX11_spells 80 = .ok (.invokestatic 124, 3) := by decide +kernel
theorem dX11_spells_83 : decode cX11_spells 83 = .ok (.istore 11, 2) := by decide +kernel
theorem dX11_spells_85 : decode cX11_spells 85 = .ok (.aload_n 0, 1) := by decide +kernel
theorem dX11_spells_86 : decode cX11_spells 86 = .ok (.getfield 38, 3) := by decide +kernel
theorem dX11_spells_89 : decode cX11_spells 89 = .ok (.iload_n 1, 1) := by decide +kernel
theorem dX11_spells_90 : decode cX11_spells 90 = .ok (.iaload, 1) := by decide +kernel
theorem dX11_spells_91 : decode cX11_spells 91 = .ok (.ifCond .ne 30, 3) := by decide +kernel
theorem dX11_spells_94 : decode cX11_spells 94 = .ok (.iload 8, 2) := by decide +kernel
theorem dX11_spells_96 : decode cX11_spells 96 = .ok (.bipush 8, 2) := by decide +kernel
theorem dX11_spells_98 : decode cX11_spells 98 = .ok (.if_icmp .eq 23, 3) := by decide +kernel
theorem dX11_spells_101 : decode cX11_spells 101 = .ok (.aload_n 0, 1) := by decide +kernel
theorem dX11_spells_102 : decode cX11_spells 102 = .ok (.getfield 65, 3) := by decide +kernel
theorem dX11_spells_105 : decode cX11_spells 105 = .ok (.iload 5, 2) := by decide +kernel
theorem dX11_spells_107 : decode cX11_spells 107 = .ok (.aload_n 0, 1) := by decide +kernel
theorem dX11_spells_108 : decode cX11_spells 108 = .ok (.getfield 44, 3) := by decide +kernel
theorem dX11_spells_111 : decode cX11_spells 111 = .ok (.iload 6, 2) := by decide +kernel
theorem dX11_spells_113 : decode cX11_spells 113 = .ok (.iload 8, 2) := by decide +kernel
theorem dX11_spells_115 : decode cX11_spells 115 = .ok (.iadd, 1) := by decide +kernel
theorem dX11_spells_116 : decode cX11_spells 116 = .ok (.iaload, 1) := by decide +kernel
theorem dX11_spells_117 : decode cX11_spells 117 = .ok (.iastore, 1) := by decide +kernel
theorem dX11_spells_118 : decode cX11_spells 118 = .ok (.iinc 5 1, 3) := by decide +kernel
theorem dX11_spells_121 : decode cX11_spells 121 = .ok (.aload_n 0, 1) := by decide +kernel
theorem dX11_spells_122 : decode cX11_spells 122 = .ok (.getfield 65, 3) := by decide +kernel
theorem dX11_spells_125 : decode cX11_spells 125 = .ok (.iload 5, 2) := by decide +kernel
theorem dX11_spells_127 : decode cX11_spells 127 = .ok (.aload_n 0, 1) := by decide +kernel
theorem dX11_spells_128 : decode cX11_spells 128 = .ok (.getfield 44, 3) := by decide +kernel
theorem dX11_spells_131 : decode cX11_spells 131 = .ok (.iload 6, 2) := by decide +kernel
theorem dX11_spells_133 : decode cX11_spells 133 = .ok (.aload_n 0, 1) := by decide +kernel
theorem dX11_spells_134 : decode cX11_spells 134 = .ok (.getfield 38, 3) := by decide +kernel
theorem dX11_spells_137 : decode cX11_spells 137 = .ok (.iload_n 1, 1) := by decide +kernel
theorem dX11_spells_138 : decode cX11_spells 138 = .ok (.iaload, 1) := by decide +kernel
theorem dX11_spells_139 : decode cX11_spells 139 = .ok (.ifCond .ne 11, 3) := by decide +kernel
theorem dX11_spells_142 : decode cX11_spells 142 = .ok (.bipush 8, 2) := by decide +kernel
theorem dX11_spells_144 : decode cX11_spells 144 = .ok (.iload 9, 2) := by decide +kernel
theorem dX11_spells_146 : decode cX11_spells 146 = .ok (.iadd, 1) := by decide +kernel
theorem dX11_spells_147 : decode cX11_spells 147 = .ok (.goto 10, 3) := by decide +kernel
theorem dX11_spells_150 : decode cX11_spells 150 = .ok (.iconst 4, 1) := by decide +kernel
theorem dX11_spells_151 : decode cX11_spells 151 = .ok (.iload 8, 2) := by decide +kernel
theorem dX11_spells_153 : decode cX11_spells 153 = .ok (.imul, 1) := by decide +kernel
theorem dX11_spells_154 : decode cX11_spells 154 = .ok (.iload 9, 2) := by decide +kernel
theorem dX11_spells_156 : decode cX11_spells 156 = .ok (.iadd, 1) := by decide +kernel
theorem dX11_spells_157 : decode cX11_spells 157 = .ok (.iadd, 1) := by decide +kernel
theorem dX11_spells_158 : decode cX11_spells 158 = .ok (.iaload, 1) := by decide +kernel
theorem dX11_spells_159 : decode cX11_spells 159 = .ok (.iastore, 1) := by decide +kernel
theorem dX11_spells_160 : decode cX11_spells 160 = .ok (.iinc 5 1, 3) := by decide +kernel
theorem dX11_spells_163 : decode cX11_spells 163 = .ok (.aload_n 0, 1) := by decide +kernel
theorem dX11_spells_164 : decode cX11_spells 164 = .ok (.getfield 47, 3) := by decide +kernel
theorem dX11_spells_167 : decode cX11_spells 167 = .ok (.iconst 3, 1) := by decide +kernel
theorem dX11_spells_168 : decode cX11_spells 168 = .ok (.iload_n 1, 1) := by decide +kernel
theorem dX11_spells_169 : decode cX11_spells 169 = .ok (.imul, 1) := by decide +kernel
theorem dX11_spells_170 : decode cX11_spells 170 = .ok (.iload 11, 2) := by decide +kernel
theorem dX11_spells_172 : decode cX11_spells 172 = .ok (.iadd, 1) := by decide +kernel
theorem dX11_spells_173 : decode cX11_spells 173 = .ok (.baload, 1) := by decide +kernel
theorem dX11_spells_174 : decode cX11_spells 174 = .ok (.ifCond .eq 26, 3) := by decide +kernel
theorem dX11_spells_177 : decode cX11_spells 177 = .ok (.aload_n 0, 1) := by decide +kernel
theorem dX11_spells_178 : decode cX11_spells 178 = .ok (.getfield 65, 3) := by decide +kernel
theorem dX11_spells_181 : decode cX11_spells 181 = .ok (.iload 5, 2) := by decide +kernel
theorem dX11_spells_183 : decode cX11_spells 183 = .ok (.aload_n 0, 1) := by decide +kernel
theorem dX11_spells_184 : decode cX11_spells 184 = .ok (.getfield 44, 3) := by decide +kernel
theorem dX11_spells_187 : decode cX11_spells 187 = .ok (.iload 6, 2) := by decide +kernel
theorem dX11_spells_189 : decode cX11_spells 189 = .ok (.bipush 44, 2) := by decide +kernel
theorem dX11_spells_191 : decode cX11_spells 191 = .ok (.iadd, 1) := by decide +kernel
theorem dX11_spells_192 : decode cX11_spells 192 = .ok (.iload 11, 2) := by decide +kernel
theorem dX11_spells_194 : decode cX11_spells 194 = .ok (.iadd, 1) := by decide +kernel
theorem dX11_spells_195 : decode cX11_spells 195 = .ok (.iaload, 1) := by decide +kernel
theorem dX11_spells_196 : decode cX11_spells 196 = .ok (.iastore, 1) := by decide +kernel
theorem dX11_spells_197 : decode cX11_spells 197 = .ok (.iinc 5 1, 3) := by decide +kernel
theorem dX11_spells_200 : decode cX11_spells 200 = .ok (.iload 10, 2) := by decide +kernel
theorem dX11_spells_202 : decode cX11_spells 202 = .ok (.bipush 8, 2) := by decide +kernel
theorem dX11_spells_204 : decode cX11_spells 204 = .ok (.if_icmp .eq 40, 3) := by decide +kernel
theorem dX11_spells_207 : decode cX11_spells 207 = .ok (.aload_n 0, 1) := by decide +kernel
theorem dX11_spells_208 : decode cX11_spells 208 = .ok (.getfield 65, 3) := by decide +kernel
theorem dX11_spells_211 : decode cX11_spells 211 = .ok (.iload 5, 2) := by decide +kernel
theorem dX11_spells_213 : decode cX11_spells 213 = .ok (.aload_n 0, 1) := by decide +kernel
theorem dX11_spells_214 : decode cX11_spells 214 = .ok (.getfield 44, 3) := by decide +kernel
theorem dX11_spells_217 : decode cX11_spells 217 = .ok (.iload 6, 2) := by decide +kernel
theorem dX11_spells_219 : decode cX11_spells 219 = .ok (.aload_n 0, 1) := by decide +kernel
theorem dX11_spells_220 : decode cX11_spells 220 = .ok (.getfield 38, 3) := by decide +kernel
theorem dX11_spells_223 : decode cX11_spells 223 = .ok (.iload_n 1, 1) := by decide +kernel
theorem dX11_spells_224 : decode cX11_spells 224 = .ok (.iaload, 1) := by decide +kernel
theorem dX11_spells_225 : decode cX11_spells 225 = .ok (.ifCond .ne 8, 3) := by decide +kernel
theorem dX11_spells_228 : decode cX11_spells 228 = .ok (.iload 10, 2) := by decide +kernel
theorem dX11_spells_230 : decode cX11_spells 230 = .ok (.goto 8, 3) := by decide +kernel
theorem dX11_spells_233 : decode cX11_spells 233 = .ok (.bipush 36, 2) := by decide +kernel
theorem dX11_spells_235 : decode cX11_spells 235 = .ok (.iload 10, 2) := by decide +kernel
theorem dX11_spells_237 : decode cX11_spells 237 = .ok (.iadd, 1) := by decide +kernel
theorem dX11_spells_238 : decode cX11_spells 238 = .ok (.iadd, 1) := by decide +kernel
theorem dX11_spells_239 : decode cX11_spells 239 = .ok (.iaload, 1) := by decide +kernel
theorem dX11_spells_240 : decode cX11_spells 240 = .ok (.iastore, 1) := by decide +kernel
theorem dX11_spells_241 : decode cX11_spells 241 = .ok (.iinc 5 1, 3) := by decide +kernel
theorem dX11_spells_244 : decode cX11_spells 244 = .ok (.iinc 7 1, 3) := by decide +kernel
theorem dX11_spells_247 : decode cX11_spells 247 = .ok (.goto (-225), 3) := by decide +kernel
theorem dX11_spells_250 : decode cX11_spells 250 = .ok (.aload_n 0, 1) := by decide +kernel
theorem dX11_spells_251 : decode cX11_spells 251 = .ok (.getfield 68, 3) := by decide +kernel
theorem dX11_spells_254 : decode cX11_spells 254 = .ok (.iload 4, 2) := by decide +kernel
theorem dX11_spells_256 : decode cX11_spells 256 = .ok (.iload 5, 2) := by decide +kernel
theorem dX11_spells_258 : decode cX11_spells 258 = .ok (.bipush 16, 2) := by decide +kernel
theorem dX11_spells_260 : decode cX11_spells 260 = .ok (.iload 4, 2) := by decide +kernel
theorem dX11_spells_262 : decode cX11_spells 262 = .ok (.imul, 1) := by decide +kernel
theorem dX11_spells_263 : decode cX11_spells 263 = .ok (.isub, 1) := by decide +kernel
theorem dX11_spells_264 : decode cX11_spells 264 = .ok (.iastore, 1) := by decide +kernel
theorem dX11_spells_265 : decode cX11_spells 265 = .ok (.return_, 1) := by decide +kernel
theorem dX11_spellsAll_0 : decode cX11_spellsAll 0 = .ok (.iconst 0, 1) := by decide +kernel
theorem dX11_spellsAll_1 : decode cX11_spellsAll 1 = .ok (.istore 4, 2) := by decide +kernel
theorem dX11_spellsAll_3 : decode cX11_spellsAll 3 = .ok (.iload 4, 2) := by decide +kernel
theorem dX11_spellsAll_5 : decode cX11_spellsAll 5 = .ok (.aload_n 0, 1) := by decide +kernel
theorem dX11_spellsAll_6 : decode cX11_spellsAll 6 = .ok (.getfield 100, 3) := by decide +kernel
theorem dX11_spellsAll_9 : decode cX11_spellsAll 9 = .ok (.if_icmp .ge 21, 3) := by decide +kernel
theorem dX11_spellsAll_12 : decode cX11_spellsAll 12 = .ok (.aload_n 0, 1) := by decide +kernel
theorem dX11_spellsAll_13 : decode cX11_spellsAll 13 = .ok (.iload_n 1, 1) := by decide +kernel
theorem dX11_spellsAll_14 : decode cX11_spellsAll 14 = .ok (.iload_n 2, 1) := by decide +kernel
theorem dX11_spellsAll_15 : decode cX11_spellsAll 15 = .ok (.iload 4, 2) := by decide +kernel
theorem dX11_spellsAll_17 : decode cX11_spellsAll 17 = .ok (.iload_n 3, 1) := by decide +kernel
theorem dX11_spellsAll_18 : decode cX11_spellsAll 18 = .ok (.iload 4, 2) := by decide +kernel
theorem dX11_spellsAll_20 : decode cX11_spellsAll 20 = .ok (.iadd, 1) := by decide +kernel
theorem dX11_spellsAll_21 : decode cX11_spellsAll 21 = .ok (.invokevirtual 152, 3) := by decide +kernel
theorem dX11_spellsAll_24 : decode cX11_spellsAll 24 = .ok (.iinc 4 1, 3) := by decide +kernel
theorem dX11_spellsAll_27 : decode cX11_spellsAll 27 = .ok (.goto (-24), 3) := by decide +kernel
theorem dX11_spellsAll_30 : decode cX11_spellsAll 30 = .ok (.return_, 1) := by decide +kernel
theorem dX11_areAlike_0 : decode cX11_areAlike 0 = .ok (.aload_n 0, 1) := by decide +kernel
theorem dX11_areAlike_1 : decode cX11_areAlike 1 = .ok (.getfield 68, 3) := by decide +kernel
theorem dX11_areAlike_4 : decode cX11_areAlike 4 = .ok (.iload_n 1, 1) := by decide +kernel
theorem dX11_areAlike_5 : decode cX11_areAlike 5 = .ok (.iaload, 1) := by decide +kernel
theorem dX11_areAlike_6 : decode cX11_areAlike 6 = .ok (.aload_n 0, 1) := by decide +kernel
theorem dX11_areAlike_7 : decode cX11_areAlike 7 = .ok (.getfield 68, 3) := by decide +kernel
theorem dX11_areAlike_10 : decode cX11_areAlike 10 = .ok (.iload_n 2, 1) := by decide +kernel
theorem dX11_areAlike_11 : decode cX11_areAlike 11 = .ok (.iaload, 1) := by decide +kernel
theorem dX11_areAlike_12 : decode cX11_areAlike 12 = .ok (.if_icmp .ne 7, 3) := by decide +kernel
theorem dX11_areAlike_15 : decode cX11_areAlike 15 = .ok (.iconst 1, 1) := by decide +kernel
theorem dX11_areAlike_16 : decode cX11_areAlike 16 = .ok (.goto 4, 3) := by decide +kernel
theorem dX11_areAlike_19 : decode cX11_areAlike 19 = .ok (.iconst 0, 1) := by decide +kernel
theorem dX11_areAlike_20 : decode cX11_areAlike 20 = .ok (.istore_n 3, 1) := by decide +kernel
theorem dX11_areAlike_21 : decode cX11_areAlike 21 = .ok (.iconst 0, 1) := by decide +kernel
theorem dX11_areAlike_22 : decode cX11_areAlike 22 = .ok (.istore 4, 2) := by decide +kernel
theorem dX11_areAlike_24 : decode cX11_areAlike 24 = .ok (.iload 4, 2) := by decide +kernel
theorem dX11_areAlike_26 : decode cX11_areAlike 26 = .ok (.aload_n 0, 1) := by decide +kernel
theorem dX11_areAlike_27 : decode cX11_areAlike 27 = .ok (.getfield 68, 3) := by decide +kernel
theorem dX11_areAlike_30 : decode cX11_areAlike 30 = .ok (.iload_n 1, 1) := by decide +kernel
theorem dX11_areAlike_31 : decode cX11_areAlike 31 = .ok (.iaload, 1) := by decide +kernel
theorem dX11_areAlike_32 : decode cX11_areAlike 32 = .ok (.if_icmp .ge 46, 3) := by decide +kernel
theorem dX11_areAlike_35 : decode cX11_areAlike 35 = .ok (.iload_n 3, 1) := by decide +kernel
theorem dX11_areAlike_36 : decode cX11_areAlike 36 = .ok (.ifCond .eq 42, 3) := by decide +kernel
theorem dX11_areAlike_39 : decode cX11_areAlike 39 = .ok (.aload_n 0, 1) := by decide +kernel
theorem dX11_areAlike_40 : decode cX11_areAlike 40 = .ok (.getfield 65, 3) := by decide +kernel
theorem dX11_areAlike_43 : decode cX11_areAlike 43 = .ok (.bipush 16, 2) := by decide +kernel
theorem dX11_areAlike_45 : decode cX11_areAlike 45 = .ok (.iload_n 1, 1) := by decide +kernel
theorem dX11_areAlike_46 : decode cX11_areAlike 46 = .ok (.imul, 1) := by decide +kernel
theorem dX11_areAlike_47 : decode cX11_areAlike 47 = .ok (.iload 4, 2) := by decide +kernel
theorem dX11_areAlike_49 : decode cX11_areAlike 49 = .ok (.iadd, 1) := by decide +kernel
theorem dX11_areAlike_50 : decode cX11_areAlike 50 = .ok (.iaload, 1) := by decide +kernel
theorem dX11_areAlike_51 : decode cX11_areAlike 51 = .ok (.aload_n 0, 1) := by decide +kernel
theorem dX11_areAlike_52 : decode cX11_areAlike 52 = .ok (.getfield 65, 3) := by decide +kernel
theorem dX11_areAlike_55 : decode cX11_areAlike 55 = .ok (.bipush 16, 2) := by decide +kernel
theorem dX11_areAlike_57 : decode cX11_areAlike 57 = .ok (.iload_n 2, 1) := by decide +kernel
theorem dX11_areAlike_58 : decode cX11_areAlike 58 = .ok (.imul, 1) := by decide +kernel
theorem dX11_areAlike_59 : decode cX11_areAlike 59 = .ok (.iload 4, 2) := by decide +kernel
theorem dX11_areAlike_61 : decode cX11_areAlike 61 = .ok (.iadd, 1) := by decide +kernel
theorem dX11_areAlike_62 : decode cX11_areAlike 62 = .ok (.iaload, 1) := by decide +kernel
theorem dX11_areAlike_63 : decode cX11_areAlike 63 = .ok (.if_icmp .ne 7, 3) := by decide +kernel
theorem dX11_areAlike_66 : decode cX11_areAlike 66 = .ok (.iconst 1, 1) := by decide +kernel
theorem dX11_areAlike_67 : decode cX11_areAlike 67 = .ok (.goto 4, 3) := by decide +kernel
theorem dX11_areAlike_70 : decode cX11_areAlike 70 = .ok (.iconst 0, 1) := by decide +kernel
theorem dX11_areAlike_71 : decode cX11_areAlike 71 = .ok (.istore_n 3, 1) := by decide +kernel
theorem dX11_areAlike_72 : decode cX11_areAlike 72 = .ok (.iinc 4 1, 3) := by decide +kernel
theorem dX11_areAlike_75 : decode cX11_areAlike 75 = .ok (.goto (-51), 3) := by decide +kernel
theorem dX11_areAlike_78 : decode cX11_areAlike 78 = .ok (.iload_n 3, 1) := by decide +kernel
theorem dX11_areAlike_79 : decode cX11_areAlike 79 = .ok (.ireturn, 1) := by decide +kernel
theorem dX11_spelled_0 : decode cX11_spelled 0 = .ok (.aload_n 0, 1) := by decide +kernel
theorem dX11_spelled_1 : decode cX11_spelled 1 = .ok (.aload_n 0, 1) := by decide +kernel
theorem dX11_spelled_2 : decode cX11_spelled 2 = .ok (.iload_n 1, 1) := by decide +kernel
theorem dX11_spelled_3 : decode cX11_spelled 3 = .ok (.invokevirtual 146, 3) := by decide +kernel
theorem dX11_spelled_6 : decode cX11_spelled 6 = .ok (.ifCond .eq 19, 3) := by decide +kernel
theorem dX11_spelled_9 : decode cX11_spelled 9 = .ok (.aload_n 0, 1) := by decide +kernel
theorem dX11_spelled_10 : decode cX11_spelled 10 = .ok (.iload_n 2, 1) := by decide +kernel
theorem dX11_spelled_11 : decode cX11_spelled 11 = .ok (.invokevirtual 132, 3) := by decide +kernel
theorem dX11_spelled_14 : decode cX11_spelled 14 = .ok (.ifCond .eq 11, 3) := by decide +kernel
theorem dX11_spelled_17 : decode cX11_spelled 17 = .ok (.iload_n 3, 1) := by decide +kernel
theorem dX11_spelled_18 : decode cX11_spelled 18 = .ok (.ifCond .lt 7, 3) := by decide +kernel
theorem dX11_spelled_21 : decode cX11_spelled 21 = .ok (.iconst 0, 1) := by decide +kernel
theorem dX11_spelled_22 : decode cX11_spelled 22 = .ok (.goto 4, 3) := by decide +kernel
theorem dX11_spelled_25 : decode cX11_spelled 25 = .ok (.iconst 1, 1) := by decide +kernel
theorem dX11_spelled_26 : decode cX11_spelled 26 = .ok (.invokevirtual 113, 3) := by decide +kernel
theorem dX11_spelled_29 : decode cX11_spelled 29 = .ok (.ifCond .eq 5, 3) := by decide +kernel
theorem dX11_spelled_32 : decode cX11_spelled 32 = .ok (.iconst 0, 1) := by decide +kernel
theorem dX11_spelled_33 : decode cX11_spelled 33 = .ok (.ireturn, 1) := by decide +kernel
theorem dX11_spelled_34 : decode cX11_spelled 34 = .ok (.aload_n 0, 1) := by decide +kernel
theorem dX11_spelled_35 : decode cX11_spelled 35 = .ok (.iload_n 1, 1) := by decide +kernel
theorem dX11_spelled_36 : decode cX11_spelled 36 = .ok (.aload_n 0, 1) := by decide +kernel
theorem dX11_spelled_37 : decode cX11_spelled 37 = .ok (.getfield 41, 3) := by decide +kernel
theorem dX11_spelled_40 : decode cX11_spelled 40 = .ok (.iload_n 1, 1) := by decide +kernel
theorem dX11_spelled_41 : decode cX11_spelled 41 = .ok (.iaload, 1) := by decide +kernel
theorem dX11_spelled_42 : decode cX11_spelled 42 = .ok (.iload_n 2, 1) := by decide +kernel
theorem dX11_spelled_43 : decode cX11_spelled 43 = .ok (.iconst 0, 1) := by decide +kernel
theorem dX11_spelled_44 : decode cX11_spelled 44 = .ok (.invokevirtual 152, 3) := by decide +kernel
theorem dX11_spelled_47 : decode cX11_spelled 47 = .ok (.iload_n 3, 1) := by decide +kernel
theorem dX11_spelled_48 : decode cX11_spelled 48 = .ok (.aload_n 0, 1) := by decide +kernel
theorem dX11_spelled_49 : decode cX11_spelled 49 = .ok (.getfield 68, 3) := by decide +kernel
theorem dX11_spelled_52 : decode cX11_spelled 52 = .ok (.iconst 0, 1) := by decide +kernel
theorem dX11_spelled_53 : decode cX11_spelled 53 = .ok (.iaload, 1) := by decide +kernel
theorem dX11_spelled_54 : decode cX11_spelled 54 = .ok (.if_icmp .ge 12, 3) := by decide +kernel
theorem dX11_spelled_57 : decode cX11_spelled 57 = .ok (.aload_n 0, 1) := by decide +kernel
theorem dX11_spelled_58 : decode cX11_spelled 58 = .ok (.getfield 65, 3) := by decide +kernel
theorem dX11_spelled_61 : decode cX11_spelled 61 = .ok (.iload_n 3, 1) := by decide +kernel
theorem dX11_spelled_62 : decode cX11_spelled 62 = .ok (.iaload, 1) := by decide +kernel
theorem dX11_spelled_63 : decode cX11_spelled 63 = .ok (.goto 4, 3) := by decide +kernel
theorem dX11_spelled_66 : decode cX11_spelled 66 = .ok (.iconst (-1), 1) := by decide +kernel
theorem dX11_spelled_67 : decode cX11_spelled 67 = .ok (.ireturn, 1) := by decide +kernel
theorem dX11_doubts_0 : decode cX11_doubts 0 = .ok (.aload_n 0, 1) := by decide +kernel
theorem dX11_doubts_1 : decode cX11_doubts 1 = .ok (.aload_n 0, 1) := by decide +kernel
theorem dX11_doubts_2 : decode cX11_doubts 2 = .ok (.iload_n 1, 1) := by decide +kernel
theorem dX11_doubts_3 : decode cX11_doubts 3 = .ok (.invokevirtual 146, 3) := by decide +kernel
theorem dX11_doubts_6 : decode cX11_doubts 6 = .ok (.ifCond .eq 7, 3) := by decide +kernel
theorem dX11_doubts_9 : decode cX11_doubts 9 = .ok (.iconst 0, 1) := by decide +kernel
theorem dX11_doubts_10 : decode cX11_doubts 10 = .ok (.goto 4, 3) := by decide +kernel
theorem dX11_doubts_13 : decode cX11_doubts 13 = .ok (.iconst 1, 1) := by decide +kernel
theorem dX11_doubts_14 : decode cX11_doubts 14 = .ok (.invokevirtual 113, 3) := by decide +kernel
theorem dX11_doubts_17 : decode cX11_doubts 17 = .ok (.ifCond .eq 5, 3) := by decide +kernel
theorem dX11_doubts_20 : decode cX11_doubts 20 = .ok (.iconst 0, 1) := by decide +kernel
theorem dX11_doubts_21 : decode cX11_doubts 21 = .ok (.ireturn, 1) := by decide +kernel
theorem dX11_doubts_22 : decode cX11_doubts 22 = .ok (.aload_n 0, 1) := by decide +kernel
theorem dX11_doubts_23 : decode cX11_doubts 23 = .ok (.iload_n 1, 1) := by decide +kernel
theorem dX11_doubts_24 : decode cX11_doubts 24 = .ok (.aload_n 0, 1) := by decide +kernel
theorem dX11_doubts_25 : decode cX11_doubts 25 = .ok (.getfield 41, 3) := by decide +kernel
theorem dX11_doubts_28 : decode cX11_doubts 28 = .ok (.iload_n 1, 1) := by decide +kernel
theorem dX11_doubts_29 : decode cX11_doubts 29 = .ok (.iaload, 1) := by decide +kernel
theorem dX11_doubts_30 : decode cX11_doubts 30 = .ok (.iconst 0, 1) := by decide +kernel
theorem dX11_doubts_31 : decode cX11_doubts 31 = .ok (.invokevirtual 156, 3) := by decide +kernel
theorem dX11_doubts_34 : decode cX11_doubts 34 = .ok (.iconst 0, 1) := by decide +kernel
theorem dX11_doubts_35 : decode cX11_doubts 35 = .ok (.istore_n 2, 1) := by decide +kernel
theorem dX11_doubts_36 : decode cX11_doubts 36 = .ok (.iconst 0, 1) := by decide +kernel
theorem dX11_doubts_37 : decode cX11_doubts 37 = .ok (.istore_n 3, 1) := by decide +kernel
theorem dX11_doubts_38 : decode cX11_doubts 38 = .ok (.iload_n 3, 1) := by decide +kernel
theorem dX11_doubts_39 : decode cX11_doubts 39 = .ok (.aload_n 0, 1) := by decide +kernel
theorem dX11_doubts_40 : decode cX11_doubts 40 = .ok (.getfield 100, 3) := by decide +kernel
theorem dX11_doubts_43 : decode cX11_doubts 43 = .ok (.if_icmp .ge 42, 3) := by decide +kernel
theorem dX11_doubts_46 : decode cX11_doubts 46 = .ok (.iconst 0, 1) := by decide +kernel
theorem dX11_doubts_47 : decode cX11_doubts 47 = .ok (.istore 4, 2) := by decide +kernel
theorem dX11_doubts_49 : decode cX11_doubts 49 = .ok (.iload 4, 2) := by decide +kernel
theorem dX11_doubts_51 : decode cX11_doubts 51 = .ok (.iload_n 3, 1) := by decide +kernel
theorem dX11_doubts_52 : decode cX11_doubts 52 = .ok (.if_icmp .ge 27, 3) := by decide +kernel
theorem dX11_doubts_55 : decode cX11_doubts 55 = .ok (.iload_n 2, 1) := by decide +kernel
theorem dX11_doubts_56 : decode cX11_doubts 56 = .ok (.aload_n 0, 1) := by decide +kernel
theorem dX11_doubts_57 : decode cX11_doubts 57 = .ok (.iload_n 3, 1) := by decide +kernel
theorem dX11_doubts_58 : decode cX11_doubts 58 = .ok (.iload 4, 2) := by decide +kernel
theorem dX11_doubts_60 : decode cX11_doubts 60 = .ok (.invokevirtual 160, 3) := by decide +kernel
theorem dX11_doubts_63 : decode cX11_doubts 63 = .ok (.ifCond .eq 7, 3) := by decide +kernel
theorem dX11_doubts_66 : decode cX11_doubts 66 = .ok (.iconst 1, 1) := by decide +kernel
