theorem dX10_assign_27 : decode cX10_assign 27 = .ok (.athrow, 1) := by decide +kernel
theorem dX10_assign_28 : decode cX10_assign 28 = .ok (.iload_n 3, 1) := by decide +kernel
theorem dX10_assign_29 : decode cX10_assign 29 = .ok (.ifCond .lt 9, 3) := by decide +kernel
theorem dX10_assign_32 : decode cX10_assign 32 = .ok (.iload_n 3, 1) := by decide +kernel
theorem dX10_assign_33 : decode cX10_assign 33 = .ok (.bipush 50, 2) := by decide +kernel
theorem dX10_assign_35 : decode cX10_assign 35 = .ok (.if_icmp .lt 13, 3) := by decide +kernel
theorem dX10_assign_38 : decode cX10_assign 38 = .ok (.new 89, 3) := by decide +kernel
theorem dX10_assign_41 : decode cX10_assign 41 = .ok (.dup, 1) := by decide +kernel
theorem dX10_assign_42 : decode cX10_assign 42 = .ok (.ldc 185, 2) := by decide +kernel
theorem dX10_assign_44 : decode cX10_assign 44 = .ok (.invokespecial 93, 3) := by decide +kernel
theorem dX10_assign_47 : decode cX10_assign 47 = .ok (.athrow, 1) := by decide +kernel
theorem dX10_assign_48 : decode cX10_assign 48 = .ok (.iload 4, 2) := by decide +kernel
theorem dX10_assign_50 : decode cX10_assign 50 = .ok (.ifCond .ne 27, 3) := by decide +kernel
theorem dX10_assign_53 : decode cX10_assign 53 = .ok (.aload_n 0, 1) := by decide +kernel
theorem dX10_assign_54 : decode cX10_assign 54 = .ok (.getfield 29, 3) := by decide +kernel
theorem dX10_assign_57 : decode cX10_assign 57 = .ok (.iload_n 1, 1) := by decide +kernel
theorem dX10_assign_58 : decode cX10_assign 58 = .ok (.aaload, 1) := by decide +kernel
theorem dX10_assign_59 : decode cX10_assign 59 = .ok (.iload_n 2, 1) := by decide +kernel
theorem dX10_assign_60 : decode cX10_assign 60 = .ok (.iload_n 3, 1) := by decide +kernel
theorem dX10_assign_61 : decode cX10_assign 61 = .ok (.invokevirtual 187, 3) := by decide +kernel
theorem dX10_assign_64 : decode cX10_assign 64 = .ok (.ifCond .eq 13, 3) := by decide +kernel
theorem dX10_assign_67 : decode cX10_assign 67 = .ok (.new 99, 3) := by decide +kernel
theorem dX10_assign_70 : decode cX10_assign 70 = .ok (.dup, 1) := by decide +kernel
theorem dX10_assign_71 : decode cX10_assign 71 = .ok (.ldc 191, 2) := by decide +kernel
theorem dX10_assign_73 : decode cX10_assign 73 = .ok (.invokespecial 103, 3) := by decide +kernel
theorem dX10_assign_76 : decode cX10_assign 76 = .ok (.athrow, 1) := by decide +kernel
theorem dX10_assign_77 : decode cX10_assign 77 = .ok (.aload_n 0, 1) := by decide +kernel
theorem dX10_assign_78 : decode cX10_assign 78 = .ok (.getfield 29, 3) := by decide +kernel
theorem dX10_assign_81 : decode cX10_assign 81 = .ok (.iload_n 1, 1) := by decide +kernel
theorem dX10_assign_82 : decode cX10_assign 82 = .ok (.aaload, 1) := by decide +kernel
theorem dX10_assign_83 : decode cX10_assign 83 = .ok (.getfield 193, 3) := by decide +kernel
theorem dX10_assign_86 : decode cX10_assign 86 = .ok (.iload_n 2, 1) := by decide +kernel
theorem dX10_assign_87 : decode cX10_assign 87 = .ok (.iaload, 1) := by decide +kernel
theorem dX10_assign_88 : decode cX10_assign 88 = .ok (.istore 5, 2) := by decide +kernel
theorem dX10_assign_90 : decode cX10_assign 90 = .ok (.aload_n 0, 1) := by decide +kernel
theorem dX10_assign_91 : decode cX10_assign 91 = .ok (.getfield 29, 3) := by decide +kernel
theorem dX10_assign_94 : decode cX10_assign 94 = .ok (.iload_n 1, 1) := by decide +kernel
theorem dX10_assign_95 : decode cX10_assign 95 = .ok (.aaload, 1) := by decide +kernel
theorem dX10_assign_96 : decode cX10_assign 96 = .ok (.getfield 193, 3) := by decide +kernel
theorem dX10_assign_99 : decode cX10_assign 99 = .ok (.iload_n 2, 1) := by decide +kernel
theorem dX10_assign_100 : decode cX10_assign 100 = .ok (.iload_n 3, 1) := by decide +kernel
theorem dX10_assign_101 : decode cX10_assign 101 = .ok (.iastore, 1) := by decide +kernel
theorem dX10_assign_102 : decode cX10_assign 102 = .ok (.iload 5, 2) := by decide +kernel
theorem dX10_assign_104 : decode cX10_assign 104 = .ok (.ireturn, 1) := by decide +kernel
theorem dX10_mark_0 : decode cX10_mark 0 = .ok (.aload_n 0, 1) := by decide +kernel
theorem dX10_mark_1 : decode cX10_mark 1 = .ok (.iload_n 1, 1) := by decide +kernel
theorem dX10_mark_2 : decode cX10_mark 2 = .ok (.invokevirtual 176, 3) := by decide +kernel
theorem dX10_mark_5 : decode cX10_mark 5 = .ok (.aload_n 0, 1) := by decide +kernel
theorem dX10_mark_6 : decode cX10_mark 6 = .ok (.iload_n 2, 1) := by decide +kernel
theorem dX10_mark_7 : decode cX10_mark 7 = .ok (.invokevirtual 196, 3) := by decide +kernel
theorem dX10_mark_10 : decode cX10_mark 10 = .ok (.aload_n 0, 1) := by decide +kernel
theorem dX10_mark_11 : decode cX10_mark 11 = .ok (.getfield 29, 3) := by decide +kernel
theorem dX10_mark_14 : decode cX10_mark 14 = .ok (.iload_n 1, 1) := by decide +kernel
theorem dX10_mark_15 : decode cX10_mark 15 = .ok (.aaload, 1) := by decide +kernel
theorem dX10_mark_16 : decode cX10_mark 16 = .ok (.getfield 199, 3) := by decide +kernel
theorem dX10_mark_19 : decode cX10_mark 19 = .ok (.iload_n 2, 1) := by decide +kernel
theorem dX10_mark_20 : decode cX10_mark 20 = .ok (.baload, 1) := by decide +kernel
theorem dX10_mark_21 : decode cX10_mark 21 = .ok (.istore 4, 2) := by decide +kernel
theorem dX10_mark_23 : decode cX10_mark 23 = .ok (.aload_n 0, 1) := by decide +kernel
theorem dX10_mark_24 : decode cX10_mark 24 = .ok (.getfield 29, 3) := by decide +kernel
theorem dX10_mark_27 : decode cX10_mark 27 = .ok (.iload_n 1, 1) := by decide +kernel
theorem dX10_mark_28 : decode cX10_mark 28 = .ok (.aaload, 1) := by decide +kernel
theorem dX10_mark_29 : decode cX10_mark 29 = .ok (.getfield 199, 3) := by decide +kernel
theorem dX10_mark_32 : decode cX10_mark 32 = .ok (.iload_n 2, 1) := by decide +kernel
theorem dX10_mark_33 : decode cX10_mark 33 = .ok (.iload_n 3, 1) := by decide +kernel
theorem dX10_mark_34 : decode cX10_mark 34 = .ok (.bastore, 1) := by decide +kernel
theorem dX10_mark_35 : decode cX10_mark 35 = .ok (.iload 4, 2) := by decide +kernel
theorem dX10_mark_37 : decode cX10_mark 37 = .ok (.ireturn, 1) := by decide +kernel
theorem dX10_spelled_0 : decode cX10_spelled 0 = .ok (.aload_n 0, 1) := by decide +kernel
theorem dX10_spelled_1 : decode cX10_spelled 1 = .ok (.iload_n 1, 1) := by decide +kernel
theorem dX10_spelled_2 : decode cX10_spelled 2 = .ok (.invokevirtual 176, 3) := by decide +kernel
theorem dX10_spelled_5 : decode cX10_spelled 5 = .ok (.aload_n 0, 1) := by decide +kernel
theorem dX10_spelled_6 : decode cX10_spelled 6 = .ok (.iload_n 2, 1) := by decide +kernel
theorem dX10_spelled_7 : decode cX10_spelled 7 = .ok (.invokevirtual 150, 3) := by decide +kernel
theorem dX10_spelled_10 : decode cX10_spelled 10 = .ok (.aload_n 0, 1) := by decide +kernel
theorem dX10_spelled_11 : decode cX10_spelled 11 = .ok (.iload_n 3, 1) := by decide +kernel
theorem dX10_spelled_12 : decode cX10_spelled 12 = .ok (.invokevirtual 153, 3) := by decide +kernel
theorem dX10_spelled_15 : decode cX10_spelled 15 = .ok (.aload_n 0, 1) := by decide +kernel
theorem dX10_spelled_16 : decode cX10_spelled 16 = .ok (.aload_n 0, 1) := by decide +kernel
theorem dX10_spelled_17 : decode cX10_spelled 17 = .ok (.getfield 29, 3) := by decide +kernel
theorem dX10_spelled_20 : decode cX10_spelled 20 = .ok (.iload_n 1, 1) := by decide +kernel
theorem dX10_spelled_21 : decode cX10_spelled 21 = .ok (.aaload, 1) := by decide +kernel
theorem dX10_spelled_22 : decode cX10_spelled 22 = .ok (.invokevirtual 203, 3) := by decide +kernel
theorem dX10_spelled_25 : decode cX10_spelled 25 = .ok (.iload_n 3, 1) := by decide +kernel
theorem dX10_spelled_26 : decode cX10_spelled 26 = .ok (.aload_n 0, 1) := by decide +kernel
theorem dX10_spelled_27 : decode cX10_spelled 27 = .ok (.getfield 54, 3) := by decide +kernel
theorem dX10_spelled_30 : decode cX10_spelled 30 = .ok (.getfield 207, 3) := by decide +kernel
theorem dX10_spelled_33 : decode cX10_spelled 33 = .ok (.iload_n 2, 1) := by decide +kernel
theorem dX10_spelled_34 : decode cX10_spelled 34 = .ok (.iaload, 1) := by decide +kernel
theorem dX10_spelled_35 : decode cX10_spelled 35 = .ok (.if_icmp .ge 17, 3) := by decide +kernel
theorem dX10_spelled_38 : decode cX10_spelled 38 = .ok (.aload_n 0, 1) := by decide +kernel
theorem dX10_spelled_39 : decode cX10_spelled 39 = .ok (.getfield 54, 3) := by decide +kernel
theorem dX10_spelled_42 : decode cX10_spelled 42 = .ok (.getfield 208, 3) := by decide +kernel
theorem dX10_spelled_45 : decode cX10_spelled 45 = .ok (.iload_n 2, 1) := by decide +kernel
theorem dX10_spelled_46 : decode cX10_spelled 46 = .ok (.aaload, 1) := by decide +kernel
theorem dX10_spelled_47 : decode cX10_spelled 47 = .ok (.iload_n 3, 1) := by decide +kernel
theorem dX10_spelled_48 : decode cX10_spelled 48 = .ok (.iaload, 1) := by decide +kernel
theorem dX10_spelled_49 : decode cX10_spelled 49 = .ok (.goto 4, 3) := by decide +kernel
theorem dX10_spelled_52 : decode cX10_spelled 52 = .ok (.iconst (-1), 1) := by decide +kernel
theorem dX10_spelled_53 : decode cX10_spelled 53 = .ok (.ireturn, 1) := by decide +kernel
theorem dX10_doubts_0 : decode cX10_doubts 0 = .ok (.aload_n 0, 1) := by decide +kernel
theorem dX10_doubts_1 : decode cX10_doubts 1 = .ok (.iload_n 1, 1) := by decide +kernel
theorem dX10_doubts_2 : decode cX10_doubts 2 = .ok (.invokevirtual 176, 3) := by decide +kernel
theorem dX10_doubts_5 : decode cX10_doubts 5 = .ok (.aload_n 0, 1) := by decide +kernel
theorem dX10_doubts_6 : decode cX10_doubts 6 = .ok (.aload_n 0, 1) := by decide +kernel
theorem dX10_doubts_7 : decode cX10_doubts 7 = .ok (.getfield 29, 3) := by decide +kernel
theorem dX10_doubts_10 : decode cX10_doubts 10 = .ok (.iload_n 1, 1) := by decide +kernel
theorem dX10_doubts_11 : decode cX10_doubts 11 = .ok (.aaload, 1) := by decide +kernel
theorem dX10_doubts_12 : decode cX10_doubts 12 = .ok (.invokevirtual 203, 3) := by decide +kernel
theorem dX10_doubts_15 : decode cX10_doubts 15 = .ok (.iconst 0, 1) := by decide +kernel
theorem dX10_doubts_16 : decode cX10_doubts 16 = .ok (.istore_n 2, 1) := by decide +kernel
theorem dX10_doubts_17 : decode cX10_doubts 17 = .ok (.iconst 0, 1) := by decide +kernel
theorem dX10_doubts_18 : decode cX10_doubts 18 = .ok (.istore_n 3, 1) := by decide +kernel
theorem dX10_doubts_19 : decode cX10_doubts 19 = .ok (.iload_n 3, 1) := by decide +kernel
theorem dX10_doubts_20 : decode cX10_doubts 20 = .ok (.aload_n 0, 1) := by decide +kernel
theorem dX10_doubts_21 : decode cX10_doubts 21 = .ok (.getfield 12, 3) := by decide +kernel
theorem dX10_doubts_24 : decode cX10_doubts 24 = .ok (.getfield 112, 3) := by decide +kernel
theorem dX10_doubts_27 : decode cX10_doubts 27 = .ok (.if_icmp .ge 40, 3) := by decide +kernel
theorem dX10_doubts_30 : decode cX10_doubts 30 = .ok (.iconst 0, 1) := by decide +kernel
theorem dX10_doubts_31 : decode cX10_doubts 31 = .ok (.istore 4, 2) := by decide +kernel
theorem dX10_doubts_33 : decode cX10_doubts 33 = .ok (.iload 4, 2) := by decide +kernel
theorem dX10_doubts_35 : decode cX10_doubts 35 = .ok (.iload_n 3, 1) := by decide +kernel
theorem dX10_doubts_36 : decode cX10_doubts 36 = .ok (.if_icmp .ge 25, 3) := by decide +kernel
theorem dX10_doubts_39 : decode cX10_doubts 39 = .ok (.aload_n 0, 1) := by decide +kernel
theorem dX10_doubts_40 : decode cX10_doubts 40 = .ok (.getfield 54, 3) := by decide +kernel
theorem dX10_doubts_43 : decode cX10_doubts 43 = .ok (.iload_n 3, 1) := by decide +kernel
theorem dX10_doubts_44 : decode cX10_doubts 44 = .ok (.iload 4, 2) := by decide +kernel
theorem dX10_doubts_46 : decode cX10_doubts 46 = .ok (.invokevirtual 209, 3) := by decide +kernel
theorem dX10_doubts_49 : decode cX10_doubts 49 = .ok (.ifCond .eq 6, 3) := by decide +kernel
theorem dX10_doubts_52 : decode cX10_doubts 52 = .ok (.iinc 2 1, 3) := by decide +kernel
theorem dX10_doubts_55 : decode cX10_doubts 55 = .ok (.iinc 4 1, 3) := by decide +kernel
theorem dX10_doubts_58 : decode cX10_doubts 58 = .ok (.goto (-25), 3) := by decide +kernel
theorem dX10_doubts_61 : decode cX10_doubts 61 = .ok (.iinc 3 1, 3) := by decide +kernel
theorem dX10_doubts_64 : decode cX10_doubts 64 = .ok (.goto (-45), 3) := by decide +kernel
theorem dX10_doubts_67 : decode cX10_doubts 67 = .ok (.iload_n 2, 1) := by decide +kernel
theorem dX10_doubts_68 : decode cX10_doubts 68 = .ok (.ireturn, 1) := by decide +kernel
theorem dX10_load_0 : decode cX10_load 0 = .ok (.aload_n 0, 1) := by decide +kernel
theorem dX10_load_1 : decode cX10_load 1 = .ok (.iload_n 1, 1) := by decide +kernel
theorem dX10_load_2 : decode cX10_load 2 = .ok (.invokevirtual 176, 3) := by decide +kernel
theorem dX10_load_5 : decode cX10_load 5 = .ok (.aload_n 0, 1) := by decide +kernel
theorem dX10_load_6 : decode cX10_load 6 = .ok (.aload_n 0, 1) := by decide +kernel
theorem dX10_load_7 : decode cX10_load 7 = .ok (.getfield 29, 3) := by decide +kernel
theorem dX10_load_10 : decode cX10_load 10 = .ok (.iload_n 1, 1) := by decide +kernel
theorem dX10_load_11 : decode cX10_load 11 = .ok (.aaload, 1) := by decide +kernel
theorem dX10_load_12 : decode cX10_load 12 = .ok (.invokevirtual 203, 3) := by decide +kernel
theorem dX10_load_15 : decode cX10_load 15 = .ok (.aload_n 0, 1) := by decide +kernel
theorem dX10_load_16 : decode cX10_load 16 = .ok (.getfield 54, 3) := by decide +kernel
theorem dX10_load_19 : decode cX10_load 19 = .ok (.aload_n 0, 1) := by decide +kernel
theorem dX10_load_20 : decode cX10_load 20 = .ok (.getfield 12, 3) := by decide +kernel
theorem dX10_load_23 : decode cX10_load 23 = .ok (.getfield 212, 3) := by decide +kernel
theorem dX10_load_26 : decode cX10_load 26 = .ok (.invokevirtual 215, 3) := by decide +kernel
theorem dX10_load_29 : decode cX10_load 29 = .ok (.ireturn, 1) := by decide +kernel
theorem dX10_loadIf_0 : decode cX10_loadIf 0 = .ok (.aload_n 0, 1) := by decide +kernel
theorem dX10_loadIf_1 : decode cX10_loadIf 1 = .ok (.iload_n 1, 1) := by decide +kernel
theorem dX10_loadIf_2 : decode cX10_loadIf 2 = .ok (.invokevirtual 176, 3) := by decide +kernel
theorem dX10_loadIf_5 : decode cX10_loadIf 5 = .ok (.aload_n 0, 1) := by decide +kernel
theorem dX10_loadIf_6 : decode cX10_loadIf 6 = .ok (.iload_n 2, 1) := by decide +kernel
theorem dX10_loadIf_7 : decode cX10_loadIf 7 = .ok (.invokevirtual 196, 3) := by decide +kernel
theorem dX10_loadIf_10 : decode cX10_loadIf 10 = .ok (.aload_n 0, 1) := by decide +kernel
theorem dX10_loadIf_11 : decode cX10_loadIf 11 = .ok (.getfield 29, 3) := by decide +kernel
theorem dX10_loadIf_14 : decode cX10_loadIf 14 = .ok (.iload_n 1, 1) := by decide +kernel
theorem dX10_loadIf_15 : decode cX10_loadIf 15 = .ok (.aaload, 1) := by decide +kernel
theorem dX10_loadIf_16 : decode cX10_loadIf 16 = .ok (.getfield 199, 3) := by decide +kernel
theorem dX10_loadIf_19 : decode cX10_loadIf 19 = .ok (.astore_n 3, 1) := by decide +kernel
theorem dX10_loadIf_20 : decode cX10_loadIf 20 = .ok (.aload_n 3, 1) := by decide +kernel
theorem dX10_loadIf_21 : decode cX10_loadIf 21 = .ok (.iload_n 2, 1) := by decide +kernel
theorem dX10_loadIf_22 : decode cX10_loadIf 22 = .ok (.baload, 1) := by decide +kernel
theorem dX10_loadIf_23 : decode cX10_loadIf 23 = .ok (.istore 4, 2) := by decide +kernel
theorem dX10_loadIf_25 : decode cX10_loadIf 25 = .ok (.aload_n 3, 1) := by decide +kernel
theorem dX10_loadIf_26 : decode cX10_loadIf 26 = .ok (.iload_n 2, 1) := by decide +kernel
theorem dX10_loadIf_27 : decode cX10_loadIf 27 = .ok (.iload 4, 2) := by decide +kernel
theorem dX10_loadIf_29 : decode cX10_loadIf 29 = .ok (.ifCond .ne 7, 3) := by decide +kernel
theorem dX10_loadIf_32 : decode cX10_loadIf 32 = .ok (.iconst 1, 1) := by decide +kernel
theorem dX10_loadIf_33 : decode cX10_loadIf 33 = .ok (.goto 4, 3) := by decide +kernel
theorem dX10_loadIf_36 : decode cX10_loadIf 36 = .ok (.iconst 0, 1) := by decide +kernel
theorem dX10_loadIf_37 : decode cX10_loadIf 37 = .ok (.bastore, 1) := by decide +kernel
theorem dX10_loadIf_38 : decode cX10_loadIf 38 = .ok (.aload_n 0, 1) := by decide +kernel
theorem dX10_loadIf_39 : decode cX10_loadIf 39 = .ok (.aload_n 0, 1) := by decide +kernel
theorem dX10_loadIf_40 : decode cX10_loadIf 40 = .ok (.getfield 29, 3) := by decide +kernel
theorem dX10_loadIf_43 : decode cX10_loadIf 43 = .ok (.iload_n 1, 1) := by decide +kernel
theorem dX10_loadIf_44 : decode cX10_loadIf 44 = .ok (.aaload, 1) := by decide +kernel
theorem dX10_loadIf_45 : decode cX10_loadIf 45 = .ok (.invokevirtual 203, 3) := by decide +kernel
theorem dX10_loadIf_48 : decode cX10_loadIf 48 = .ok (.aload_n 3, 1) := by decide +kernel
theorem dX10_loadIf_49 : decode cX10_loadIf 49 = .ok (.iload_n 2, 1) := by decide +kernel
theorem dX10_loadIf_50 : decode cX10_loadIf 50 = .ok (.iload 4, 2) := by decide +kernel
theorem dX10_loadIf_52 : decode cX10_loadIf 52 = .ok (.bastore, 1) := by decide +kernel
theorem dX10_loadIf_53 : decode cX10_loadIf 53 = .ok (.aload_n 0, 1) := by decide +kernel
theorem dX10_loadIf_54 : decode cX10_loadIf 54 = .ok (.getfield 54, 3) := by decide +kernel
theorem dX10_loadIf_57 : decode cX10_loadIf 57 = .ok (.aload_n 0, 1) := by decide +kernel
theorem dX10_loadIf_58 : decode cX10_loadIf 58 = .ok (.getfield 12, 3) := by decide +kernel
theorem dX10_loadIf_61 : decode cX10_loadIf 61 = .ok (.getfield 212, 3) := by decide +kernel
theorem dX10_loadIf_64 : decode cX10_loadIf 64 = .ok (.invokevirtual 215, 3) := by decide +kernel
theorem dX10_loadIf_67 : decode cX10_loadIf 67 = .ok (.ireturn, 1) := by decide +kernel
theorem dX10_readings_0 : decode cX10_readings 0 = .ok (.aload_n 0, 1) := by decide +kernel
theorem dX10_readings_1 : decode cX10_readings 1 = .ok (.iload_n 1, 1) := by decide +kernel
theorem dX10_readings_2 : decode cX10_readings 2 = .ok (.invokevirtual 176, 3) := by decide +kernel
theorem dX10_readings_5 : decode cX10_readings 5 = .ok (.aload_n 0, 1) := by decide +kernel
theorem dX10_readings_6 : decode cX10_readings 6 = .ok (.iload_n 2, 1) := by decide +kernel
theorem dX10_readings_7 : decode cX10_readings 7 = .ok (.invokevirtual 150, 3) := by decide +kernel
theorem dX10_readings_10 : decode cX10_readings 10 = .ok (.aload_n 0, 1) := by decide +kernel
theorem dX10_readings_11 : decode cX10_readings 11 = .ok (.aload_n 0, 1) := by decide +kernel
theorem dX10_readings_12 : decode cX10_readings 12 = .ok (.getfield 29, 3) := by decide +kernel
theorem dX10_readings_15 : decode cX10_readings 15 = .ok (.iload_n 1, 1) := by decide +kernel
theorem dX10_readings_16 : decode cX10_readings 16 = .ok (.aaload, 1) := by decide +kernel
theorem dX10_readings_17 : decode cX10_readings 17 = .ok (.invokevirtual 203, 3) := by decide +kernel
theorem dX10_readings_20 : decode cX10_readings 20 = .ok (.aload_n 0, 1) := by decide +kernel
theorem dX10_readings_21 : decode cX10_readings 21 = .ok (.getfield 71, 3) := by decide +kernel
theorem dX10_readings_24 : decode cX10_readings 24 = .ok (.aload_n 0, 1) := by decide +kernel
theorem dX10_readings_25 : decode cX10_readings 25 = .ok (.getfield 29, 3) := by decide +kernel
theorem dX10_readings_28 : decode cX10_readings 28 = .ok (.iload_n 1, 1) := by decide +kernel
theorem dX10_readings_29 : decode cX10_readings 29 = .ok (.aaload, 1) := by decide +kernel
theorem dX10_readings_30 : decode cX10_readings 30 = .ok (.aload_n 0, 1) := by decide +kernel
theorem dX10_readings_31 : decode cX10_readings 31 = .ok (.getfield 54, 3) := by decide +kernel
theorem dX10_readings_34 : decode cX10_readings 34 = .ok (.getfield 208, 3) := by decide +kernel
theorem dX10_readings_37 : decode cX10_readings 37 = .ok (.iload_n 2, 1) := by decide +kernel
theorem dX10_readings_38 : decode cX10_readings 38 = .ok (.aaload, 1) := by decide +kernel
theorem dX10_readings_39 : decode cX10_readings 39 = .ok (.aload_n 0, 1) := by decide +kernel
theorem dX10_readings_40 : decode cX10_readings 40 = .ok (.getfield 54, 3) := by decide +kernel
theorem dX10_readings_43 : decode cX10_readings 43 = .ok (.getfield 207, 3) := by decide +kernel
theorem dX10_readings_46 : decode cX10_readings 46 = .ok (.iload_n 2, 1) := by decide +kernel
theorem dX10_readings_47 : decode cX10_readings 47 = .ok (.iaload, 1) := by decide +kernel
theorem dX10_readings_48 : decode cX10_readings 48 = .ok (.invokevirtual 219, 3) := by decide +kernel
theorem dX10_readings_51 : decode cX10_readings 51 = .ok (.lreturn, 1) := by decide +kernel
theorem dX10_readingsAnew_0 : decode cX10_readingsAnew 0 = .ok (.aload_n 0, 1) := by decide +kernel
theorem dX10_readingsAnew_1 : decode cX10_readingsAnew 1 = .ok (.iload_n 1, 1) := by decide +kernel
theorem dX10_readingsAnew_2 : decode cX10_readingsAnew 2 = .ok (.invokevirtual 176, 3) := by decide +kernel
theorem dX10_readingsAnew_5 : decode cX10_readingsAnew 5 = .ok (.aload_n 0, 1) := by decide +kernel
theorem dX10_readingsAnew_6 : decode cX10_readingsAnew 6 = .ok (.iload_n 2, 1) := by decide +kernel
theorem dX10_readingsAnew_7 : decode cX10_readingsAnew 7 = .ok (.invokevirtual 150, 3) := by decide +kernel
theorem dX10_readingsAnew_10 : decode cX10_readingsAnew 10 = .ok (.aload_n 0, 1) := by decide +kernel
theorem dX10_readingsAnew_11 : decode cX10_readingsAnew 11 = .ok (.aload_n 0, 1) := by decide +kernel
theorem dX10_readingsAnew_12 : decode cX10_readingsAnew 12 = .ok (.getfield 29, 3) := by decide +kernel
theorem dX10_readingsAnew_15 : decode cX10_readingsAnew 15 = .ok (.iload_n 1, 1) := by decide +kernel
theorem dX10_readingsAnew_16 : decode cX10_readingsAnew 16 = .ok (.aaload, 1) := by decide +kernel
theorem dX10_readingsAnew_17 : decode cX10_readingsAnew 17 = .ok (.invokevirtual 203, 3) := by decide +kernel
theorem dX10_readingsAnew_20 : decode cX10_readingsAnew 20 = .ok (.aload_n 0, 1) := by decide +kernel
theorem dX10_readingsAnew_21 : decode cX10_readingsAnew 21 = .ok (.getfield 71, 3) := by decide +kernel
theorem dX10_readingsAnew_24 : decode cX10_readingsAnew 24 = .ok (.aload_n 0, 1) := by decide +kernel
theorem dX10_readingsAnew_25 : decode cX10_readingsAnew 25 = .ok (.getfield 29, 3) := by decide +kernel
theorem dX10_readingsAnew_28 : decode cX10_readingsAnew 28 = .ok (.iload_n 1, 1) := by decide +kernel
theorem dX10_readingsAnew_29 : decode cX10_readingsAnew 29 = .ok (.aaload, 1) := by decide +kernel
theorem dX10_readingsAnew_30 : decode cX10_readingsAnew 30 = .ok (.aload_n 0, 1) := by decide +kernel
theorem dX10_readingsAnew_31 : decode cX10_readingsAnew 31 = .ok (.getfield 54, 3) := by decide +kernel
theorem dX10_readingsAnew_34 : decode cX10_readingsAnew 34 = .ok (.getfield 208, 3) := by decide +kernel
theorem dX10_readingsAnew_37 : decode cX10_readingsAnew 37 = .ok (.iload_n 2, 1) := by decide +kernel
theorem dX10_readingsAnew_38 : decode cX10_readingsAnew 38 = .ok (.aaload, 1) := by decide +kernel
theorem dX10_readingsAnew_39 : decode cX10_readingsAnew 39 = .ok (.aload_n 0, 1) := by decide +kernel
theorem dX10_readingsAnew_40 : decode cX10_readingsAnew 40 = .ok (.getfield 54, 3) := by decide +kernel
theorem dX10_readingsAnew_43 : decode cX10_readingsAnew 43 = .ok (.getfield 207, 3) := by decide +kernel
theorem dX10_readingsAnew_46 : decode cX10_readingsAnew 46 = .ok (.iload_n 2, 1) := by decide +kernel
theorem dX10_readingsAnew_47 : decode cX10_readingsAnew 47 = .ok (.iaload, 1) := by decide +kernel
theorem dX10_readingsAnew_48 : decode cX10_readingsAnew 48 = .ok (.invokevirtual 223, 3) := by decide +kernel
theorem dX10_readingsAnew_51 : decode cX10_readingsAnew 51 = .ok (.lreturn, 1) := by decide +kernel
theorem dX10_fit_0 : decode cX10_fit 0 = .ok (.aload_n 0, 1) := by decide +kernel
theorem dX10_fit_1 : decode cX10_fit 1 = .ok (.iload_n 1, 1) := by decide +kernel
theorem dX10_fit_2 : decode cX10_fit 2 = .ok (.invokevirtual 176, 3) := by decide +kernel
theorem dX10_fit_5 : decode cX10_fit 5 = .ok (.aload_n 0, 1) := by decide +kernel
theorem dX10_fit_6 : decode cX10_fit 6 = .ok (.iload_n 2, 1) := by decide +kernel
theorem dX10_fit_7 : decode cX10_fit 7 = .ok (.invokevirtual 128, 3) := by decide +kernel
theorem dX10_fit_10 : decode cX10_fit 10 = .ok (.aload_n 0, 1) := by decide +kernel
theorem dX10_fit_11 : decode cX10_fit 11 = .ok (.aload_n 0, 1) := by decide +kernel
theorem dX10_fit_12 : decode cX10_fit 12 = .ok (.getfield 29, 3) := by decide +kernel
theorem dX10_fit_15 : decode cX10_fit 15 = .ok (.iload_n 1, 1) := by decide +kernel
theorem dX10_fit_16 : decode cX10_fit 16 = .ok (.aaload, 1) := by decide +kernel
theorem dX10_fit_17 : decode cX10_fit 17 = .ok (.invokevirtual 203, 3) := by decide +kernel
theorem dX10_fit_20 : decode cX10_fit 20 = .ok (.aload_n 0, 1) := by decide +kernel
theorem dX10_fit_21 : decode cX10_fit 21 = .ok (.aload_n 0, 1) := by decide +kernel
theorem dX10_fit_22 : decode cX10_fit 22 = .ok (.getfield 29, 3) := by decide +kernel
theorem dX10_fit_25 : decode cX10_fit 25 = .ok (.iload_n 1, 1) := by decide +kernel
theorem dX10_fit_26 : decode cX10_fit 26 = .ok (.aaload, 1) := by decide +kernel
theorem dX10_fit_27 : decode cX10_fit 27 = .ok (.iload_n 2, 1) := by decide +kernel
theorem dX10_fit_28 : decode cX10_fit 28 = .ok (.invokevirtual 226, 3) := by decide +kernel
theorem dX10_fit_31 : decode cX10_fit 31 = .ok (.ireturn, 1) := by decide +kernel
theorem dX10_shape_0 : decode cX10_shape 0 = .ok (.aload_n 0, 1) := by decide +kernel
theorem dX10_shape_1 : decode cX10_shape 1 = .ok (.iload_n 1, 1) := by decide +kernel
theorem dX10_shape_2 : decode cX10_shape 2 = .ok (.invokevirtual 230, 3) := by decide +kernel
theorem dX10_shape_5 : decode cX10_shape 5 = .ok (.iload_n 2, 1) := by decide +kernel
theorem dX10_shape_6 : decode cX10_shape 6 = .ok (.invokestatic 233, 3) := by decide +kernel
theorem dX10_shape_9 : decode cX10_shape 9 = .ok (.ifCond .ne 13, 3) := by decide +kernel
theorem dX10_shape_12 : decode cX10_shape 12 = .ok (.new 89, 3) := by decide +kernel
theorem dX10_shape_15 : decode cX10_shape 15 = .ok (.dup, 1) := by decide +kernel
theorem dX10_shape_16 : decode cX10_shape 16 = .ok (.ldc 236, 2) := by decide +kernel
theorem dX10_shape_18 : decode cX10_shape 18 = .ok (.invokespecial 93, 3) := by decide +kernel
theorem dX10_shape_21 : decode cX10_shape 21 = .ok (.athrow, 1) := by decide +kernel
theorem dX10_shape_22 : decode cX10_shape 22 = .ok (.aload_n 0, 1) := by decide +kernel
theorem dX10_shape_23 : decode cX10_shape 23 = .ok (.getfield 40, 3) := by decide +kernel
theorem dX10_shape_26 : decode cX10_shape 26 = .ok (.getfield 238, 3) := by decide +kernel
theorem dX10_shape_29 : decode cX10_shape 29 = .ok (.iload_n 1, 1) := by decide +kernel
theorem dX10_shape_30 : decode cX10_shape 30 = .ok (.iaload, 1) := by decide +kernel
theorem dX10_shape_31 : decode cX10_shape 31 = .ok (.istore_n 3, 1) := by decide +kernel
theorem dX10_shape_32 : decode cX10_shape 32 = .ok (.aload_n 0, 1) := by decide +kernel
theorem dX10_shape_33 : decode cX10_shape 33 = .ok (.getfield 40, 3) := by decide +kernel
theorem dX10_shape_36 : decode cX10_shape 36 = .ok (.iload_n 1, 1) := by decide +kernel
theorem dX10_shape_37 : decode cX10_shape 37 = .ok (.iload_n 2, 1) := by decide +kernel
theorem dX10_shape_38 : decode cX10_shape 38 = .ok (.invokevirtual 241, 3) := by decide +kernel
theorem dX10_shape_41 : decode cX10_shape 41 = .ok (.iload_n 3, 1) := by decide +kernel
theorem dX10_shape_42 : decode cX10_shape 42 = .ok (.ireturn, 1) := by decide +kernel
theorem dX10_apart_0 : decode cX10_apart 0 = .ok (.aload_n 0, 1) := by decide +kernel
theorem dX10_apart_1 : decode cX10_apart 1 = .ok (.iload_n 1, 1) := by decide +kernel
theorem dX10_apart_2 : decode cX10_apart 2 = .ok (.invokevirtual 230, 3) := by decide +kernel
theorem dX10_apart_5 : decode cX10_apart 5 = .ok (.aload_n 0, 1) := by decide +kernel
theorem dX10_apart_6 : decode cX10_apart 6 = .ok (.iload_n 2, 1) := by decide +kernel
theorem dX10_apart_7 : decode cX10_apart 7 = .ok (.invokevirtual 230, 3) := by decide +kernel
theorem dX10_apart_10 : decode cX10_apart 10 = .ok (.aload_n 0, 1) := by decide +kernel
theorem dX10_apart_11 : decode cX10_apart 11 = .ok (.getfield 40, 3) := by decide +kernel
theorem dX10_apart_14 : decode cX10_apart 14 = .ok (.iload_n 1, 1) := by decide +kernel
theorem dX10_apart_15 : decode cX10_apart 15 = .ok (.iload_n 2, 1) := by decide +kernel
theorem dX10_apart_16 : decode cX10_apart 16 = .ok (.invokevirtual 244, 3) := by decide +kernel
theorem dX10_apart_19 : decode cX10_apart 19 = .ok (.ireturn, 1) := by decide +kernel
theorem dX10_errors_0 : decode cX10_errors 0 = .ok (.aload_n 0, 1) := by decide +kernel
theorem dX10_errors_1 : decode cX10_errors 1 = .ok (.iload_n 1, 1) := by decide +kernel
theorem dX10_errors_2 : decode cX10_errors 2 = .ok (.invokevirtual 176, 3) := by decide +kernel
theorem dX10_errors_5 : decode cX10_errors 5 = .ok (.iload_n 2, 1) := by decide +kernel
theorem dX10_errors_6 : decode cX10_errors 6 = .ok (.ifCond .lt 8, 3) := by decide +kernel
theorem dX10_errors_9 : decode cX10_errors 9 = .ok (.iload_n 2, 1) := by decide +kernel
theorem dX10_errors_10 : decode cX10_errors 10 = .ok (.iconst 4, 1) := by decide +kernel
theorem dX10_errors_11 : decode cX10_errors 11 = .ok (.if_icmp .le 14, 3) := by decide +kernel
theorem dX10_errors_14 : decode cX10_errors 14 = .ok (.new 89, 3) := by decide +kernel
theorem dX10_errors_17 : decode cX10_errors 17 = .ok (.dup, 1) := by decide +kernel
theorem dX10_errors_18 : decode cX10_errors 18 = .ok (.ldc_w 256, 3) := by decide +kernel
theorem dX10_errors_21 : decode cX10_errors 21 = .ok (.invokespecial 93, 3) := by decide +kernel
theorem dX10_errors_24 : decode cX10_errors 24 = .ok (.athrow, 1) := by decide +kernel
theorem dX10_errors_25 : decode cX10_errors 25 = .ok (.aload_n 0, 1) := by decide +kernel
theorem dX10_errors_26 : decode cX10_errors 26 = .ok (.aload_n 0, 1) := by decide +kernel
theorem dX10_errors_27 : decode cX10_errors 27 = .ok (.getfield 29, 3) := by decide +kernel
theorem dX10_errors_30 : decode cX10_errors 30 = .ok (.iload_n 1, 1) := by decide +kernel
theorem dX10_errors_31 : decode cX10_errors 31 = .ok (.aaload, 1) := by decide +kernel
theorem dX10_errors_32 : decode cX10_errors 32 = .ok (.invokevirtual 203, 3) := by decide +kernel
theorem dX10_errors_35 : decode cX10_errors 35 = .ok (.aload_n 0, 1) := by decide +kernel
theorem dX10_errors_36 : decode cX10_errors 36 = .ok (.getfield 40, 3) := by decide +kernel
theorem dX10_errors_39 : decode cX10_errors 39 = .ok (.aload_n 0, 1) := by decide +kernel
theorem dX10_errors_40 : decode cX10_errors 40 = .ok (.getfield 54, 3) := by decide +kernel
theorem dX10_errors_43 : decode cX10_errors 43 = .ok (.invokevirtual 258, 3) := by decide +kernel
theorem dX10_errors_46 : decode cX10_errors 46 = .ok (.aload_n 0, 1) := by decide +kernel
theorem dX10_errors_47 : decode cX10_errors 47 = .ok (.getfield 29, 3) := by decide +kernel
theorem dX10_errors_50 : decode cX10_errors 50 = .ok (.iload_n 1, 1) := by decide +kernel
theorem dX10_errors_51 : decode cX10_errors 51 = .ok (.aaload, 1) := by decide +kernel
theorem dX10_errors_52 : decode cX10_errors 52 = .ok (.invokevirtual 248, 3) := by decide +kernel
theorem dX10_errors_55 : decode cX10_errors 55 = .ok (.iload_n 2, 1) := by decide +kernel
theorem dX10_errors_56 : decode cX10_errors 56 = .ok (.invokevirtual 261, 3) := by decide +kernel
theorem dX10_errors_59 : decode cX10_errors 59 = .ok (.lstore_n 3, 1) := by decide +kernel
theorem dX10_errors_60 : decode cX10_errors 60 = .ok (.iconst 0, 1) := by decide +kernel
theorem dX10_errors_61 : decode cX10_errors 61 = .ok (.istore 5, 2) := by decide +kernel
theorem dX10_errors_63 : decode cX10_errors 63 = .ok (.iconst 0, 1) := by decide +kernel
theorem dX10_errors_64 : decode cX10_errors 64 = .ok (.istore 6, 2) := by decide +kernel
theorem dX10_errors_66 : decode cX10_errors 66 = .ok (.iload 6, 2) := by decide +kernel
theorem dX10_errors_68 : decode cX10_errors 68 = .ok (.aload_n 0, 1) := by decide +kernel
theorem dX10_errors_69 : decode cX10_errors 69 = .ok (.getfield 12, 3) := by decide +kernel
theorem dX10_errors_72 : decode cX10_errors 72 = .ok (.getfield 112, 3) := by decide +kernel
theorem dX10_errors_75 : decode cX10_errors 75 = .ok (.if_icmp .ge 35, 3) := by decide +kernel
theorem dX10_errors_78 : decode cX10_errors 78 = .ok (.iload 5, 2) := by decide +kernel
theorem dX10_errors_80 : decode cX10_errors 80 = .ok (.aload_n 0, 1) := by decide +kernel
theorem dX10_errors_81 : decode cX10_errors 81 = .ok (.getfield 12, 3) := by decide +kernel
theorem dX10_errors_84 : decode cX10_errors 84 = .ok (.getfield 212, 3) := by decide +kernel
theorem dX10_errors_87 : decode cX10_errors 87 = .ok (.iload 6, 2) := by decide +kernel
theorem dX10_errors_89 : decode cX10_errors 89 = .ok (.iaload, 1) := by decide +kernel
theorem dX10_errors_90 : decode cX10_errors 90 = .ok (.aload_n 0, 1) := by decide +kernel
theorem dX10_errors_91 : decode cX10_errors 91 = .ok (.getfield 54, 3) := by decide +kernel
theorem dX10_errors_94 : decode cX10_errors 94 = .ok (.iload 6, 2) := by decide +kernel
theorem dX10_errors_96 : decode cX10_errors 96 = .ok (.lload_n 3, 1) := by decide +kernel
theorem dX10_errors_97 : decode cX10_errors 97 = .ok (.invokevirtual 265, 3) := by decide +kernel
theorem dX10_errors_100 : decode cX10_errors 100 = .ok (.imul, 1) := by decide +kernel
theorem dX10_errors_101 : decode cX10_errors 101 = .ok (.iadd, 1) := by decide +kernel
theorem dX10_errors_102 : decode cX10_errors 102 = .ok (.istore 5, 2) := by decide +kernel
theorem dX10_errors_104 : decode cX10_errors 104 = .ok (.iinc 6 1, 3) := by decide +kernel
theorem dX10_errors_107 : decode cX10_errors 107 = .ok (.goto (-41), 3) := by decide +kernel
theorem dX10_errors_110 : decode cX10_errors 110 = .ok (.iload 5, 2) := by decide +kernel
theorem dX10_errors_112 : decode cX10_errors 112 = .ok (.ireturn, 1) := by decide +kernel
theorem dX10_primer_0 : decode cX10_primer 0 = .ok (.aload_n 0, 1) := by decide +kernel
theorem dX10_primer_1 : decode cX10_primer 1 = .ok (.iload_n 1, 1) := by decide +kernel
theorem dX10_primer_2 : decode cX10_primer 2 = .ok (.invokevirtual 176, 3) := by decide +kernel
theorem dX10_primer_5 : decode cX10_primer 5 = .ok (.aload_n 0, 1) := by decide +kernel
theorem dX10_primer_6 : decode cX10_primer 6 = .ok (.iload_n 2, 1) := by decide +kernel
theorem dX10_primer_7 : decode cX10_primer 7 = .ok (.invokevirtual 153, 3) := by decide +kernel
theorem dX10_primer_10 : decode cX10_primer 10 = .ok (.aload_n 0, 1) := by decide +kernel
theorem dX10_primer_11 : decode cX10_primer 11 = .ok (.aload_n 0, 1) := by decide +kernel
theorem dX10_primer_12 : decode cX10_primer 12 = .ok (.getfield 29, 3) := by decide +kernel
theorem dX10_primer_15 : decode cX10_primer 15 = .ok (.iload_n 1, 1) := by decide +kernel
theorem dX10_primer_16 : decode cX10_primer 16 = .ok (.aaload, 1) := by decide +kernel
theorem dX10_primer_17 : decode cX10_primer 17 = .ok (.invokevirtual 269, 3) := by decide +kernel
theorem dX10_primer_20 : decode cX10_primer 20 = .ok (.iload_n 2, 1) := by decide +kernel
theorem dX10_primer_21 : decode cX10_primer 21 = .ok (.aload_n 0, 1) := by decide +kernel
theorem dX10_primer_22 : decode cX10_primer 22 = .ok (.getfield 78, 3) := by decide +kernel
theorem dX10_primer_25 : decode cX10_primer 25 = .ok (.getfield 272, 3) := by decide +kernel
theorem dX10_primer_28 : decode cX10_primer 28 = .ok (.if_icmp .ge 15, 3) := by decide +kernel
theorem dX10_primer_31 : decode cX10_primer 31 = .ok (.aload_n 0, 1) := by decide +kernel
theorem dX10_primer_32 : decode cX10_primer 32 = .ok (.getfield 78, 3) := by decide +kernel
theorem dX10_primer_35 : decode cX10_primer 35 = .ok (.getfield 275, 3) := by decide +kernel
theorem dX10_primer_38 : decode cX10_primer 38 = .ok (.iload_n 2, 1) := by decide +kernel
theorem dX10_primer_39 : decode cX10_primer 39 = .ok (.iaload, 1) := by decide +kernel
theorem dX10_primer_40 : decode cX10_primer 40 = .ok (.goto 4, 3) := by decide +kernel
theorem dX10_primer_43 : decode cX10_primer 43 = .ok (.iconst (-1), 1) := by decide +kernel
theorem dX10_primer_44 : decode cX10_primer 44 = .ok (.ireturn, 1) := by decide +kernel
theorem dX10_cost_0 : decode cX10_cost 0 = .ok (.aload_n 0, 1) := by decide +kernel
theorem dX10_cost_1 : decode cX10_cost 1 = .ok (.iload_n 1, 1) := by decide +kernel
theorem dX10_cost_2 : decode cX10_cost 2 = .ok (.invokevirtual 176, 3) := by decide +kernel
theorem dX10_cost_5 : decode cX10_cost 5 = .ok (.aload_n 0, 1) := by decide +kernel
theorem dX10_cost_6 : decode cX10_cost 6 = .ok (.aload_n 0, 1) := by decide +kernel
theorem dX10_cost_7 : decode cX10_cost 7 = .ok (.getfield 29, 3) := by decide +kernel
theorem dX10_cost_10 : decode cX10_cost 10 = .ok (.iload_n 1, 1) := by decide +kernel
theorem dX10_cost_11 : decode cX10_cost 11 = .ok (.aaload, 1) := by decide +kernel
theorem dX10_cost_12 : decode cX10_cost 12 = .ok (.invokevirtual 269, 3) := by decide +kernel
theorem dX10_cost_15 : decode cX10_cost 15 = .ok (.aload_n 0, 1) := by decide +kernel
theorem dX10_cost_16 : decode cX10_cost 16 = .ok (.getfield 78, 3) := by decide +kernel
theorem dX10_cost_19 : decode cX10_cost 19 = .ok (.invokevirtual 278, 3) := by decide +kernel
theorem dX10_cost_22 : decode cX10_cost 22 = .ok (.ireturn, 1) := by decide +kernel
theorem dX10_leastCost_0 : decode cX10_leastCost 0 = .ok (.aload_n 0, 1) := by decide +kernel
theorem dX10_leastCost_1 : decode cX10_leastCost 1 = .ok (.iload_n 1, 1) := by decide +kernel
theorem dX10_leastCost_2 : decode cX10_leastCost 2 = .ok (.invokevirtual 176, 3) := by decide +kernel
theorem dX10_leastCost_5 : decode cX10_leastCost 5 = .ok (.aload_n 0, 1) := by decide +kernel
theorem dX10_leastCost_6 : decode cX10_leastCost 6 = .ok (.aload_n 0, 1) := by decide +kernel
theorem dX10_leastCost_7 : decode cX10_leastCost 7 = .ok (.getfield 29, 3) := by decide +kernel
theorem dX10_leastCost_10 : decode cX10_leastCost 10 = .ok (.iload_n 1, 1) := by decide +kernel
theorem dX10_leastCost_11 : decode cX10_leastCost 11 = .ok (.aaload, 1) := by decide +kernel
theorem dX10_leastCost_12 : decode cX10_leastCost 12 = .ok (.invokevirtual 203, 3) := by decide +kernel
theorem dX10_leastCost_15 : decode cX10_leastCost 15 = .ok (.aload_n 0, 1) := by decide +kernel
theorem dX10_leastCost_16 : decode cX10_leastCost 16 = .ok (.getfield 78, 3) := by decide +kernel
theorem dX10_leastCost_19 : decode cX10_leastCost 19 = .ok (.aload_n 0, 1) := by decide +kernel
theorem dX10_leastCost_20 : decode cX10_leastCost 20 = .ok (.getfield 54, 3) := by decide +kernel
theorem dX10_leastCost_23 : decode cX10_leastCost 23 = .ok (.aload_n 0, 1) := by decide +kernel
theorem dX10_leastCost_24 : decode cX10_leastCost 24 = .ok (.getfield 12, 3) := by decide +kernel
theorem dX10_leastCost_27 : decode cX10_leastCost 27 = .ok (.getfield 212, 3) := by decide +kernel
theorem dX10_leastCost_30 : decode cX10_leastCost 30 = .ok (.invokevirtual 282, 3) := by decide +kernel
theorem dX10_leastCost_33 : decode cX10_leastCost 33 = .ok (.aload_n 0, 1) := by decide +kernel
theorem dX10_leastCost_34 : decode cX10_leastCost 34 = .ok (.getfield 78, 3) := by decide +kernel
theorem dX10_leastCost_37 : decode cX10_leastCost 37 = .ok (.getfield 286, 3) := by decide +kernel
theorem dX10_leastCost_40 : decode cX10_leastCost 40 = .ok (.invokestatic 290, 3) := by decide +kernel
theorem dX10_leastCost_43 : decode cX10_leastCost 43 = .ok (.bipush 10, 2) := by decide +kernel
theorem dX10_leastCost_45 : decode cX10_leastCost 45 = .ok (.if_icmp .le 14, 3) := by decide +kernel
theorem dX10_leastCost_48 : decode cX10_leastCost 48 = .ok (.new 99, 3) := by decide +kernel
theorem dX10_leastCost_51 : decode cX10_leastCost 51 = .ok (.dup, 1) := by decide +kernel
theorem dX10_leastCost_52 : decode cX10_leastCost 52 = .ok (.ldc_w 295, 3) := by decide +kernel
theorem dX10_leastCost_55 : decode cX10_leastCost 55 = .ok (.invokespecial 103, 3) := by decide +kernel
theorem dX10_leastCost_58 : decode cX10_leastCost 58 = .ok (.athrow, 1) := by decide +kernel
theorem dX10_leastCost_59 : decode cX10_leastCost 59 = .ok (.aload_n 0, 1) := by decide +kernel
theorem dX10_leastCost_60 : decode cX10_leastCost 60 = .ok (.getfield 78, 3) := by decide +kernel
theorem dX10_leastCost_63 : decode cX10_leastCost 63 = .ok (.invokevirtual 297, 3) := by decide +kernel
theorem dX10_leastCost_66 : decode cX10_leastCost 66 = .ok (.ireturn, 1) := by decide +kernel
theorem dX10_key_0 : decode cX10_key 0 = .ok (.aload_n 0, 1) := by decide +kernel
theorem dX10_key_1 : decode cX10_key 1 = .ok (.iload_n 1, 1) := by decide +kernel
theorem dX10_key_2 : decode cX10_key 2 = .ok (.invokevirtual 176, 3) := by decide +kernel
theorem dX10_key_5 : decode cX10_key 5 = .ok (.aload_n 0, 1) := by decide +kernel
theorem dX10_key_6 : decode cX10_key 6 = .ok (.iload_n 2, 1) := by decide +kernel
theorem dX10_key_7 : decode cX10_key 7 = .ok (.invokevirtual 230, 3) := by decide +kernel
theorem dX10_key_10 : decode cX10_key 10 = .ok (.iload_n 3, 1) := by decide +kernel
theorem dX10_key_11 : decode cX10_key 11 = .ok (.ifCond .lt 9, 3) := by decide +kernel
theorem dX10_key_14 : decode cX10_key 14 = .ok (.iload_n 3, 1) := by decide +kernel
theorem dX10_key_15 : decode cX10_key 15 = .ok (.bipush 50, 2) := by decide +kernel
theorem dX10_key_17 : decode cX10_key 17 = .ok (.if_icmp .lt 14, 3) := by decide +kernel
theorem dX10_key_20 : decode cX10_key 20 = .ok (.new 132, 3) := by decide +kernel
theorem dX10_key_23 : decode cX10_key 23 = .ok (.dup, 1) := by decide +kernel
theorem dX10_key_24 : decode cX10_key 24 = .ok (.ldc_w 300, 3) := by decide +kernel
theorem dX10_key_27 : decode cX10_key 27 = .ok (.invokespecial 136, 3) := by decide +kernel
theorem dX10_key_30 : decode cX10_key 30 = .ok (.athrow, 1) := by decide +kernel
theorem dX10_key_31 : decode cX10_key 31 = .ok (.aload_n 0, 1) := by decide +kernel
theorem dX10_key_32 : decode cX10_key 32 = .ok (.getfield 29, 3) := by decide +kernel
theorem dX10_key_35 : decode cX10_key 35 = .ok (.iload_n 1, 1) := by decide +kernel
theorem dX10_key_36 : decode cX10_key 36 = .ok (.aaload, 1) := by decide +kernel
theorem dX10_key_37 : decode cX10_key 37 = .ok (.iload_n 2, 1) := by decide +kernel
theorem dX10_key_38 : decode cX10_key 38 = .ok (.iload_n 3, 1) := by decide +kernel
theorem dX10_key_39 : decode cX10_key 39 = .ok (.invokevirtual 302, 3) := by decide +kernel
theorem dX10_key_42 : decode cX10_key 42 = .ok (.ireturn, 1) := by decide +kernel
theorem dX10_travel_0 : decode cX10_travel 0 = .ok (.aload_n 0, 1) := by decide +kernel
theorem dX10_travel_1 : decode cX10_travel 1 = .ok (.iload_n 1, 1) := by decide +kernel
theorem dX10_travel_2 : decode cX10_travel 2 = .ok (.invokevirtual 176, 3) := by decide +kernel
theorem dX10_travel_5 : decode cX10_travel 5 = .ok (.aload_n 0, 1) := by decide +kernel
theorem dX10_travel_6 : decode cX10_travel 6 = .ok (.aload_n 0, 1) := by decide +kernel
theorem dX10_travel_7 : decode cX10_travel 7 = .ok (.getfield 29, 3) := by decide +kernel
theorem dX10_travel_10 : decode cX10_travel 10 = .ok (.iload_n 1, 1) := by decide +kernel
theorem dX10_travel_11 : decode cX10_travel 11 = .ok (.aaload, 1) := by decide +kernel
theorem dX10_travel_12 : decode cX10_travel 12 = .ok (.invokevirtual 203, 3) := by decide +kernel
theorem dX10_travel_15 : decode cX10_travel 15 = .ok (.iconst 0, 1) := by decide +kernel
theorem dX10_travel_16 : decode cX10_travel 16 = .ok (.istore_n 2, 1) := by decide +kernel
theorem dX10_travel_17 : decode cX10_travel 17 = .ok (.iconst 0, 1) := by decide +kernel
theorem dX10_travel_18 : decode cX10_travel 18 = .ok (.istore_n 3, 1) := by decide +kernel
theorem dX10_travel_19 : decode cX10_travel 19 = .ok (.iload_n 3, 1) := by decide +kernel
theorem dX10_travel_20 : decode cX10_travel 20 = .ok (.aload_n 0, 1) := by decide +kernel
theorem dX10_travel_21 : decode cX10_travel 21 = .ok (.getfield 12, 3) := by decide +kernel
theorem dX10_travel_24 : decode cX10_travel 24 = .ok (.getfield 112, 3) := by decide +kernel
theorem dX10_travel_27 : decode cX10_travel 27 = .ok (.if_icmp .ge 53, 3) := by decide +kernel
theorem dX10_travel_30 : decode cX10_travel 30 = .ok (.aload_n 0, 1) := by decide +kernel
theorem dX10_travel_31 : decode cX10_travel 31 = .ok (.getfield 29, 3) := by decide +kernel
theorem dX10_travel_34 : decode cX10_travel 34 = .ok (.iload_n 1, 1) := by decide +kernel
theorem dX10_travel_35 : decode cX10_travel 35 = .ok (.aaload, 1) := by decide +kernel
theorem dX10_travel_36 : decode cX10_travel 36 = .ok (.aload_n 0, 1) := by decide +kernel
theorem dX10_travel_37 : decode cX10_travel 37 = .ok (.getfield 54, 3) := by decide +kernel
theorem dX10_travel_40 : decode cX10_travel 40 = .ok (.getfield 208, 3) := by decide +kernel
theorem dX10_travel_43 : decode cX10_travel 43 = .ok (.iload_n 3, 1) := by decide +kernel
theorem dX10_travel_44 : decode cX10_travel 44 = .ok (.aaload, 1) := by decide +kernel
theorem dX10_travel_45 : decode cX10_travel 45 = .ok (.aload_n 0, 1) := by decide +kernel
theorem dX10_travel_46 : decode cX10_travel 46 = .ok (.getfield 54, 3) := by decide +kernel
theorem dX10_travel_49 : decode cX10_travel 49 = .ok (.getfield 207, 3) := by decide +kernel
theorem dX10_travel_52 : decode cX10_travel 52 = .ok (.iload_n 3, 1) := by decide +kernel
theorem dX10_travel_53 : decode cX10_travel 53 = .ok (.iaload, 1) := by decide +kernel
theorem dX10_travel_54 : decode cX10_travel 54 = .ok (.invokevirtual 305, 3) := by decide +kernel
theorem dX10_travel_57 : decode cX10_travel 57 = .ok (.istore 4, 2) := by decide +kernel
theorem dX10_travel_59 : decode cX10_travel 59 = .ok (.iload_n 2, 1) := by decide +kernel
theorem dX10_travel_60 : decode cX10_travel 60 = .ok (.aload_n 0, 1) := by decide +kernel
theorem dX10_travel_61 : decode cX10_travel 61 = .ok (.getfield 12, 3) := by decide +kernel
theorem dX10_travel_64 : decode cX10_travel 64 = .ok (.getfield 212, 3) := by decide +kernel
theorem dX10_travel_67 : decode cX10_travel 67 = .ok (.iload_n 3, 1) := by decide +kernel
theorem dX10_travel_68 : decode cX10_travel 68 = .ok (.iaload, 1) := by decide +kernel
theorem dX10_travel_69 : decode cX10_travel 69 = .ok (.iload 4, 2) := by decide +kernel
theorem dX10_travel_71 : decode cX10_travel 71 = .ok (.imul, 1) := by decide +kernel
theorem dX10_travel_72 : decode cX10_travel 72 = .ok (.iadd, 1) := by decide +kernel
theorem dX10_travel_73 : decode cX10_travel 73 = .ok (.istore_n 2, 1) := by decide +kernel
theorem dX10_travel_74 : decode cX10_travel 74 = .ok (.iinc 3 1, 3) := by decide +kernel
theorem dX10_travel_77 : decode cX10_travel 77 = .ok (.goto (-58), 3) := by decide +kernel
theorem dX10_travel_80 : decode cX10_travel 80 = .ok (.iload_n 2, 1) := by decide +kernel
theorem dX10_travel_81 : decode cX10_travel 81 = .ok (.ireturn, 1) := by decide +kernel
theorem dX10_group_0 : decode cX10_group 0 = .ok (.aload_n 0, 1) := by decide +kernel
theorem dX10_group_1 : decode cX10_group 1 = .ok (.iload_n 1, 1) := by decide +kernel
theorem dX10_group_2 : decode cX10_group 2 = .ok (.invokevirtual 317, 3) := by decide +kernel
theorem dX10_group_5 : decode cX10_group 5 = .ok (.aload_n 0, 1) := by decide +kernel
theorem dX10_group_6 : decode cX10_group 6 = .ok (.iload 4, 2) := by decide +kernel
theorem dX10_group_8 : decode cX10_group 8 = .ok (.invokevirtual 128, 3) := by decide +kernel
theorem dX10_group_11 : decode cX10_group 11 = .ok (.iload_n 2, 1) := by decide +kernel
theorem dX10_group_12 : decode cX10_group 12 = .ok (.ifCond .lt 10, 3) := by decide +kernel
theorem dX10_group_15 : decode cX10_group 15 = .ok (.iload_n 2, 1) := by decide +kernel
theorem dX10_group_16 : decode cX10_group 16 = .ok (.sipush 999, 3) := by decide +kernel
theorem dX10_group_19 : decode cX10_group 19 = .ok (.if_icmp .le 14, 3) := by decide +kernel
theorem dX10_group_22 : decode cX10_group 22 = .ok (.new 89, 3) := by decide +kernel
theorem dX10_group_25 : decode cX10_group 25 = .ok (.dup, 1) := by decide +kernel
theorem dX10_group_26 : decode cX10_group 26 = .ok (.ldc_w 320, 3) := by decide +kernel
theorem dX10_group_29 : decode cX10_group 29 = .ok (.invokespecial 93, 3) := by decide +kernel
theorem dX10_group_32 : decode cX10_group 32 = .ok (.athrow, 1) := by decide +kernel
theorem dX10_group_33 : decode cX10_group 33 = .ok (.iload_n 3, 1) := by decide +kernel
theorem dX10_group_34 : decode cX10_group 34 = .ok (.ifCond .lt 10, 3) := by decide +kernel
theorem dX10_group_37 : decode cX10_group 37 = .ok (.iload_n 3, 1) := by decide +kernel
theorem dX10_group_38 : decode cX10_group 38 = .ok (.sipush 999, 3) := by decide +kernel
theorem dX10_group_41 : decode cX10_group 41 = .ok (.if_icmp .le 14, 3) := by decide +kernel
theorem dX10_group_44 : decode cX10_group 44 = .ok (.new 89, 3) := by decide +kernel
theorem dX10_group_47 : decode cX10_group 47 = .ok (.dup, 1) := by decide +kernel
theorem dX10_group_48 : decode cX10_group 48 = .ok (.ldc_w 322, 3) := by decide +kernel
theorem dX10_group_51 : decode cX10_group 51 = .ok (.invokespecial 93, 3) := by decide +kernel
theorem dX10_group_54 : decode cX10_group 54 = .ok (.athrow, 1) := by decide +kernel
theorem dX10_group_55 : decode cX10_group 55 = .ok (.aload_n 0, 1) := by decide +kernel
theorem dX10_group_56 : decode cX10_group 56 = .ok (.getfield 47, 3) := by decide +kernel
theorem dX10_group_59 : decode cX10_group 59 = .ok (.getfield 324, 3) := by decide +kernel
theorem dX10_group_62 : decode cX10_group 62 = .ok (.iload_n 1, 1) := by decide +kernel
theorem dX10_group_63 : decode cX10_group 63 = .ok (.iaload, 1) := by decide +kernel
theorem dX10_group_64 : decode cX10_group 64 = .ok (.istore 5, 2) := by decide +kernel
theorem dX10_group_66 : decode cX10_group 66 = .ok (.aload_n 0, 1) := by decide +kernel
theorem dX10_group_67 : decode cX10_group 67 = .ok (.getfield 47, 3) := by decide +kernel
theorem dX10_group_70 : decode cX10_group 70 = .ok (.getfield 324, 3) := by decide +kernel
theorem dX10_group_73 : decode cX10_group 73 = .ok (.iload_n 1, 1) := by decide +kernel
theorem dX10_group_74 : decode cX10_group 74 = .ok (.iload_n 2, 1) := by decide +kernel
theorem dX10_group_75 : decode cX10_group 75 = .ok (.iastore, 1) := by decide +kernel
theorem dX10_group_76 : decode cX10_group 76 = .ok (.aload_n 0, 1) := by decide +kernel
theorem dX10_group_77 : decode cX10_group 77 = .ok (.getfield 47, 3) := by decide +kernel
theorem dX10_group_80 : decode cX10_group 80 = .ok (.getfield 327, 3) := by decide +kernel
theorem dX10_group_83 : decode cX10_group 83 = .ok (.iload_n 1, 1) := by decide +kernel
theorem dX10_group_84 : decode cX10_group 84 = .ok (.iload_n 3, 1) := by decide +kernel
theorem dX10_group_85 : decode cX10_group 85 = .ok (.iastore, 1) := by decide +kernel
theorem dX10_group_86 : decode cX10_group 86 = .ok (.aload_n 0, 1) := by decide +kernel
theorem dX10_group_87 : decode cX10_group 87 = .ok (.getfield 47, 3) := by decide +kernel
theorem dX10_group_90 : decode cX10_group 90 = .ok (.getfield 330, 3) := by decide +kernel
theorem dX10_group_93 : decode cX10_group 93 = .ok (.iload_n 1, 1) := by decide +kernel
theorem dX10_group_94 : decode cX10_group 94 = .ok (.iload 4, 2) := by decide +kernel
theorem dX10_group_96 : decode cX10_group 96 = .ok (.iastore, 1) := by decide +kernel
theorem dX10_group_97 : decode cX10_group 97 = .ok (.iload 5, 2) := by decide +kernel
theorem dX10_group_99 : decode cX10_group 99 = .ok (.ireturn, 1) := by decide +kernel
theorem dX10_score_0 : decode cX10_score 0 = .ok (.aload_n 0, 1) := by decide +kernel
theorem dX10_score_1 : decode cX10_score 1 = .ok (.iload_n 1, 1) := by decide +kernel
theorem dX10_score_2 : decode cX10_score 2 = .ok (.invokevirtual 317, 3) := by decide +kernel
theorem dX10_score_5 : decode cX10_score 5 = .ok (.aload_n 0, 1) := by decide +kernel
theorem dX10_score_6 : decode cX10_score 6 = .ok (.iload_n 2, 1) := by decide +kernel
theorem dX10_score_7 : decode cX10_score 7 = .ok (.invokevirtual 176, 3) := by decide +kernel
theorem dX10_score_10 : decode cX10_score 10 = .ok (.aload_n 0, 1) := by decide +kernel
theorem dX10_score_11 : decode cX10_score 11 = .ok (.iload_n 1, 1) := by decide +kernel
theorem dX10_score_12 : decode cX10_score 12 = .ok (.aload_n 0, 1) := by decide +kernel
theorem dX10_score_13 : decode cX10_score 13 = .ok (.getfield 29, 3) := by decide +kernel
theorem dX10_score_16 : decode cX10_score 16 = .ok (.iload_n 2, 1) := by decide +kernel
theorem dX10_score_17 : decode cX10_score 17 = .ok (.aaload, 1) := by decide +kernel
theorem dX10_score_18 : decode cX10_score 18 = .ok (.invokevirtual 332, 3) := by decide +kernel
theorem dX10_score_21 : decode cX10_score 21 = .ok (.ireturn, 1) := by decide +kernel
theorem dX10_votes_0 : decode cX10_votes 0 = .ok (.aload_n 0, 1) := by decide +kernel
theorem dX10_votes_1 : decode cX10_votes 1 = .ok (.iload_n 1, 1) := by decide +kernel
theorem dX10_votes_2 : decode cX10_votes 2 = .ok (.invokevirtual 176, 3) := by decide +kernel
theorem dX10_votes_5 : decode cX10_votes 5 = .ok (.aload_n 0, 1) := by decide +kernel
theorem dX10_votes_6 : decode cX10_votes 6 = .ok (.invokevirtual 336, 3) := by decide +kernel
theorem dX10_votes_9 : decode cX10_votes 9 = .ok (.aload_n 0, 1) := by decide +kernel
theorem dX10_votes_10 : decode cX10_votes 10 = .ok (.getfield 47, 3) := by decide +kernel
theorem dX10_votes_13 : decode cX10_votes 13 = .ok (.invokevirtual 339, 3) := by decide +kernel
theorem dX10_votes_16 : decode cX10_votes 16 = .ok (.aload_n 0, 1) := by decide +kernel
theorem dX10_votes_17 : decode cX10_votes 17 = .ok (.getfield 47, 3) := by decide +kernel
theorem dX10_votes_20 : decode cX10_votes 20 = .ok (.getfield 342, 3) := by decide +kernel
theorem dX10_votes_23 : decode cX10_votes 23 = .ok (.iload_n 1, 1) := by decide +kernel
theorem dX10_votes_24 : decode cX10_votes 24 = .ok (.iaload, 1) := by decide +kernel
theorem dX10_votes_25 : decode cX10_votes 25 = .ok (.ireturn, 1) := by decide +kernel
theorem dX10_elected_0 : decode cX10_elected 0 = .ok (.aload_n 0, 1) := by decide +kernel
theorem dX10_elected_1 : decode cX10_elected 1 = .ok (.getfield 33, 3) := by decide +kernel
theorem dX10_elected_4 : decode cX10_elected 4 = .ok (.ifCond .ne 14, 3) := by decide +kernel
theorem dX10_elected_7 : decode cX10_elected 7 = .ok (.new 99, 3) := by decide +kernel
theorem dX10_elected_10 : decode cX10_elected 10 = .ok (.dup, 1) := by decide +kernel
theorem dX10_elected_11 : decode cX10_elected 11 = .ok (.ldc_w 345, 3) := by decide +kernel
theorem dX10_elected_14 : decode cX10_elected 14 = .ok (.invokespecial 103, 3) := by decide +kernel
theorem dX10_elected_17 : decode cX10_elected 17 = .ok (.athrow, 1) := by decide +kernel
theorem dX10_elected_18 : decode cX10_elected 18 = .ok (.aload_n 0, 1) := by decide +kernel
theorem dX10_elected_19 : decode cX10_elected 19 = .ok (.getfield 47, 3) := by decide +kernel
theorem dX10_elected_22 : decode cX10_elected 22 = .ok (.invokevirtual 347, 3) := by decide +kernel
theorem dX10_elected_25 : decode cX10_elected 25 = .ok (.ifCond .ne 5, 3) := by decide +kernel
theorem dX10_elected_28 : decode cX10_elected 28 = .ok (.iconst (-1), 1) := by decide +kernel
theorem dX10_elected_29 : decode cX10_elected 29 = .ok (.ireturn, 1) := by decide +kernel
theorem dX10_elected_30 : decode cX10_elected 30 = .ok (.aload_n 0, 1) := by decide +kernel
theorem dX10_elected_31 : decode cX10_elected 31 = .ok (.invokevirtual 336, 3) := by decide +kernel
theorem dX10_elected_34 : decode cX10_elected 34 = .ok (.aload_n 0, 1) := by decide +kernel
theorem dX10_elected_35 : decode cX10_elected 35 = .ok (.getfield 47, 3) := by decide +kernel
theorem dX10_elected_38 : decode cX10_elected 38 = .ok (.invokevirtual 350, 3) := by decide +kernel
theorem dX10_elected_41 : decode cX10_elected 41 = .ok (.ireturn, 1) := by decide +kernel
theorem dX10_reform_0 : decode cX10_reform 0 = .ok (.aload_n 0, 1) := by decide +kernel
theorem dX10_reform_1 : decode cX10_reform 1 = .ok (.iload_n 1, 1) := by decide +kernel
theorem dX10_reform_2 : decode cX10_reform 2 = .ok (.invokevirtual 176, 3) := by decide +kernel
theorem dX10_reform_5 : decode cX10_reform 5 = .ok (.aload_n 0, 1) := by decide +kernel
theorem dX10_reform_6 : decode cX10_reform 6 = .ok (.iload_n 2, 1) := by decide +kernel
theorem dX10_reform_7 : decode cX10_reform 7 = .ok (.invokevirtual 176, 3) := by decide +kernel
theorem dX10_reform_10 : decode cX10_reform 10 = .ok (.aload_n 0, 1) := by decide +kernel
theorem dX10_reform_11 : decode cX10_reform 11 = .ok (.iload_n 1, 1) := by decide +kernel
theorem dX10_reform_12 : decode cX10_reform 12 = .ok (.iload_n 2, 1) := by decide +kernel
theorem dX10_reform_13 : decode cX10_reform 13 = .ok (.invokevirtual 353, 3) := by decide +kernel
theorem dX10_reform_16 : decode cX10_reform 16 = .ok (.iconst 0, 1) := by decide +kernel
theorem dX10_reform_17 : decode cX10_reform 17 = .ok (.istore_n 3, 1) := by decide +kernel
theorem dX10_reform_18 : decode cX10_reform 18 = .ok (.iconst 0, 1) := by decide +kernel
theorem dX10_reform_19 : decode cX10_reform 19 = .ok (.istore 4, 2) := by decide +kernel
theorem dX10_reform_21 : decode cX10_reform 21 = .ok (.iload 4, 2) := by decide +kernel
theorem dX10_reform_23 : decode cX10_reform 23 = .ok (.aload_n 0, 1) := by decide +kernel
theorem dX10_reform_24 : decode cX10_reform 24 = .ok (.getfield 12, 3) := by decide +kernel
theorem dX10_reform_27 : decode cX10_reform 27 = .ok (.getfield 112, 3) := by decide +kernel
theorem dX10_reform_30 : decode cX10_reform 30 = .ok (.if_icmp .ge 74, 3) := by decide +kernel
theorem dX10_reform_33 : decode cX10_reform 33 = .ok (.aload_n 0, 1) := by decide +kernel
theorem dX10_reform_34 : decode cX10_reform 34 = .ok (.getfield 64, 3) := by decide +kernel
theorem dX10_reform_37 : decode cX10_reform 37 = .ok (.aload_n 0, 1) := by decide +kernel
theorem dX10_reform_38 : decode cX10_reform 38 = .ok (.getfield 54, 3) := by decide +kernel
theorem dX10_reform_41 : decode cX10_reform 41 = .ok (.getfield 208, 3) := by decide +kernel
theorem dX10_reform_44 : decode cX10_reform 44 = .ok (.iload 4, 2) := by decide +kernel
theorem dX10_reform_46 : decode cX10_reform 46 = .ok (.aaload, 1) := by decide +kernel
theorem dX10_reform_47 : decode cX10_reform 47 = .ok (.aload_n 0, 1) := by decide +kernel
theorem dX10_reform_48 : decode cX10_reform 48 = .ok (.getfield 54, 3) := by decide +kernel
theorem dX10_reform_51 : decode cX10_reform 51 = .ok (.getfield 207, 3) := by decide +kernel
theorem dX10_reform_54 : decode cX10_reform 54 = .ok (.iload 4, 2) := by decide +kernel
theorem dX10_reform_56 : decode cX10_reform 56 = .ok (.iaload, 1) := by decide +kernel
theorem dX10_reform_57 : decode cX10_reform 57 = .ok (.aload_n 0, 1) := by decide +kernel
theorem dX10_reform_58 : decode cX10_reform 58 = .ok (.getfield 58, 3) := by decide +kernel
theorem dX10_reform_61 : decode cX10_reform 61 = .ok (.getfield 208, 3) := by decide +kernel
theorem dX10_reform_64 : decode cX10_reform 64 = .ok (.iload 4, 2) := by decide +kernel
theorem dX10_reform_66 : decode cX10_reform 66 = .ok (.aaload, 1) := by decide +kernel
theorem dX10_reform_67 : decode cX10_reform 67 = .ok (.aload_n 0, 1) := by decide +kernel
theorem dX10_reform_68 : decode cX10_reform 68 = .ok (.getfield 58, 3) := by decide +kernel
theorem dX10_reform_71 : decode cX10_reform 71 = .ok (.getfield 207, 3) := by decide +kernel
theorem dX10_reform_74 : decode cX10_reform 74 = .ok (.iload 4, 2) := by decide +kernel
theorem dX10_reform_76 : decode cX10_reform 76 = .ok (.iaload, 1) := by decide +kernel
theorem dX10_reform_77 : decode cX10_reform 77 = .ok (.invokevirtual 356, 3) := by decide +kernel
theorem dX10_reform_80 : decode cX10_reform 80 = .ok (.istore 5, 2) := by decide +kernel
theorem dX10_reform_82 : decode cX10_reform 82 = .ok (.iload_n 3, 1) := by decide +kernel
theorem dX10_reform_83 : decode cX10_reform 83 = .ok (.aload_n 0, 1) := by decide +kernel
theorem dX10_reform_84 : decode cX10_reform 84 = .ok (.getfield 12, 3) := by decide +kernel
theorem dX10_reform_87 : decode cX10_reform 87 = .ok (.getfield 212, 3) := by decide +kernel
theorem dX10_reform_90 : decode cX10_reform 90 = .ok (.iload 4, 2) := by decide +kernel
theorem dX10_reform_92 : decode cX10_reform 92 = .ok (.iaload, 1) := by decide +kernel
theorem dX10_reform_93 : decode cX10_reform 93 = .ok (.iload 5, 2) := by decide +kernel
theorem dX10_reform_95 : decode cX10_reform 95 = .ok (.imul, 1) := by decide +kernel
theorem dX10_reform_96 : decode cX10_reform 96 = .ok (.iadd, 1) := by decide +kernel
theorem dX10_reform_97 : decode cX10_reform 97 = .ok (.istore_n 3, 1) := by decide +kernel
theorem dX10_reform_98 : decode cX10_reform 98 = .ok (.iinc 4 1, 3) := by decide +kernel
theorem dX10_reform_101 : decode cX10_reform 101 = .ok (.goto (-80), 3) := by decide +kernel
theorem dX10_reform_104 : decode cX10_reform 104 = .ok (.iload_n 3, 1) := by decide +kernel
theorem dX10_reform_105 : decode cX10_reform 105 = .ok (.ireturn, 1) := by decide +kernel
theorem dX10_lost_0 : decode cX10_lost 0 = .ok (.aload_n 0, 1) := by decide +kernel
theorem dX10_lost_1 : decode cX10_lost 1 = .ok (.iload_n 1, 1) := by decide +kernel
theorem dX10_lost_2 : decode cX10_lost 2 = .ok (.invokevirtual 176, 3) := by decide +kernel
theorem dX10_lost_5 : decode cX10_lost 5 = .ok (.aload_n 0, 1) := by decide +kernel
theorem dX10_lost_6 : decode cX10_lost 6 = .ok (.iload_n 2, 1) := by decide +kernel
theorem dX10_lost_7 : decode cX10_lost 7 = .ok (.invokevirtual 176, 3) := by decide +kernel
theorem dX10_lost_10 : decode cX10_lost 10 = .ok (.aload_n 0, 1) := by decide +kernel
theorem dX10_lost_11 : decode cX10_lost 11 = .ok (.iload_n 1, 1) := by decide +kernel
theorem dX10_lost_12 : decode cX10_lost 12 = .ok (.iload_n 2, 1) := by decide +kernel
theorem dX10_lost_13 : decode cX10_lost 13 = .ok (.invokevirtual 353, 3) := by decide +kernel
theorem dX10_lost_16 : decode cX10_lost 16 = .ok (.iconst 0, 1) := by decide +kernel
theorem dX10_lost_17 : decode cX10_lost 17 = .ok (.istore_n 3, 1) := by decide +kernel
theorem dX10_lost_18 : decode cX10_lost 18 = .ok (.iconst 0, 1) := by decide +kernel
theorem dX10_lost_19 : decode cX10_lost 19 = .ok (.istore 4, 2) := by decide +kernel
theorem dX10_lost_21 : decode cX10_lost 21 = .ok (.iload 4, 2) := by decide +kernel
theorem dX10_lost_23 : decode cX10_lost 23 = .ok (.aload_n 0, 1) := by decide +kernel
theorem dX10_lost_24 : decode cX10_lost 24 = .ok (.getfield 12, 3) := by decide +kernel
theorem dX10_lost_27 : decode cX10_lost 27 = .ok (.getfield 112, 3) := by decide +kernel
theorem dX10_lost_30 : decode cX10_lost 30 = .ok (.if_icmp .ge 31, 3) := by decide +kernel
theorem dX10_lost_33 : decode cX10_lost 33 = .ok (.aload_n 0, 1) := by decide +kernel
theorem dX10_lost_34 : decode cX10_lost 34 = .ok (.iload 4, 2) := by decide +kernel
theorem dX10_lost_36 : decode cX10_lost 36 = .ok (.invokevirtual 359, 3) := by decide +kernel
theorem dX10_lost_39 : decode cX10_lost 39 = .ok (.ifCond .eq 16, 3) := by decide +kernel
theorem dX10_lost_42 : decode cX10_lost 42 = .ok (.iload_n 3, 1) := by decide +kernel
theorem dX10_lost_43 : decode cX10_lost 43 = .ok (.aload_n 0, 1) := by decide +kernel
theorem dX10_lost_44 : decode cX10_lost 44 = .ok (.getfield 12, 3) := by decide +kernel
theorem dX10_lost_47 : decode cX10_lost 47 = .ok (.getfield 212, 3) := by decide +kernel
theorem dX10_lost_50 : decode cX10_lost 50 = .ok (.iload 4, 2) := by decide +kernel
theorem dX10_lost_52 : decode cX10_lost 52 = .ok (.iaload, 1) := by decide +kernel
theorem dX10_lost_53 : decode cX10_lost 53 = .ok (.iadd, 1) := by decide +kernel
theorem dX10_lost_54 : decode cX10_lost 54 = .ok (.istore_n 3, 1) := by decide +kernel
theorem dX10_lost_55 : decode cX10_lost 55 = .ok (.iinc 4 1, 3) := by decide +kernel
theorem dX10_lost_58 : decode cX10_lost 58 = .ok (.goto (-37), 3) := by decide +kernel
theorem dX10_lost_61 : decode cX10_lost 61 = .ok (.iload_n 3, 1) := by decide +kernel
theorem dX10_lost_62 : decode cX10_lost 62 = .ok (.ireturn, 1) := by decide +kernel
theorem dX10_requireDialect_0 : decode cX10_requireDialect 0 = .ok (.iload_n 1, 1) := by decide +kernel
theorem dX10_requireDialect_1 : decode cX10_requireDialect 1 = .ok (.ifCond .lt 8, 3) := by decide +kernel
theorem dX10_requireDialect_4 : decode cX10_requireDialect 4 = .ok (.iload_n 1, 1) := by decide +kernel
theorem dX10_requireDialect_5 : decode cX10_requireDialect 5 = .ok (.iconst 3, 1) := by decide +kernel
theorem dX10_requireDialect_6 : decode cX10_requireDialect 6 = .ok (.if_icmp .lt 14, 3) := by decide +kernel
theorem dX10_requireDialect_9 : decode cX10_requireDialect 9 = .ok (.new 132, 3) := by decide +kernel
theorem dX10_requireDialect_12 : decode cX10_requireDialect 12 = .ok (.dup, 1) := by decide +kernel
theorem dX10_requireDialect_13 : decode cX10_requireDialect 13 = .ok (.ldc_w 362, 3) := by decide +kernel
theorem dX10_requireDialect_16 : decode cX10_requireDialect 16 = .ok (.invokespecial 136, 3) := by decide +kernel
theorem dX10_requireDialect_19 : decode cX10_requireDialect 19 = .ok (.athrow, 1) := by decide +kernel
theorem dX10_requireDialect_20 : decode cX10_requireDialect 20 = .ok (.return_, 1) := by decide +kernel
theorem dX10_requireWord_0 : decode cX10_requireWord 0 = .ok (.iload_n 1, 1) := by decide +kernel
theorem dX10_requireWord_1 : decode cX10_requireWord 1 = .ok (.ifCond .lt 14, 3) := by decide +kernel
theorem dX10_requireWord_4 : decode cX10_requireWord 4 = .ok (.iload_n 1, 1) := by decide +kernel
theorem dX10_requireWord_5 : decode cX10_requireWord 5 = .ok (.aload_n 0, 1) := by decide +kernel
theorem dX10_requireWord_6 : decode cX10_requireWord 6 = .ok (.getfield 12, 3) := by decide +kernel
theorem dX10_requireWord_9 : decode cX10_requireWord 9 = .ok (.getfield 112, 3) := by decide +kernel
theorem dX10_requireWord_12 : decode cX10_requireWord 12 = .ok (.if_icmp .lt 14, 3) := by decide +kernel
theorem dX10_requireWord_15 : decode cX10_requireWord 15 = .ok (.new 132, 3) := by decide +kernel
theorem dX10_requireWord_18 : decode cX10_requireWord 18 = .ok (.dup, 1) := by decide +kernel
theorem dX10_requireWord_19 : decode cX10_requireWord 19 = .ok (.ldc_w 364, 3) := by decide +kernel
theorem dX10_requireWord_22 : decode cX10_requireWord 22 = .ok (.invokespecial 136, 3) := by decide +kernel
theorem dX10_requireWord_25 : decode cX10_requireWord 25 = .ok (.athrow, 1) := by decide +kernel
theorem dX10_requireWord_26 : decode cX10_requireWord 26 = .ok (.return_, 1) := by decide +kernel
theorem dX10_requirePlace_0 : decode cX10_requirePlace 0 = .ok (.iload_n 1, 1) := by decide +kernel
theorem dX10_requirePlace_1 : decode cX10_requirePlace 1 = .ok (.ifCond .ge 14, 3) := by decide +kernel
theorem dX10_requirePlace_4 : decode cX10_requirePlace 4 = .ok (.new 132, 3) := by decide +kernel
theorem dX10_requirePlace_7 : decode cX10_requirePlace 7 = .ok (.dup, 1) := by decide +kernel
theorem dX10_requirePlace_8 : decode cX10_requirePlace 8 = .ok (.ldc_w 366, 3) := by decide +kernel
theorem dX10_requirePlace_11 : decode cX10_requirePlace 11 = .ok (.invokespecial 136, 3) := by decide +kernel
theorem dX10_requirePlace_14 : decode cX10_requirePlace 14 = .ok (.athrow, 1) := by decide +kernel
theorem dX10_requirePlace_15 : decode cX10_requirePlace 15 = .ok (.return_, 1) := by decide +kernel
theorem dX10_requireDesign_0 : decode cX10_requireDesign 0 = .ok (.iload_n 1, 1) := by decide +kernel
theorem dX10_requireDesign_1 : decode cX10_requireDesign 1 = .ok (.ifCond .lt 11, 3) := by decide +kernel
theorem dX10_requireDesign_4 : decode cX10_requireDesign 4 = .ok (.iload_n 1, 1) := by decide +kernel
theorem dX10_requireDesign_5 : decode cX10_requireDesign 5 = .ok (.aload_n 0, 1) := by decide +kernel
theorem dX10_requireDesign_6 : decode cX10_requireDesign 6 = .ok (.getfield 33, 3) := by decide +kernel
theorem dX10_requireDesign_9 : decode cX10_requireDesign 9 = .ok (.if_icmp .lt 14, 3) := by decide +kernel
theorem dX10_requireDesign_12 : decode cX10_requireDesign 12 = .ok (.new 132, 3) := by decide +kernel
theorem dX10_requireDesign_15 : decode cX10_requireDesign 15 = .ok (.dup, 1) := by decide +kernel
theorem dX10_requireDesign_16 : decode cX10_requireDesign 16 = .ok (.ldc_w 368, 3) := by decide +kernel
theorem dX10_requireDesign_19 : decode cX10_requireDesign 19 = .ok (.invokespecial 136, 3) := by decide +kernel
theorem dX10_requireDesign_22 : decode cX10_requireDesign 22 = .ok (.athrow, 1) := by decide +kernel
theorem dX10_requireDesign_23 : decode cX10_requireDesign 23 = .ok (.return_, 1) := by decide +kernel
theorem dX10_requireTone_0 : decode cX10_requireTone 0 = .ok (.iload_n 1, 1) := by decide +kernel
theorem dX10_requireTone_1 : decode cX10_requireTone 1 = .ok (.ifCond .lt 8, 3) := by decide +kernel
theorem dX10_requireTone_4 : decode cX10_requireTone 4 = .ok (.iload_n 1, 1) := by decide +kernel
theorem dX10_requireTone_5 : decode cX10_requireTone 5 = .ok (.iconst 3, 1) := by decide +kernel
theorem dX10_requireTone_6 : decode cX10_requireTone 6 = .ok (.if_icmp .lt 14, 3) := by decide +kernel
theorem dX10_requireTone_9 : decode cX10_requireTone 9 = .ok (.new 132, 3) := by decide +kernel
theorem dX10_requireTone_12 : decode cX10_requireTone 12 = .ok (.dup, 1) := by decide +kernel
theorem dX10_requireTone_13 : decode cX10_requireTone 13 = .ok (.ldc_w 370, 3) := by decide +kernel
theorem dX10_requireTone_16 : decode cX10_requireTone 16 = .ok (.invokespecial 136, 3) := by decide +kernel
theorem dX10_requireTone_19 : decode cX10_requireTone 19 = .ok (.athrow, 1) := by decide +kernel
theorem dX10_requireTone_20 : decode cX10_requireTone 20 = .ok (.return_, 1) := by decide +kernel
theorem dX10_requireSign_0 : decode cX10_requireSign 0 = .ok (.iload_n 1, 1) := by decide +kernel
theorem dX10_requireSign_1 : decode cX10_requireSign 1 = .ok (.ifCond .lt 9, 3) := by decide +kernel
theorem dX10_requireSign_4 : decode cX10_requireSign 4 = .ok (.iload_n 1, 1) := by decide +kernel
theorem dX10_requireSign_5 : decode cX10_requireSign 5 = .ok (.bipush 50, 2) := by decide +kernel
theorem dX10_requireSign_7 : decode cX10_requireSign 7 = .ok (.if_icmp .lt 14, 3) := by decide +kernel
theorem dX10_requireSign_10 : decode cX10_requireSign 10 = .ok (.new 132, 3) := by decide +kernel
theorem dX10_requireSign_13 : decode cX10_requireSign 13 = .ok (.dup, 1) := by decide +kernel
theorem dX10_requireSign_14 : decode cX10_requireSign 14 = .ok (.ldc_w 372, 3) := by decide +kernel
theorem dX10_requireSign_17 : decode cX10_requireSign 17 = .ok (.invokespecial 136, 3) := by decide +kernel
theorem dX10_requireSign_20 : decode cX10_requireSign 20 = .ok (.athrow, 1) := by decide +kernel
theorem dX10_requireSign_21 : decode cX10_requireSign 21 = .ok (.return_, 1) := by decide +kernel
theorem dX10_requireGroup_0 : decode cX10_requireGroup 0 = .ok (.iload_n 1, 1) := by decide +kernel
theorem dX10_requireGroup_1 : decode cX10_requireGroup 1 = .ok (.ifCond .lt 8, 3) := by decide +kernel
theorem dX10_requireGroup_4 : decode cX10_requireGroup 4 = .ok (.iload_n 1, 1) := by decide +kernel
theorem dX10_requireGroup_5 : decode cX10_requireGroup 5 = .ok (.iconst 4, 1) := by decide +kernel
theorem dX10_requireGroup_6 : decode cX10_requireGroup 6 = .ok (.if_icmp .lt 14, 3) := by decide +kernel
theorem dX10_requireGroup_9 : decode cX10_requireGroup 9 = .ok (.new 132, 3) := by decide +kernel
theorem dX10_requireGroup_12 : decode cX10_requireGroup 12 = .ok (.dup, 1) := by decide +kernel
theorem dX10_requireGroup_13 : decode cX10_requireGroup 13 = .ok (.ldc_w 374, 3) := by decide +kernel
theorem dX10_requireGroup_16 : decode cX10_requireGroup 16 = .ok (.invokespecial 136, 3) := by decide +kernel
theorem dX10_requireGroup_19 : decode cX10_requireGroup 19 = .ok (.athrow, 1) := by decide +kernel
theorem dX10_requireGroup_20 : decode cX10_requireGroup 20 = .ok (.return_, 1) := by decide +kernel
theorem dX10_speaker_0 : decode cX10_speaker 0 = .ok (.iload_n 1, 1) := by decide +kernel
theorem dX10_speaker_1 : decode cX10_speaker 1 = .ok (.iconst (-1), 1) := by decide +kernel
theorem dX10_speaker_2 : decode cX10_speaker 2 = .ok (.if_icmp .ne 10, 3) := by decide +kernel
theorem dX10_speaker_5 : decode cX10_speaker 5 = .ok (.aload_n 0, 1) := by decide +kernel
theorem dX10_speaker_6 : decode cX10_speaker 6 = .ok (.getfield 19, 3) := by decide +kernel
theorem dX10_speaker_9 : decode cX10_speaker 9 = .ok (.goto 9, 3) := by decide +kernel
theorem dX10_speaker_12 : decode cX10_speaker 12 = .ok (.aload_n 0, 1) := by decide +kernel
theorem dX10_speaker_13 : decode cX10_speaker 13 = .ok (.getfield 23, 3) := by decide +kernel
theorem dX10_speaker_16 : decode cX10_speaker 16 = .ok (.iload_n 1, 1) := by decide +kernel
theorem dX10_speaker_17 : decode cX10_speaker 17 = .ok (.aaload, 1) := by decide +kernel
theorem dX10_speaker_18 : decode cX10_speaker 18 = .ok (.areturn, 1) := by decide +kernel
theorem dX10_spellAll_0 : decode cX10_spellAll 0 = .ok (.aload_n 0, 1) := by decide +kernel
theorem dX10_spellAll_1 : decode cX10_spellAll 1 = .ok (.getfield 54, 3) := by decide +kernel
theorem dX10_spellAll_4 : decode cX10_spellAll 4 = .ok (.aload_n 1, 1) := by decide +kernel
theorem dX10_spellAll_5 : decode cX10_spellAll 5 = .ok (.aload_n 0, 1) := by decide +kernel
theorem dX10_spellAll_6 : decode cX10_spellAll 6 = .ok (.aload_n 1, 1) := by decide +kernel
theorem dX10_spellAll_7 : decode cX10_spellAll 7 = .ok (.getfield 376, 3) := by decide +kernel
theorem dX10_spellAll_10 : decode cX10_spellAll 10 = .ok (.invokevirtual 156, 3) := by decide +kernel
theorem dX10_spellAll_13 : decode cX10_spellAll 13 = .ok (.invokevirtual 379, 3) := by decide +kernel
theorem dX10_spellAll_16 : decode cX10_spellAll 16 = .ok (.return_, 1) := by decide +kernel
theorem dX10_spellBoth_0 : decode cX10_spellBoth 0 = .ok (.aload_n 0, 1) := by decide +kernel
theorem dX10_spellBoth_1 : decode cX10_spellBoth 1 = .ok (.aload_n 0, 1) := by decide +kernel
theorem dX10_spellBoth_2 : decode cX10_spellBoth 2 = .ok (.getfield 29, 3) := by decide +kernel
theorem dX10_spellBoth_5 : decode cX10_spellBoth 5 = .ok (.iload_n 1, 1) := by decide +kernel
theorem dX10_spellBoth_6 : decode cX10_spellBoth 6 = .ok (.aaload, 1) := by decide +kernel
theorem dX10_spellBoth_7 : decode cX10_spellBoth 7 = .ok (.invokevirtual 203, 3) := by decide +kernel
theorem dX10_spellBoth_10 : decode cX10_spellBoth 10 = .ok (.aload_n 0, 1) := by decide +kernel
theorem dX10_spellBoth_11 : decode cX10_spellBoth 11 = .ok (.getfield 58, 3) := by decide +kernel
theorem dX10_spellBoth_14 : decode cX10_spellBoth 14 = .ok (.aload_n 0, 1) := by decide +kernel
theorem dX10_spellBoth_15 : decode cX10_spellBoth 15 = .ok (.getfield 29, 3) := by decide +kernel
theorem dX10_spellBoth_18 : decode cX10_spellBoth 18 = .ok (.iload_n 2, 1) := by decide +kernel
theorem dX10_spellBoth_19 : decode cX10_spellBoth 19 = .ok (.aaload, 1) := by decide +kernel
theorem dX10_spellBoth_20 : decode cX10_spellBoth 20 = .ok (.aload_n 0, 1) := by decide +kernel
theorem dX10_spellBoth_21 : decode cX10_spellBoth 21 = .ok (.aload_n 0, 1) := by decide +kernel
theorem dX10_spellBoth_22 : decode cX10_spellBoth 22 = .ok (.getfield 29, 3) := by decide +kernel
theorem dX10_spellBoth_25 : decode cX10_spellBoth 25 = .ok (.iload_n 2, 1) := by decide +kernel
theorem dX10_spellBoth_26 : decode cX10_spellBoth 26 = .ok (.aaload, 1) := by decide +kernel
theorem dX10_spellBoth_27 : decode cX10_spellBoth 27 = .ok (.getfield 376, 3) := by decide +kernel
theorem dX10_spellBoth_30 : decode cX10_spellBoth 30 = .ok (.invokevirtual 156, 3) := by decide +kernel
theorem dX10_spellBoth_33 : decode cX10_spellBoth 33 = .ok (.invokevirtual 379, 3) := by decide +kernel
theorem dX10_spellBoth_36 : decode cX10_spellBoth 36 = .ok (.return_, 1) := by decide +kernel
theorem dX10_fitOfSpelled_0 : decode cX10_fitOfSpelled 0 = .ok (.aload_n 0, 1) := by decide +kernel
theorem dX10_fitOfSpelled_1 : decode cX10_fitOfSpelled 1 = .ok (.getfield 58, 3) := by decide +kernel
theorem dX10_fitOfSpelled_4 : decode cX10_fitOfSpelled 4 = .ok (.aload_n 1, 1) := by decide +kernel
theorem dX10_fitOfSpelled_5 : decode cX10_fitOfSpelled 5 = .ok (.aload_n 0, 1) := by decide +kernel
theorem dX10_fitOfSpelled_6 : decode cX10_fitOfSpelled 6 = .ok (.iload_n 2, 1) := by decide +kernel
theorem dX10_fitOfSpelled_7 : decode cX10_fitOfSpelled 7 = .ok (.invokevirtual 156, 3) := by decide +kernel
theorem dX10_fitOfSpelled_10 : decode cX10_fitOfSpelled 10 = .ok (.invokevirtual 379, 3) := by decide +kernel
theorem dX10_fitOfSpelled_13 : decode cX10_fitOfSpelled 13 = .ok (.iconst 0, 1) := by decide +kernel
theorem dX10_fitOfSpelled_14 : decode cX10_fitOfSpelled 14 = .ok (.istore_n 3, 1) := by decide +kernel
theorem dX10_fitOfSpelled_15 : decode cX10_fitOfSpelled 15 = .ok (.iconst 0, 1) := by decide +kernel
theorem dX10_fitOfSpelled_16 : decode cX10_fitOfSpelled 16 = .ok (.istore 4, 2) := by decide +kernel
theorem dX10_fitOfSpelled_18 : decode cX10_fitOfSpelled 18 = .ok (.iload 4, 2) := by decide +kernel
theorem dX10_fitOfSpelled_20 : decode cX10_fitOfSpelled 20 = .ok (.aload_n 0, 1) := by decide +kernel
theorem dX10_fitOfSpelled_21 : decode cX10_fitOfSpelled 21 = .ok (.getfield 12, 3) := by decide +kernel
theorem dX10_fitOfSpelled_24 : decode cX10_fitOfSpelled 24 = .ok (.getfield 112, 3) := by decide +kernel
theorem dX10_fitOfSpelled_27 : decode cX10_fitOfSpelled 27 = .ok (.if_icmp .ge 38, 3) := by decide +kernel
theorem dX10_fitOfSpelled_30 : decode cX10_fitOfSpelled 30 = .ok (.aload_n 0, 1) := by decide +kernel
theorem dX10_fitOfSpelled_31 : decode cX10_fitOfSpelled 31 = .ok (.getfield 54, 3) := by decide +kernel
theorem dX10_fitOfSpelled_34 : decode cX10_fitOfSpelled 34 = .ok (.aload_n 0, 1) := by decide +kernel
theorem dX10_fitOfSpelled_35 : decode cX10_fitOfSpelled 35 = .ok (.getfield 58, 3) := by decide +kernel
theorem dX10_fitOfSpelled_38 : decode cX10_fitOfSpelled 38 = .ok (.iload 4, 2) := by decide +kernel
theorem dX10_fitOfSpelled_40 : decode cX10_fitOfSpelled 40 = .ok (.invokevirtual 382, 3) := by decide +kernel
theorem dX10_fitOfSpelled_43 : decode cX10_fitOfSpelled 43 = .ok (.ifCond .eq 16, 3) := by decide +kernel
theorem dX10_fitOfSpelled_46 : decode cX10_fitOfSpelled 46 = .ok (.iload_n 3, 1) := by decide +kernel
theorem dX10_fitOfSpelled_47 : decode cX10_fitOfSpelled 47 = .ok (.aload_n 0, 1) := by decide +kernel
theorem dX10_fitOfSpelled_48 : decode cX10_fitOfSpelled 48 = .ok (.getfield 12, 3) := by decide +kernel
theorem dX10_fitOfSpelled_51 : decode cX10_fitOfSpelled 51 = .ok (.getfield 212, 3) := by decide +kernel
theorem dX10_fitOfSpelled_54 : decode cX10_fitOfSpelled 54 = .ok (.iload 4, 2) := by decide +kernel
theorem dX10_fitOfSpelled_56 : decode cX10_fitOfSpelled 56 = .ok (.iaload, 1) := by decide +kernel
theorem dX10_fitOfSpelled_57 : decode cX10_fitOfSpelled 57 = .ok (.iadd, 1) := by decide +kernel
theorem dX10_fitOfSpelled_58 : decode cX10_fitOfSpelled 58 = .ok (.istore_n 3, 1) := by decide +kernel
theorem dX10_fitOfSpelled_59 : decode cX10_fitOfSpelled 59 = .ok (.iinc 4 1, 3) := by decide +kernel
theorem dX10_fitOfSpelled_62 : decode cX10_fitOfSpelled 62 = .ok (.goto (-44), 3) := by decide +kernel
theorem dX10_fitOfSpelled_65 : decode cX10_fitOfSpelled 65 = .ok (.iload_n 3, 1) := by decide +kernel
theorem dX10_fitOfSpelled_66 : decode cX10_fitOfSpelled 66 = .ok (.ireturn, 1) := by decide +kernel
theorem dX10_prepareQuickPrimer_0 : decode cX10_prepareQuickPrimer 0 = .ok (.aload_n 0, 1) := by decide +kernel
theorem dX10_prepareQuickPrimer_1 : decode cX10_prepareQuickPrimer 1 = .ok (.aload_n 1, 1) := by decide +kernel
theorem dX10_prepareQuickPrimer_2 : decode cX10_prepareQuickPrimer 2 = .ok (.invokevirtual 203, 3) := by decide +kernel
theorem dX10_prepareQuickPrimer_5 : decode cX10_prepareQuickPrimer 5 = .ok (.aload_n 0, 1) := by decide +kernel
theorem dX10_prepareQuickPrimer_6 : decode cX10_prepareQuickPrimer 6 = .ok (.getfield 78, 3) := by decide +kernel
theorem dX10_prepareQuickPrimer_9 : decode cX10_prepareQuickPrimer 9 = .ok (.aload_n 0, 1) := by decide +kernel
theorem dX10_prepareQuickPrimer_10 : decode cX10_prepareQuickPrimer 10 = .ok (.getfield 54, 3) := by decide +kernel
theorem dX10_prepareQuickPrimer_13 : decode cX10_prepareQuickPrimer 13 = .ok (.aload_n 0, 1) := by decide +kernel
theorem dX10_prepareQuickPrimer_14 : decode cX10_prepareQuickPrimer 14 = .ok (.getfield 12, 3) := by decide +kernel
theorem dX10_prepareQuickPrimer_17 : decode cX10_prepareQuickPrimer 17 = .ok (.getfield 212, 3) := by decide +kernel
theorem dX10_prepareQuickPrimer_20 : decode cX10_prepareQuickPrimer 20 = .ok (.invokevirtual 282, 3) := by decide +kernel
theorem dX10_prepareQuickPrimer_23 : decode cX10_prepareQuickPrimer 23 = .ok (.aload_n 0, 1) := by decide +kernel
theorem dX10_prepareQuickPrimer_24 : decode cX10_prepareQuickPrimer 24 = .ok (.getfield 78, 3) := by decide +kernel
theorem dX10_prepareQuickPrimer_27 : decode cX10_prepareQuickPrimer 27 = .ok (.invokevirtual 386, 3) := by decide +kernel
theorem dX10_prepareQuickPrimer_30 : decode cX10_prepareQuickPrimer 30 = .ok (.return_, 1) := by decide +kernel
theorem dX10_scoreOf_0 : decode cX10_scoreOf 0 = .ok (.aload_n 0, 1) := by decide +kernel
theorem dX10_scoreOf_1 : decode cX10_scoreOf 1 = .ok (.aload_n 2, 1) := by decide +kernel
theorem dX10_scoreOf_2 : decode cX10_scoreOf 2 = .ok (.invokevirtual 203, 3) := by decide +kernel
theorem dX10_scoreOf_5 : decode cX10_scoreOf 5 = .ok (.aload_n 0, 1) := by decide +kernel
theorem dX10_scoreOf_6 : decode cX10_scoreOf 6 = .ok (.getfield 54, 3) := by decide +kernel
theorem dX10_scoreOf_9 : decode cX10_scoreOf 9 = .ok (.aload_n 0, 1) := by decide +kernel
theorem dX10_scoreOf_10 : decode cX10_scoreOf 10 = .ok (.getfield 12, 3) := by decide +kernel
theorem dX10_scoreOf_13 : decode cX10_scoreOf 13 = .ok (.getfield 212, 3) := by decide +kernel
theorem dX10_scoreOf_16 : decode cX10_scoreOf 16 = .ok (.invokevirtual 215, 3) := by decide +kernel
theorem dX10_scoreOf_19 : decode cX10_scoreOf 19 = .ok (.istore_n 3, 1) := by decide +kernel
theorem dX10_scoreOf_20 : decode cX10_scoreOf 20 = .ok (.iconst 0, 1) := by decide +kernel
theorem dX10_scoreOf_21 : decode cX10_scoreOf 21 = .ok (.istore 4, 2) := by decide +kernel
theorem dX10_scoreOf_23 : decode cX10_scoreOf 23 = .ok (.iconst 0, 1) := by decide +kernel
theorem dX10_scoreOf_24 : decode cX10_scoreOf 24 = .ok (.istore 5, 2) := by decide +kernel
theorem dX10_scoreOf_26 : decode cX10_scoreOf 26 = .ok (.iconst 0, 1) := by decide +kernel
theorem dX10_scoreOf_27 : decode cX10_scoreOf 27 = .ok (.istore 6, 2) := by decide +kernel
theorem dX10_scoreOf_29 : decode cX10_scoreOf 29 = .ok (.iload 6, 2) := by decide +kernel
theorem dX10_scoreOf_31 : decode cX10_scoreOf 31 = .ok (.aload_n 0, 1) := by decide +kernel
theorem dX10_scoreOf_32 : decode cX10_scoreOf 32 = .ok (.getfield 12, 3) := by decide +kernel
theorem dX10_scoreOf_35 : decode cX10_scoreOf 35 = .ok (.getfield 112, 3) := by decide +kernel
theorem dX10_scoreOf_38 : decode cX10_scoreOf 38 = .ok (.if_icmp .ge 67, 3) := by decide +kernel
theorem dX10_scoreOf_41 : decode cX10_scoreOf 41 = .ok (.iload 4, 2) := by decide +kernel
theorem dX10_scoreOf_43 : decode cX10_scoreOf 43 = .ok (.aload_n 0, 1) := by decide +kernel
theorem dX10_scoreOf_44 : decode cX10_scoreOf 44 = .ok (.getfield 12, 3) := by decide +kernel
theorem dX10_scoreOf_47 : decode cX10_scoreOf 47 = .ok (.getfield 212, 3) := by decide +kernel
theorem dX10_scoreOf_50 : decode cX10_scoreOf 50 = .ok (.iload 6, 2) := by decide +kernel
theorem dX10_scoreOf_52 : decode cX10_scoreOf 52 = .ok (.iaload, 1) := by decide +kernel
theorem dX10_scoreOf_53 : decode cX10_scoreOf 53 = .ok (.iadd, 1) := by decide +kernel
theorem dX10_scoreOf_54 : decode cX10_scoreOf 54 = .ok (.istore 4, 2) := by decide +kernel
theorem dX10_scoreOf_56 : decode cX10_scoreOf 56 = .ok (.iload 5, 2) := by decide +kernel
theorem dX10_scoreOf_58 : decode cX10_scoreOf 58 = .ok (.aload_n 0, 1) := by decide +kernel
theorem dX10_scoreOf_59 : decode cX10_scoreOf 59 = .ok (.getfield 12, 3) := by decide +kernel
theorem dX10_scoreOf_62 : decode cX10_scoreOf 62 = .ok (.getfield 212, 3) := by decide +kernel
theorem dX10_scoreOf_65 : decode cX10_scoreOf 65 = .ok (.iload 6, 2) := by decide +kernel
theorem dX10_scoreOf_67 : decode cX10_scoreOf 67 = .ok (.iaload, 1) := by decide +kernel
theorem dX10_scoreOf_68 : decode cX10_scoreOf 68 = .ok (.aload_n 0, 1) := by decide +kernel
theorem dX10_scoreOf_69 : decode cX10_scoreOf 69 = .ok (.getfield 40, 3) := by decide +kernel
theorem dX10_scoreOf_72 : decode cX10_scoreOf 72 = .ok (.aload_n 0, 1) := by decide +kernel
theorem dX10_scoreOf_73 : decode cX10_scoreOf 73 = .ok (.getfield 54, 3) := by decide +kernel
theorem dX10_scoreOf_76 : decode cX10_scoreOf 76 = .ok (.getfield 208, 3) := by decide +kernel
theorem dX10_scoreOf_79 : decode cX10_scoreOf 79 = .ok (.iload 6, 2) := by decide +kernel
theorem dX10_scoreOf_81 : decode cX10_scoreOf 81 = .ok (.aaload, 1) := by decide +kernel
theorem dX10_scoreOf_82 : decode cX10_scoreOf 82 = .ok (.aload_n 0, 1) := by decide +kernel
theorem dX10_scoreOf_83 : decode cX10_scoreOf 83 = .ok (.getfield 54, 3) := by decide +kernel
theorem dX10_scoreOf_86 : decode cX10_scoreOf 86 = .ok (.getfield 207, 3) := by decide +kernel
theorem dX10_scoreOf_89 : decode cX10_scoreOf 89 = .ok (.iload 6, 2) := by decide +kernel
theorem dX10_scoreOf_91 : decode cX10_scoreOf 91 = .ok (.iaload, 1) := by decide +kernel
theorem dX10_scoreOf_92 : decode cX10_scoreOf 92 = .ok (.invokevirtual 389, 3) := by decide +kernel
theorem dX10_scoreOf_95 : decode cX10_scoreOf 95 = .ok (.imul, 1) := by decide +kernel
theorem dX10_scoreOf_96 : decode cX10_scoreOf 96 = .ok (.iadd, 1) := by decide +kernel
theorem dX10_scoreOf_97 : decode cX10_scoreOf 97 = .ok (.istore 5, 2) := by decide +kernel
theorem dX10_scoreOf_99 : decode cX10_scoreOf 99 = .ok (.iinc 6 1, 3) := by decide +kernel
theorem dX10_scoreOf_102 : decode cX10_scoreOf 102 = .ok (.goto (-73), 3) := by decide +kernel
theorem dX10_scoreOf_105 : decode cX10_scoreOf 105 = .ok (.iload 4, 2) := by decide +kernel
theorem dX10_scoreOf_107 : decode cX10_scoreOf 107 = .ok (.aload_n 0, 1) := by decide +kernel
theorem dX10_scoreOf_108 : decode cX10_scoreOf 108 = .ok (.aload_n 2, 1) := by decide +kernel
theorem dX10_scoreOf_109 : decode cX10_scoreOf 109 = .ok (.aload_n 0, 1) := by decide +kernel
theorem dX10_scoreOf_110 : decode cX10_scoreOf 110 = .ok (.getfield 47, 3) := by decide +kernel
theorem dX10_scoreOf_113 : decode cX10_scoreOf 113 = .ok (.getfield 330, 3) := by decide +kernel
theorem dX10_scoreOf_116 : decode cX10_scoreOf 116 = .ok (.iload_n 1, 1) := by decide +kernel
theorem dX10_scoreOf_117 : decode cX10_scoreOf 117 = .ok (.iaload, 1) := by decide +kernel
theorem dX10_scoreOf_118 : decode cX10_scoreOf 118 = .ok (.invokevirtual 226, 3) := by decide +kernel
theorem dX10_scoreOf_121 : decode cX10_scoreOf 121 = .ok (.isub, 1) := by decide +kernel
theorem dX10_scoreOf_122 : decode cX10_scoreOf 122 = .ok (.istore 6, 2) := by decide +kernel
theorem dX10_scoreOf_124 : decode cX10_scoreOf 124 = .ok (.aload_n 0, 1) := by decide +kernel
theorem dX10_scoreOf_125 : decode cX10_scoreOf 125 = .ok (.getfield 47, 3) := by decide +kernel
theorem dX10_scoreOf_128 : decode cX10_scoreOf 128 = .ok (.getfield 327, 3) := by decide +kernel
theorem dX10_scoreOf_131 : decode cX10_scoreOf 131 = .ok (.iload_n 1, 1) := by decide +kernel
theorem dX10_scoreOf_132 : decode cX10_scoreOf 132 = .ok (.iaload, 1) := by decide +kernel
theorem dX10_scoreOf_133 : decode cX10_scoreOf 133 = .ok (.istore 7, 2) := by decide +kernel
theorem dX10_scoreOf_135 : decode cX10_scoreOf 135 = .ok (.iload_n 3, 1) := by decide +kernel
theorem dX10_scoreOf_136 : decode cX10_scoreOf 136 = .ok (.iload 7, 2) := by decide +kernel
theorem dX10_scoreOf_138 : decode cX10_scoreOf 138 = .ok (.bipush 100, 2) := by decide +kernel
theorem dX10_scoreOf_140 : decode cX10_scoreOf 140 = .ok (.idiv, 1) := by decide +kernel
theorem dX10_scoreOf_141 : decode cX10_scoreOf 141 = .ok (.imul, 1) := by decide +kernel
theorem dX10_scoreOf_142 : decode cX10_scoreOf 142 = .ok (.iload 5, 2) := by decide +kernel
theorem dX10_scoreOf_144 : decode cX10_scoreOf 144 = .ok (.bipush 100, 2) := by decide +kernel
theorem dX10_scoreOf_146 : decode cX10_scoreOf 146 = .ok (.idiv, 1) := by decide +kernel
theorem dX10_scoreOf_147 : decode cX10_scoreOf 147 = .ok (.iload 7, 2) := by decide +kernel
theorem dX10_scoreOf_149 : decode cX10_scoreOf 149 = .ok (.bipush 10, 2) := by decide +kernel
theorem dX10_scoreOf_151 : decode cX10_scoreOf 151 = .ok (.idiv, 1) := by decide +kernel
theorem dX10_scoreOf_152 : decode cX10_scoreOf 152 = .ok (.bipush 10, 2) := by decide +kernel
theorem dX10_scoreOf_154 : decode cX10_scoreOf 154 = .ok (.irem, 1) := by decide +kernel
theorem dX10_scoreOf_155 : decode cX10_scoreOf 155 = .ok (.imul, 1) := by decide +kernel
theorem dX10_scoreOf_156 : decode cX10_scoreOf 156 = .ok (.iadd, 1) := by decide +kernel
theorem dX10_scoreOf_157 : decode cX10_scoreOf 157 = .ok (.iload 6, 2) := by decide +kernel
theorem dX10_scoreOf_159 : decode cX10_scoreOf 159 = .ok (.iload 7, 2) := by decide +kernel
theorem dX10_scoreOf_161 : decode cX10_scoreOf 161 = .ok (.bipush 10, 2) := by decide +kernel
theorem dX10_scoreOf_163 : decode cX10_scoreOf 163 = .ok (.irem, 1) := by decide +kernel
theorem dX10_scoreOf_164 : decode cX10_scoreOf 164 = .ok (.imul, 1) := by decide +kernel
theorem dX10_scoreOf_165 : decode cX10_scoreOf 165 = .ok (.iadd, 1) := by decide +kernel
theorem dX10_scoreOf_166 : decode cX10_scoreOf 166 = .ok (.ireturn, 1) := by decide +kernel
theorem dX10_prepareBallot_0 : decode cX10_prepareBallot 0 = .ok (.aload_n 0, 1) := by decide +kernel
theorem dX10_prepareBallot_1 : decode cX10_prepareBallot 1 = .ok (.getfield 47, 3) := by decide +kernel
theorem dX10_prepareBallot_4 : decode cX10_prepareBallot 4 = .ok (.aload_n 0, 1) := by decide +kernel
theorem dX10_prepareBallot_5 : decode cX10_prepareBallot 5 = .ok (.getfield 33, 3) := by decide +kernel
theorem dX10_prepareBallot_8 : decode cX10_prepareBallot 8 = .ok (.invokevirtual 392, 3) := by decide +kernel
theorem dX10_prepareBallot_11 : decode cX10_prepareBallot 11 = .ok (.iconst 0, 1) := by decide +kernel
theorem dX10_prepareBallot_12 : decode cX10_prepareBallot 12 = .ok (.istore_n 1, 1) := by decide +kernel
theorem dX10_prepareBallot_13 : decode cX10_prepareBallot 13 = .ok (.iload_n 1, 1) := by decide +kernel
theorem dX10_prepareBallot_14 : decode cX10_prepareBallot 14 = .ok (.iconst 4, 1) := by decide +kernel
theorem dX10_prepareBallot_15 : decode cX10_prepareBallot 15 = .ok (.if_icmp .ge 47, 3) := by decide +kernel
theorem dX10_prepareBallot_18 : decode cX10_prepareBallot 18 = .ok (.iconst 0, 1) := by decide +kernel
theorem dX10_prepareBallot_19 : decode cX10_prepareBallot 19 = .ok (.istore_n 2, 1) := by decide +kernel
theorem dX10_prepareBallot_20 : decode cX10_prepareBallot 20 = .ok (.iload_n 2, 1) := by decide +kernel
theorem dX10_prepareBallot_21 : decode cX10_prepareBallot 21 = .ok (.aload_n 0, 1) := by decide +kernel
theorem dX10_prepareBallot_22 : decode cX10_prepareBallot 22 = .ok (.getfield 33, 3) := by decide +kernel
theorem dX10_prepareBallot_25 : decode cX10_prepareBallot 25 = .ok (.if_icmp .ge 31, 3) := by decide +kernel
theorem dX10_prepareBallot_28 : decode cX10_prepareBallot 28 = .ok (.aload_n 0, 1) := by decide +kernel
theorem dX10_prepareBallot_29 : decode cX10_prepareBallot 29 = .ok (.getfield 47, 3) := by decide +kernel
theorem dX10_prepareBallot_32 : decode cX10_prepareBallot 32 = .ok (.getfield 395, 3) := by decide +kernel
theorem dX10_prepareBallot_35 : decode cX10_prepareBallot 35 = .ok (.iload_n 1, 1) := by decide +kernel
theorem dX10_prepareBallot_36 : decode cX10_prepareBallot 36 = .ok (.aaload, 1) := by decide +kernel
theorem dX10_prepareBallot_37 : decode cX10_prepareBallot 37 = .ok (.iload_n 2, 1) := by decide +kernel
theorem dX10_prepareBallot_38 : decode cX10_prepareBallot 38 = .ok (.aload_n 0, 1) := by decide +kernel
theorem dX10_prepareBallot_39 : decode cX10_prepareBallot 39 = .ok (.iload_n 1, 1) := by decide +kernel
theorem dX10_prepareBallot_40 : decode cX10_prepareBallot 40 = .ok (.aload_n 0, 1) := by decide +kernel
theorem dX10_prepareBallot_41 : decode cX10_prepareBallot 41 = .ok (.getfield 29, 3) := by decide +kernel
theorem dX10_prepareBallot_44 : decode cX10_prepareBallot 44 = .ok (.iload_n 2, 1) := by decide +kernel
theorem dX10_prepareBallot_45 : decode cX10_prepareBallot 45 = .ok (.aaload, 1) := by decide +kernel
theorem dX10_prepareBallot_46 : decode cX10_prepareBallot 46 = .ok (.invokevirtual 332, 3) := by decide +kernel
theorem dX10_prepareBallot_49 : decode cX10_prepareBallot 49 = .ok (.iastore, 1) := by decide +kernel
theorem dX10_prepareBallot_50 : decode cX10_prepareBallot 50 = .ok (.iinc 2 1, 3) := by decide +kernel
theorem dX10_prepareBallot_53 : decode cX10_prepareBallot 53 = .ok (.goto (-33), 3) := by decide +kernel
theorem dX10_prepareBallot_56 : decode cX10_prepareBallot 56 = .ok (.iinc 1 1, 3) := by decide +kernel
theorem dX10_prepareBallot_59 : decode cX10_prepareBallot 59 = .ok (.goto (-46), 3) := by decide +kernel
theorem dX10_prepareBallot_62 : decode cX10_prepareBallot 62 = .ok (.return_, 1) := by decide +kernel
theorem dX10_isSplitByReform_0 : decode cX10_isSplitByReform 0 = .ok (.iconst 0, 1) := by decide +kernel
theorem dX10_isSplitByReform_1 : decode cX10_isSplitByReform 1 = .ok (.istore_n 2, 1) := by decide +kernel
theorem dX10_isSplitByReform_2 : decode cX10_isSplitByReform 2 = .ok (.iload_n 2, 1) := by decide +kernel
theorem dX10_isSplitByReform_3 : decode cX10_isSplitByReform 3 = .ok (.aload_n 0, 1) := by decide +kernel
theorem dX10_isSplitByReform_4 : decode cX10_isSplitByReform 4 = .ok (.getfield 12, 3) := by decide +kernel
theorem dX10_isSplitByReform_7 : decode cX10_isSplitByReform 7 = .ok (.getfield 112, 3) := by decide +kernel
theorem dX10_isSplitByReform_10 : decode cX10_isSplitByReform 10 = .ok (.if_icmp .ge 35, 3) := by decide +kernel
theorem dX10_isSplitByReform_13 : decode cX10_isSplitByReform 13 = .ok (.aload_n 0, 1) := by decide +kernel
theorem dX10_isSplitByReform_14 : decode cX10_isSplitByReform 14 = .ok (.getfield 54, 3) := by decide +kernel
theorem dX10_isSplitByReform_17 : decode cX10_isSplitByReform 17 = .ok (.iload_n 1, 1) := by decide +kernel
theorem dX10_isSplitByReform_18 : decode cX10_isSplitByReform 18 = .ok (.iload_n 2, 1) := by decide +kernel
theorem dX10_isSplitByReform_19 : decode cX10_isSplitByReform 19 = .ok (.invokevirtual 209, 3) := by decide +kernel
theorem dX10_isSplitByReform_22 : decode cX10_isSplitByReform 22 = .ok (.ifCond .eq 17, 3) := by decide +kernel
theorem dX10_isSplitByReform_25 : decode cX10_isSplitByReform 25 = .ok (.aload_n 0, 1) := by decide +kernel
theorem dX10_isSplitByReform_26 : decode cX10_isSplitByReform 26 = .ok (.getfield 58, 3) := by decide +kernel
theorem dX10_isSplitByReform_29 : decode cX10_isSplitByReform 29 = .ok (.iload_n 1, 1) := by decide +kernel
theorem dX10_isSplitByReform_30 : decode cX10_isSplitByReform 30 = .ok (.iload_n 2, 1) := by decide +kernel
theorem dX10_isSplitByReform_31 : decode cX10_isSplitByReform 31 = .ok (.invokevirtual 209, 3) := by decide +kernel
theorem dX10_isSplitByReform_34 : decode cX10_isSplitByReform 34 = .ok (.ifCond .ne 5, 3) := by decide +kernel
theorem dX10_isSplitByReform_37 : decode cX10_isSplitByReform 37 = .ok (.iconst 1, 1) := by decide +kernel
theorem dX10_isSplitByReform_38 : decode cX10_isSplitByReform 38 = .ok (.ireturn, 1) := by decide +kernel
theorem dX10_isSplitByReform_39 : decode cX10_isSplitByReform 39 = .ok (.iinc 2 1, 3) := by decide +kernel
theorem dX10_isSplitByReform_42 : decode cX10_isSplitByReform 42 = .ok (.goto (-40), 3) := by decide +kernel
theorem dX10_isSplitByReform_45 : decode cX10_isSplitByReform 45 = .ok (.iconst 0, 1) := by decide +kernel
theorem dX10_isSplitByReform_46 : decode cX10_isSplitByReform 46 = .ok (.ireturn, 1) := by decide +kernel
theorem dX10_valuesOf_0 : decode cX10_valuesOf 0 = .ok (.iload_n 0, 1) := by decide +kernel
theorem dX10_valuesOf_1 : decode cX10_valuesOf 1 = .ok (.tableswitch 32 0 2 #[27, 30, 27], 27) := by decide +kernel
theorem dX10_valuesOf_28 : decode cX10_valuesOf 28 = .ok (.bipush 9, 2) := by decide +kernel
theorem dX10_valuesOf_30 : decode cX10_valuesOf 30 = .ok (.ireturn, 1) := by decide +kernel
theorem dX10_valuesOf_31 : decode cX10_valuesOf 31 = .ok (.iconst 4, 1) := by decide +kernel
theorem dX10_valuesOf_32 : decode cX10_valuesOf 32 = .ok (.ireturn, 1) := by decide +kernel
theorem dX10_valuesOf_33 : decode cX10_valuesOf 33 = .ok (.iconst 3, 1) := by decide +kernel
theorem dX10_valuesOf_34 : decode cX10_valuesOf 34 = .ok (.ireturn, 1) := by decide +kernel
theorem dX10_stepOf_0 : decode cX10_stepOf 0 = .ok (.iload_n 0, 1) := by decide +kernel
theorem dX10_stepOf_1 : decode cX10_stepOf 1 = .ok (.tableswitch 35 0 2 #[27, 30, 33], 27) := by decide +kernel
theorem dX10_stepOf_28 : decode cX10_stepOf 28 = .ok (.bipush 108, 2) := by decide +kernel
theorem dX10_stepOf_30 : decode cX10_stepOf 30 = .ok (.ireturn, 1) := by decide +kernel
theorem dX10_stepOf_31 : decode cX10_stepOf 31 = .ok (.bipush 27, 2) := by decide +kernel
theorem dX10_stepOf_33 : decode cX10_stepOf 33 = .ok (.ireturn, 1) := by decide +kernel
theorem dX10_stepOf_34 : decode cX10_stepOf 34 = .ok (.iconst 3, 1) := by decide +kernel
theorem dX10_stepOf_35 : decode cX10_stepOf 35 = .ok (.ireturn, 1) := by decide +kernel
theorem dX10_stepOf_36 : decode cX10_stepOf 36 = .ok (.iconst 1, 1) := by decide +kernel
theorem dX10_stepOf_37 : decode cX10_stepOf 37 = .ok (.ireturn, 1) := by decide +kernel
theorem dX10_partOf_0 : decode cX10_partOf 0 = .ok (.iload_n 1, 1) := by decide +kernel
theorem dX10_partOf_1 : decode cX10_partOf 1 = .ok (.tableswitch 46 0 2 #[27, 32, 39], 27) := by decide +kernel
theorem dX10_partOf_28 : decode cX10_partOf 28 = .ok (.iload_n 0, 1) := by decide +kernel
theorem dX10_partOf_29 : decode cX10_partOf 29 = .ok (.bipush 108, 2) := by decide +kernel
theorem dX10_partOf_31 : decode cX10_partOf 31 = .ok (.idiv, 1) := by decide +kernel
theorem dX10_partOf_32 : decode cX10_partOf 32 = .ok (.ireturn, 1) := by decide +kernel
theorem dX10_partOf_33 : decode cX10_partOf 33 = .ok (.iload_n 0, 1) := by decide +kernel
theorem dX10_partOf_34 : decode cX10_partOf 34 = .ok (.bipush 27, 2) := by decide +kernel
theorem dX10_partOf_36 : decode cX10_partOf 36 = .ok (.idiv, 1) := by decide +kernel
theorem dX10_partOf_37 : decode cX10_partOf 37 = .ok (.iconst 4, 1) := by decide +kernel
theorem dX10_partOf_38 : decode cX10_partOf 38 = .ok (.irem, 1) := by decide +kernel
theorem dX10_partOf_39 : decode cX10_partOf 39 = .ok (.ireturn, 1) := by decide +kernel
theorem dX10_partOf_40 : decode cX10_partOf 40 = .ok (.iload_n 0, 1) := by decide +kernel
theorem dX10_partOf_41 : decode cX10_partOf 41 = .ok (.iconst 3, 1) := by decide +kernel
theorem dX10_partOf_42 : decode cX10_partOf 42 = .ok (.idiv, 1) := by decide +kernel
theorem dX10_partOf_43 : decode cX10_partOf 43 = .ok (.bipush 9, 2) := by decide +kernel
theorem dX10_partOf_45 : decode cX10_partOf 45 = .ok (.irem, 1) := by decide +kernel
theorem dX10_partOf_46 : decode cX10_partOf 46 = .ok (.ireturn, 1) := by decide +kernel
theorem dX10_partOf_47 : decode cX10_partOf 47 = .ok (.iload_n 0, 1) := by decide +kernel
theorem dX10_partOf_48 : decode cX10_partOf 48 = .ok (.iconst 3, 1) := by decide +kernel
theorem dX10_partOf_49 : decode cX10_partOf 49 = .ok (.irem, 1) := by decide +kernel
theorem dX10_partOf_50 : decode cX10_partOf 50 = .ok (.ireturn, 1) := by decide +kernel
theorem dX10_has_0 : decode cX10_has 0 = .ok (.lload_n 0, 1) := by decide +kernel
theorem dX10_has_1 : decode cX10_has 1 = .ok (.iload_n 2, 1) := by decide +kernel
theorem dX10_has_2 : decode cX10_has 2 = .ok (.lshr, 1) := by decide +kernel
theorem dX10_has_3 : decode cX10_has 3 = .ok (.lconst 1, 1) := by decide +kernel
theorem dX10_has_4 : decode cX10_has 4 = .ok (.land, 1) := by decide +kernel
theorem dX10_has_5 : decode cX10_has 5 = .ok (.lconst 0, 1) := by decide +kernel
theorem dX10_has_6 : decode cX10_has 6 = .ok (.lcmp, 1) := by decide +kernel
theorem dX10_has_7 : decode cX10_has 7 = .ok (.ifCond .eq 7, 3) := by decide +kernel
theorem dX10_has_10 : decode cX10_has 10 = .ok (.iconst 1, 1) := by decide +kernel
theorem dX10_has_11 : decode cX10_has 11 = .ok (.goto 4, 3) := by decide +kernel
theorem dX10_has_14 : decode cX10_has 14 = .ok (.iconst 0, 1) := by decide +kernel
theorem dX10_has_15 : decode cX10_has 15 = .ok (.ireturn, 1) := by decide +kernel
theorem dX10_distance_0 : decode cX10_distance 0 = .ok (.iload_n 0, 1) := by decide +kernel
theorem dX10_distance_1 : decode cX10_distance 1 = .ok (.iload_n 1, 1) := by decide +kernel
theorem dX10_distance_2 : decode cX10_distance 2 = .ok (.if_icmp .ge 9, 3) := by decide +kernel
theorem dX10_distance_5 : decode cX10_distance 5 = .ok (.iload_n 1, 1) := by decide +kernel
theorem dX10_distance_6 : decode cX10_distance 6 = .ok (.iload_n 0, 1) := by decide +kernel
theorem dX10_distance_7 : decode cX10_distance 7 = .ok (.isub, 1) := by decide +kernel
theorem dX10_distance_8 : decode cX10_distance 8 = .ok (.goto 6, 3) := by decide +kernel
theorem dX10_distance_11 : decode cX10_distance 11 = .ok (.iload_n 0, 1) := by decide +kernel
theorem dX10_distance_12 : decode cX10_distance 12 = .ok (.iload_n 1, 1) := by decide +kernel
theorem dX10_distance_13 : decode cX10_distance 13 = .ok (.isub, 1) := by decide +kernel
theorem dX10_distance_14 : decode cX10_distance 14 = .ok (.ireturn, 1) := by decide +kernel
theorem dJ13_bitCount_95d88_0 : decode cJ13_bitCount_95d88 0 = .ok (.lload_n 0, 1) := by decide +kernel
theorem dJ13_bitCount_95d88_1 : decode cJ13_bitCount_95d88 1 = .ok (.lload_n 0, 1) := by decide +kernel
theorem dJ13_bitCount_95d88_2 : decode cJ13_bitCount_95d88 2 = .ok (.iconst 1, 1) := by decide +kernel
theorem dJ13_bitCount_95d88_3 : decode cJ13_bitCount_95d88 3 = .ok (.lushr, 1) := by decide +kernel
theorem dJ13_bitCount_95d88_4 : decode cJ13_bitCount_95d88 4 = .ok (.ldc2_w 314, 3) := by decide +kernel
theorem dJ13_bitCount_95d88_7 : decode cJ13_bitCount_95d88 7 = .ok (.land, 1) := by decide +kernel
theorem dJ13_bitCount_95d88_8 : decode cJ13_bitCount_95d88 8 = .ok (.lsub, 1) := by decide +kernel
theorem dJ13_bitCount_95d88_9 : decode cJ13_bitCount_95d88 9 = .ok (.lstore_n 0, 1) := by decide +kernel
theorem dJ13_bitCount_95d88_10 : decode cJ13_bitCount_95d88 10 = .ok (.lload_n 0, 1) := by decide +kernel
theorem dJ13_bitCount_95d88_11 : decode cJ13_bitCount_95d88 11 = .ok (.ldc2_w 316, 3) := by decide +kernel
theorem dJ13_bitCount_95d88_14 : decode cJ13_bitCount_95d88 14 = .ok (.land, 1) := by decide +kernel
theorem dJ13_bitCount_95d88_15 : decode cJ13_bitCount_95d88 15 = .ok (.lload_n 0, 1) := by decide +kernel
theorem dJ13_bitCount_95d88_16 : decode cJ13_bitCount_95d88 16 = .ok (.iconst 2, 1) := by decide +kernel
theorem dJ13_bitCount_95d88_17 : decode cJ13_bitCount_95d88 17 = .ok (.lushr, 1) := by decide +kernel
theorem dJ13_bitCount_95d88_18 : decode cJ13_bitCount_95d88 18 = .ok (.ldc2_w 316, 3) := by decide +kernel
theorem dJ13_bitCount_95d88_21 : decode cJ13_bitCount_95d88 21 = .ok (.land, 1) := by decide +kernel
theorem dJ13_bitCount_95d88_22 : decode cJ13_bitCount_95d88 22 = .ok (.ladd, 1) := by decide +kernel
theorem dJ13_bitCount_95d88_23 : decode cJ13_bitCount_95d88 23 = .ok (.lstore_n 0, 1) := by decide +kernel
theorem dJ13_bitCount_95d88_24 : decode cJ13_bitCount_95d88 24 = .ok (.lload_n 0, 1) := by decide +kernel
theorem dJ13_bitCount_95d88_25 : decode cJ13_bitCount_95d88 25 = .ok (.lload_n 0, 1) := by decide +kernel
theorem dJ13_bitCount_95d88_26 : decode cJ13_bitCount_95d88 26 = .ok (.iconst 4, 1) := by decide +kernel
theorem dJ13_bitCount_95d88_27 : decode cJ13_bitCount_95d88 27 = .ok (.lushr, 1) := by decide +kernel
theorem dJ13_bitCount_95d88_28 : decode cJ13_bitCount_95d88 28 = .ok (.ladd, 1) := by decide +kernel
theorem dJ13_bitCount_95d88_29 : decode cJ13_bitCount_95d88 29 = .ok (.ldc2_w 318, 3) := by decide +kernel
theorem dJ13_bitCount_95d88_32 : decode cJ13_bitCount_95d88 32 = .ok (.land, 1) := by decide +kernel
theorem dJ13_bitCount_95d88_33 : decode cJ13_bitCount_95d88 33 = .ok (.lstore_n 0, 1) := by decide +kernel
theorem dJ13_bitCount_95d88_34 : decode cJ13_bitCount_95d88 34 = .ok (.lload_n 0, 1) := by decide +kernel
theorem dJ13_bitCount_95d88_35 : decode cJ13_bitCount_95d88 35 = .ok (.lload_n 0, 1) := by decide +kernel
theorem dJ13_bitCount_95d88_36 : decode cJ13_bitCount_95d88 36 = .ok (.bipush 8, 2) := by decide +kernel
theorem dJ13_bitCount_95d88_38 : decode cJ13_bitCount_95d88 38 = .ok (.lushr, 1) := by decide +kernel
theorem dJ13_bitCount_95d88_39 : decode cJ13_bitCount_95d88 39 = .ok (.ladd, 1) := by decide +kernel
theorem dJ13_bitCount_95d88_40 : decode cJ13_bitCount_95d88 40 = .ok (.lstore_n 0, 1) := by decide +kernel
theorem dJ13_bitCount_95d88_41 : decode cJ13_bitCount_95d88 41 = .ok (.lload_n 0, 1) := by decide +kernel
theorem dJ13_bitCount_95d88_42 : decode cJ13_bitCount_95d88 42 = .ok (.lload_n 0, 1) := by decide +kernel
theorem dJ13_bitCount_95d88_43 : decode cJ13_bitCount_95d88 43 = .ok (.bipush 16, 2) := by decide +kernel
theorem dJ13_bitCount_95d88_45 : decode cJ13_bitCount_95d88 45 = .ok (.lushr, 1) := by decide +kernel
theorem dJ13_bitCount_95d88_46 : decode cJ13_bitCount_95d88 46 = .ok (.ladd, 1) := by decide +kernel
theorem dJ13_bitCount_95d88_47 : decode cJ13_bitCount_95d88 47 = .ok (.lstore_n 0, 1) := by decide +kernel
theorem dJ13_bitCount_95d88_48 : decode cJ13_bitCount_95d88 48 = .ok (.lload_n 0, 1) := by decide +kernel
theorem dJ13_bitCount_95d88_49 : decode cJ13_bitCount_95d88 49 = .ok (.lload_n 0, 1) := by decide +kernel
theorem dJ13_bitCount_95d88_50 : decode cJ13_bitCount_95d88 50 = .ok (.bipush 32, 2) := by decide +kernel
theorem dJ13_bitCount_95d88_52 : decode cJ13_bitCount_95d88 52 = .ok (.lushr, 1) := by decide +kernel
theorem dJ13_bitCount_95d88_53 : decode cJ13_bitCount_95d88 53 = .ok (.ladd, 1) := by decide +kernel
theorem dJ13_bitCount_95d88_54 : decode cJ13_bitCount_95d88 54 = .ok (.lstore_n 0, 1) := by decide +kernel
theorem dJ13_bitCount_95d88_55 : decode cJ13_bitCount_95d88 55 = .ok (.lload_n 0, 1) := by decide +kernel
theorem dJ13_bitCount_95d88_56 : decode cJ13_bitCount_95d88 56 = .ok (.l2i, 1) := by decide +kernel
theorem dJ13_bitCount_95d88_57 : decode cJ13_bitCount_95d88 57 = .ok (.bipush 127, 2) := by decide +kernel
theorem dJ13_bitCount_95d88_59 : decode cJ13_bitCount_95d88 59 = .ok (.iand, 1) := by decide +kernel
theorem dJ13_bitCount_95d88_60 : decode cJ13_bitCount_95d88 60 = .ok (.ireturn, 1) := by decide +kernel
theorem dJ9_min_7cf53_0 : decode cJ9_min_7cf53 0 = .ok (.iload_n 0, 1) := by decide +kernel
theorem dJ9_min_7cf53_1 : decode cJ9_min_7cf53 1 = .ok (.iload_n 1, 1) := by decide +kernel
theorem dJ9_min_7cf53_2 : decode cJ9_min_7cf53 2 = .ok (.if_icmp .gt 7, 3) := by decide +kernel
theorem dJ9_min_7cf53_5 : decode cJ9_min_7cf53 5 = .ok (.iload_n 0, 1) := by decide +kernel
theorem dJ9_min_7cf53_6 : decode cJ9_min_7cf53 6 = .ok (.goto 4, 3) := by decide +kernel
theorem dJ9_min_7cf53_9 : decode cJ9_min_7cf53 9 = .ok (.iload_n 1, 1) := by decide +kernel
theorem dJ9_min_7cf53_10 : decode cJ9_min_7cf53 10 = .ok (.ireturn, 1) := by decide +kernel
theorem dJ7_fill_d0a16_0 : decode cJ7_fill_d0a16 0 = .ok (.iconst 0, 1) := by decide +kernel
theorem dJ7_fill_d0a16_1 : decode cJ7_fill_d0a16 1 = .ok (.istore_n 3, 1) := by decide +kernel
theorem dJ7_fill_d0a16_2 : decode cJ7_fill_d0a16 2 = .ok (.aload_n 0, 1) := by decide +kernel
theorem dJ7_fill_d0a16_3 : decode cJ7_fill_d0a16 3 = .ok (.arraylength, 1) := by decide +kernel
theorem dJ7_fill_d0a16_4 : decode cJ7_fill_d0a16 4 = .ok (.istore 4, 2) := by decide +kernel
theorem dJ7_fill_d0a16_6 : decode cJ7_fill_d0a16 6 = .ok (.iload_n 3, 1) := by decide +kernel
theorem dJ7_fill_d0a16_7 : decode cJ7_fill_d0a16 7 = .ok (.iload 4, 2) := by decide +kernel
theorem dJ7_fill_d0a16_9 : decode cJ7_fill_d0a16 9 = .ok (.if_icmp .ge 13, 3) := by decide +kernel
theorem dJ7_fill_d0a16_12 : decode cJ7_fill_d0a16 12 = .ok (.aload_n 0, 1) := by decide +kernel
theorem dJ7_fill_d0a16_13 : decode cJ7_fill_d0a16 13 = .ok (.iload_n 3, 1) := by decide +kernel
theorem dJ7_fill_d0a16_14 : decode cJ7_fill_d0a16 14 = .ok (.lload_n 1, 1) := by decide +kernel
theorem dJ7_fill_d0a16_15 : decode cJ7_fill_d0a16 15 = .ok (.lastore, 1) := by decide +kernel
theorem dJ7_fill_d0a16_16 : decode cJ7_fill_d0a16 16 = .ok (.iinc 3 1, 3) := by decide +kernel
theorem dJ7_fill_d0a16_19 : decode cJ7_fill_d0a16 19 = .ok (.goto (-13), 3) := by decide +kernel
theorem dJ7_fill_d0a16_22 : decode cJ7_fill_d0a16 22 = .ok (.return_, 1) := by decide +kernel
theorem dJ7_fill_53178_0 : decode cJ7_fill_53178 0 = .ok (.iconst 0, 1) := by decide +kernel
theorem dJ7_fill_53178_1 : decode cJ7_fill_53178 1 = .ok (.istore_n 2, 1) := by decide +kernel
theorem dJ7_fill_53178_2 : decode cJ7_fill_53178 2 = .ok (.aload_n 0, 1) := by decide +kernel
theorem dJ7_fill_53178_3 : decode cJ7_fill_53178 3 = .ok (.arraylength, 1) := by decide +kernel
theorem dJ7_fill_53178_4 : decode cJ7_fill_53178 4 = .ok (.istore_n 3, 1) := by decide +kernel
theorem dJ7_fill_53178_5 : decode cJ7_fill_53178 5 = .ok (.iload_n 2, 1) := by decide +kernel
theorem dJ7_fill_53178_6 : decode cJ7_fill_53178 6 = .ok (.iload_n 3, 1) := by decide +kernel
theorem dJ7_fill_53178_7 : decode cJ7_fill_53178 7 = .ok (.if_icmp .ge 13, 3) := by decide +kernel
theorem dJ7_fill_53178_10 : decode cJ7_fill_53178 10 = .ok (.aload_n 0, 1) := by decide +kernel
theorem dJ7_fill_53178_11 : decode cJ7_fill_53178 11 = .ok (.iload_n 2, 1) := by decide +kernel
theorem dJ7_fill_53178_12 : decode cJ7_fill_53178 12 = .ok (.iload_n 1, 1) := by decide +kernel
theorem dJ7_fill_53178_13 : decode cJ7_fill_53178 13 = .ok (.iastore, 1) := by decide +kernel
theorem dJ7_fill_53178_14 : decode cJ7_fill_53178 14 = .ok (.iinc 2 1, 3) := by decide +kernel
theorem dJ7_fill_53178_17 : decode cJ7_fill_53178 17 = .ok (.goto (-12), 3) := by decide +kernel
theorem dJ7_fill_53178_20 : decode cJ7_fill_53178 20 = .ok (.return_, 1) := by decide +kernel
theorem dL_part_0 : decode cL_part 0 = .ok (.iload_n 1, 1) := by decide +kernel
theorem dL_part_1 : decode cL_part 1 = .ok (.aload_n 0, 1) := by decide +kernel
theorem dL_part_2 : decode cL_part 2 = .ok (.arraylength, 1) := by decide +kernel
theorem dL_part_3 : decode cL_part 3 = .ok (.if_icmp .ge 9, 3) := by decide +kernel
theorem dL_part_6 : decode cL_part 6 = .ok (.aload_n 0, 1) := by decide +kernel
theorem dL_part_7 : decode cL_part 7 = .ok (.iload_n 1, 1) := by decide +kernel
theorem dL_part_8 : decode cL_part 8 = .ok (.iaload, 1) := by decide +kernel
theorem dL_part_9 : decode cL_part 9 = .ok (.goto 16, 3) := by decide +kernel
theorem dL_part_12 : decode cL_part 12 = .ok (.sipush 1087, 3) := by decide +kernel
theorem dL_part_15 : decode cL_part 15 = .ok (.iload_n 1, 1) := by decide +kernel
theorem dL_part_16 : decode cL_part 16 = .ok (.imul, 1) := by decide +kernel
theorem dL_part_17 : decode cL_part 17 = .ok (.sipush 971, 3) := by decide +kernel
theorem dL_part_20 : decode cL_part 20 = .ok (.iload_n 1, 1) := by decide +kernel
theorem dL_part_21 : decode cL_part 21 = .ok (.imul, 1) := by decide +kernel
theorem dL_part_22 : decode cL_part 22 = .ok (.iload_n 1, 1) := by decide +kernel
theorem dL_part_23 : decode cL_part 23 = .ok (.imul, 1) := by decide +kernel
theorem dL_part_24 : decode cL_part 24 = .ok (.iadd, 1) := by decide +kernel
theorem dL_part_25 : decode cL_part 25 = .ok (.istore_n 3, 1) := by decide +kernel
theorem dL_part_26 : decode cL_part 26 = .ok (.iload_n 3, 1) := by decide +kernel
theorem dL_part_27 : decode cL_part 27 = .ok (.ldc 7, 2) := by decide +kernel
theorem dL_part_29 : decode cL_part 29 = .ok (.iand, 1) := by decide +kernel
theorem dL_part_30 : decode cL_part 30 = .ok (.iload_n 2, 1) := by decide +kernel
theorem dL_part_31 : decode cL_part 31 = .ok (.irem, 1) := by decide +kernel
theorem dL_part_32 : decode cL_part 32 = .ok (.ireturn, 1) := by decide +kernel
theorem dL_does_0 : decode cL_does 0 = .ok (.iload_n 1, 1) := by decide +kernel
theorem dL_does_1 : decode cL_does 1 = .ok (.ifCond .ne 11, 3) := by decide +kernel
theorem dL_does_4 : decode cL_does 4 = .ok (.aload_n 0, 1) := by decide +kernel
theorem dL_does_5 : decode cL_does 5 = .ok (.iload_n 2, 1) := by decide +kernel
theorem dL_does_6 : decode cL_does 6 = .ok (.invokevirtual 8, 3) := by decide +kernel
theorem dL_does_9 : decode cL_does 9 = .ok (.goto 218, 3) := by decide +kernel
theorem dL_does_12 : decode cL_does 12 = .ok (.iload_n 1, 1) := by decide +kernel
theorem dL_does_13 : decode cL_does 13 = .ok (.iconst 1, 1) := by decide +kernel
theorem dL_does_14 : decode cL_does 14 = .ok (.if_icmp .ne 11, 3) := by decide +kernel
theorem dL_does_17 : decode cL_does 17 = .ok (.aload_n 0, 1) := by decide +kernel
theorem dL_does_18 : decode cL_does 18 = .ok (.iload_n 2, 1) := by decide +kernel
theorem dL_does_19 : decode cL_does 19 = .ok (.invokevirtual 14, 3) := by decide +kernel
theorem dL_does_22 : decode cL_does 22 = .ok (.goto 205, 3) := by decide +kernel
theorem dL_does_25 : decode cL_does 25 = .ok (.iload_n 1, 1) := by decide +kernel
theorem dL_does_26 : decode cL_does 26 = .ok (.iconst 2, 1) := by decide +kernel
theorem dL_does_27 : decode cL_does 27 = .ok (.if_icmp .ne 27, 3) := by decide +kernel
theorem dL_does_30 : decode cL_does 30 = .ok (.aload_n 0, 1) := by decide +kernel
theorem dL_does_31 : decode cL_does 31 = .ok (.iload_n 2, 1) := by decide +kernel
theorem dL_does_32 : decode cL_does 32 = .ok (.iload_n 3, 1) := by decide +kernel
theorem dL_does_33 : decode cL_does 33 = .ok (.iload 4, 2) := by decide +kernel
theorem dL_does_35 : decode cL_does 35 = .ok (.iload 5, 2) := by decide +kernel
theorem dL_does_37 : decode cL_does 37 = .ok (.iload 6, 2) := by decide +kernel
theorem dL_does_39 : decode cL_does 39 = .ok (.iconst 1, 1) := by decide +kernel
theorem dL_does_40 : decode cL_does 40 = .ok (.if_icmp .ne 7, 3) := by decide +kernel
theorem dL_does_43 : decode cL_does 43 = .ok (.iconst 1, 1) := by decide +kernel
theorem dL_does_44 : decode cL_does 44 = .ok (.goto 4, 3) := by decide +kernel
theorem dL_does_47 : decode cL_does 47 = .ok (.iconst 0, 1) := by decide +kernel
theorem dL_does_48 : decode cL_does 48 = .ok (.invokevirtual 17, 3) := by decide +kernel
theorem dL_does_51 : decode cL_does 51 = .ok (.goto 176, 3) := by decide +kernel
theorem dL_does_54 : decode cL_does 54 = .ok (.iload_n 1, 1) := by decide +kernel
theorem dL_does_55 : decode cL_does 55 = .ok (.iconst 3, 1) := by decide +kernel
theorem dL_does_56 : decode cL_does 56 = .ok (.if_icmp .ne 12, 3) := by decide +kernel
theorem dL_does_59 : decode cL_does 59 = .ok (.aload_n 0, 1) := by decide +kernel
theorem dL_does_60 : decode cL_does 60 = .ok (.iload_n 2, 1) := by decide +kernel
theorem dL_does_61 : decode cL_does 61 = .ok (.iload_n 3, 1) := by decide +kernel
theorem dL_does_62 : decode cL_does 62 = .ok (.invokevirtual 21, 3) := by decide +kernel
theorem dL_does_65 : decode cL_does 65 = .ok (.goto 162, 3) := by decide +kernel
theorem dL_does_68 : decode cL_does 68 = .ok (.iload_n 1, 1) := by decide +kernel
theorem dL_does_69 : decode cL_does 69 = .ok (.iconst 4, 1) := by decide +kernel
theorem dL_does_70 : decode cL_does 70 = .ok (.if_icmp .ne 25, 3) := by decide +kernel
theorem dL_does_73 : decode cL_does 73 = .ok (.aload_n 0, 1) := by decide +kernel
theorem dL_does_74 : decode cL_does 74 = .ok (.iload_n 2, 1) := by decide +kernel
theorem dL_does_75 : decode cL_does 75 = .ok (.iload_n 3, 1) := by decide +kernel
theorem dL_does_76 : decode cL_does 76 = .ok (.iload 4, 2) := by decide +kernel
theorem dL_does_78 : decode cL_does 78 = .ok (.iload 5, 2) := by decide +kernel
theorem dL_does_80 : decode cL_does 80 = .ok (.iconst 1, 1) := by decide +kernel
theorem dL_does_81 : decode cL_does 81 = .ok (.if_icmp .ne 7, 3) := by decide +kernel
theorem dL_does_84 : decode cL_does 84 = .ok (.iconst 1, 1) := by decide +kernel
theorem dL_does_85 : decode cL_does 85 = .ok (.goto 4, 3) := by decide +kernel
theorem dL_does_88 : decode cL_does 88 = .ok (.iconst 0, 1) := by decide +kernel
theorem dL_does_89 : decode cL_does 89 = .ok (.invokevirtual 25, 3) := by decide +kernel
theorem dL_does_92 : decode cL_does 92 = .ok (.goto 135, 3) := by decide +kernel
theorem dL_does_95 : decode cL_does 95 = .ok (.iload_n 1, 1) := by decide +kernel
theorem dL_does_96 : decode cL_does 96 = .ok (.iconst 5, 1) := by decide +kernel
theorem dL_does_97 : decode cL_does 97 = .ok (.if_icmp .ne 12, 3) := by decide +kernel
theorem dL_does_100 : decode cL_does 100 = .ok (.aload_n 0, 1) := by decide +kernel
theorem dL_does_101 : decode cL_does 101 = .ok (.iload_n 2, 1) := by decide +kernel
theorem dL_does_102 : decode cL_does 102 = .ok (.iload_n 3, 1) := by decide +kernel
theorem dL_does_103 : decode cL_does 103 = .ok (.invokevirtual 29, 3) := by decide +kernel
theorem dL_does_106 : decode cL_does 106 = .ok (.goto 121, 3) := by decide +kernel
theorem dL_does_109 : decode cL_does 109 = .ok (.iload_n 1, 1) := by decide +kernel
theorem dL_does_110 : decode cL_does 110 = .ok (.bipush 6, 2) := by decide +kernel
theorem dL_does_112 : decode cL_does 112 = .ok (.if_icmp .ne 14, 3) := by decide +kernel
theorem dL_does_115 : decode cL_does 115 = .ok (.aload_n 0, 1) := by decide +kernel
theorem dL_does_116 : decode cL_does 116 = .ok (.iload_n 2, 1) := by decide +kernel
theorem dL_does_117 : decode cL_does 117 = .ok (.iload_n 3, 1) := by decide +kernel
theorem dL_does_118 : decode cL_does 118 = .ok (.iload 4, 2) := by decide +kernel
theorem dL_does_120 : decode cL_does 120 = .ok (.invokevirtual 32, 3) := by decide +kernel
theorem dL_does_123 : decode cL_does 123 = .ok (.goto 104, 3) := by decide +kernel
theorem dL_does_126 : decode cL_does 126 = .ok (.iload_n 1, 1) := by decide +kernel
theorem dL_does_127 : decode cL_does 127 = .ok (.bipush 7, 2) := by decide +kernel
theorem dL_does_129 : decode cL_does 129 = .ok (.if_icmp .ne 16, 3) := by decide +kernel
theorem dL_does_132 : decode cL_does 132 = .ok (.aload_n 0, 1) := by decide +kernel
theorem dL_does_133 : decode cL_does 133 = .ok (.iload_n 2, 1) := by decide +kernel
theorem dL_does_134 : decode cL_does 134 = .ok (.iload_n 3, 1) := by decide +kernel
theorem dL_does_135 : decode cL_does 135 = .ok (.iload 4, 2) := by decide +kernel
theorem dL_does_137 : decode cL_does 137 = .ok (.iload 5, 2) := by decide +kernel
theorem dL_does_139 : decode cL_does 139 = .ok (.invokevirtual 36, 3) := by decide +kernel
theorem dL_does_142 : decode cL_does 142 = .ok (.goto 85, 3) := by decide +kernel
theorem dL_does_145 : decode cL_does 145 = .ok (.iload_n 1, 1) := by decide +kernel
theorem dL_does_146 : decode cL_does 146 = .ok (.bipush 8, 2) := by decide +kernel
theorem dL_does_148 : decode cL_does 148 = .ok (.if_icmp .ne 14, 3) := by decide +kernel
theorem dL_does_151 : decode cL_does 151 = .ok (.aload_n 0, 1) := by decide +kernel
theorem dL_does_152 : decode cL_does 152 = .ok (.iload_n 2, 1) := by decide +kernel
theorem dL_does_153 : decode cL_does 153 = .ok (.iload_n 3, 1) := by decide +kernel
theorem dL_does_154 : decode cL_does 154 = .ok (.iload 4, 2) := by decide +kernel
theorem dL_does_156 : decode cL_does 156 = .ok (.invokevirtual 40, 3) := by decide +kernel
theorem dL_does_159 : decode cL_does 159 = .ok (.goto 68, 3) := by decide +kernel
theorem dL_does_162 : decode cL_does 162 = .ok (.iload_n 1, 1) := by decide +kernel
theorem dL_does_163 : decode cL_does 163 = .ok (.bipush 9, 2) := by decide +kernel
theorem dL_does_165 : decode cL_does 165 = .ok (.if_icmp .ne 14, 3) := by decide +kernel
theorem dL_does_168 : decode cL_does 168 = .ok (.aload_n 0, 1) := by decide +kernel
theorem dL_does_169 : decode cL_does 169 = .ok (.iload_n 2, 1) := by decide +kernel
theorem dL_does_170 : decode cL_does 170 = .ok (.iload_n 3, 1) := by decide +kernel
theorem dL_does_171 : decode cL_does 171 = .ok (.iload 4, 2) := by decide +kernel
theorem dL_does_173 : decode cL_does 173 = .ok (.invokevirtual 43, 3) := by decide +kernel
theorem dL_does_176 : decode cL_does 176 = .ok (.goto 51, 3) := by decide +kernel
theorem dL_does_179 : decode cL_does 179 = .ok (.iload_n 1, 1) := by decide +kernel
theorem dL_does_180 : decode cL_does 180 = .ok (.bipush 10, 2) := by decide +kernel
theorem dL_does_182 : decode cL_does 182 = .ok (.if_icmp .ne 11, 3) := by decide +kernel
theorem dL_does_185 : decode cL_does 185 = .ok (.aload_n 0, 1) := by decide +kernel
theorem dL_does_186 : decode cL_does 186 = .ok (.iload_n 2, 1) := by decide +kernel
theorem dL_does_187 : decode cL_does 187 = .ok (.invokevirtual 46, 3) := by decide +kernel
theorem dL_does_190 : decode cL_does 190 = .ok (.goto 37, 3) := by decide +kernel
theorem dL_does_193 : decode cL_does 193 = .ok (.iload_n 1, 1) := by decide +kernel
theorem dL_does_194 : decode cL_does 194 = .ok (.bipush 11, 2) := by decide +kernel
theorem dL_does_196 : decode cL_does 196 = .ok (.if_icmp .ne 12, 3) := by decide +kernel
theorem dL_does_199 : decode cL_does 199 = .ok (.aload_n 0, 1) := by decide +kernel
theorem dL_does_200 : decode cL_does 200 = .ok (.iload_n 2, 1) := by decide +kernel
theorem dL_does_201 : decode cL_does 201 = .ok (.iload_n 3, 1) := by decide +kernel
theorem dL_does_202 : decode cL_does 202 = .ok (.invokevirtual 49, 3) := by decide +kernel
theorem dL_does_205 : decode cL_does 205 = .ok (.goto 22, 3) := by decide +kernel
theorem dL_does_208 : decode cL_does 208 = .ok (.iload_n 1, 1) := by decide +kernel
theorem dL_does_209 : decode cL_does 209 = .ok (.bipush 12, 2) := by decide +kernel
theorem dL_does_211 : decode cL_does 211 = .ok (.if_icmp .ne 10, 3) := by decide +kernel
theorem dL_does_214 : decode cL_does 214 = .ok (.aload_n 0, 1) := by decide +kernel
theorem dL_does_215 : decode cL_does 215 = .ok (.invokevirtual 52, 3) := by decide +kernel
theorem dL_does_218 : decode cL_does 218 = .ok (.goto 9, 3) := by decide +kernel
theorem dL_does_221 : decode cL_does 221 = .ok (.aload_n 0, 1) := by decide +kernel
theorem dL_does_222 : decode cL_does 222 = .ok (.iload_n 2, 1) := by decide +kernel
theorem dL_does_223 : decode cL_does 223 = .ok (.iload_n 3, 1) := by decide +kernel
theorem dL_does_224 : decode cL_does 224 = .ok (.invokevirtual 56, 3) := by decide +kernel
theorem dL_does_227 : decode cL_does 227 = .ok (.ireturn, 1) := by decide +kernel
theorem dL_does_228 : decode cL_does 228 = .ok (.astore 7, 2) := by decide +kernel
theorem dL_does_230 : decode cL_does 230 = .ok (.ldc 61, 2) := by decide +kernel
theorem dL_does_232 : decode cL_does 232 = .ok (.ireturn, 1) := by decide +kernel
theorem dL_does_233 : decode cL_does 233 = .ok (.astore 7, 2) := by decide +kernel
theorem dL_does_235 : decode cL_does 235 = .ok (.ldc 64, 2) := by decide +kernel
theorem dL_does_237 : decode cL_does 237 = .ok (.ireturn, 1) := by decide +kernel
theorem dL_does_238 : decode cL_does 238 = .ok (.astore 7, 2) := by decide +kernel
theorem dL_does_240 : decode cL_does 240 = .ok (.ldc 67, 2) := by decide +kernel
theorem dL_does_242 : decode cL_does 242 = .ok (.ireturn, 1) := by decide +kernel
theorem dL_of_0 : decode cL_of 0 = .ok (.iload_n 1, 1) := by decide +kernel
theorem dL_of_1 : decode cL_of 1 = .ok (.ifCond .ne 10, 3) := by decide +kernel
theorem dL_of_4 : decode cL_of 4 = .ok (.iload_n 0, 1) := by decide +kernel
theorem dL_of_5 : decode cL_of 5 = .ok (.bipush 108, 2) := by decide +kernel
theorem dL_of_7 : decode cL_of 7 = .ok (.idiv, 1) := by decide +kernel
theorem dL_of_8 : decode cL_of 8 = .ok (.goto 35, 3) := by decide +kernel
theorem dL_of_11 : decode cL_of 11 = .ok (.iload_n 1, 1) := by decide +kernel
theorem dL_of_12 : decode cL_of 12 = .ok (.iconst 1, 1) := by decide +kernel
theorem dL_of_13 : decode cL_of 13 = .ok (.if_icmp .ne 13, 3) := by decide +kernel
theorem dL_of_16 : decode cL_of 16 = .ok (.iload_n 0, 1) := by decide +kernel
theorem dL_of_17 : decode cL_of 17 = .ok (.bipush 108, 2) := by decide +kernel
theorem dL_of_19 : decode cL_of 19 = .ok (.irem, 1) := by decide +kernel
theorem dL_of_20 : decode cL_of 20 = .ok (.bipush 27, 2) := by decide +kernel
theorem dL_of_22 : decode cL_of 22 = .ok (.idiv, 1) := by decide +kernel
theorem dL_of_23 : decode cL_of 23 = .ok (.goto 20, 3) := by decide +kernel
theorem dL_of_26 : decode cL_of 26 = .ok (.iload_n 1, 1) := by decide +kernel
theorem dL_of_27 : decode cL_of 27 = .ok (.iconst 2, 1) := by decide +kernel
theorem dL_of_28 : decode cL_of 28 = .ok (.if_icmp .ne 12, 3) := by decide +kernel
theorem dL_of_31 : decode cL_of 31 = .ok (.iload_n 0, 1) := by decide +kernel
theorem dL_of_32 : decode cL_of 32 = .ok (.bipush 27, 2) := by decide +kernel
theorem dL_of_34 : decode cL_of 34 = .ok (.irem, 1) := by decide +kernel
theorem dL_of_35 : decode cL_of 35 = .ok (.iconst 3, 1) := by decide +kernel
theorem dL_of_36 : decode cL_of 36 = .ok (.idiv, 1) := by decide +kernel
theorem dL_of_37 : decode cL_of 37 = .ok (.goto 6, 3) := by decide +kernel
theorem dL_of_40 : decode cL_of 40 = .ok (.iload_n 0, 1) := by decide +kernel
theorem dL_of_41 : decode cL_of 41 = .ok (.iconst 3, 1) := by decide +kernel
theorem dL_of_42 : decode cL_of 42 = .ok (.irem, 1) := by decide +kernel
theorem dL_of_43 : decode cL_of 43 = .ok (.ireturn, 1) := by decide +kernel
theorem dL_speaks_0 : decode cL_speaks 0 = .ok (.aload_n 0, 1) := by decide +kernel
theorem dL_speaks_1 : decode cL_speaks 1 = .ok (.iconst 4, 1) := by decide +kernel
theorem dL_speaks_2 : decode cL_speaks 2 = .ok (.iload 4, 2) := by decide +kernel
theorem dL_speaks_4 : decode cL_speaks 4 = .ok (.imul, 1) := by decide +kernel
theorem dL_speaks_5 : decode cL_speaks 5 = .ok (.iload 5, 2) := by decide +kernel
theorem dL_speaks_7 : decode cL_speaks 7 = .ok (.iadd, 1) := by decide +kernel
theorem dL_speaks_8 : decode cL_speaks 8 = .ok (.iaload, 1) := by decide +kernel
theorem dL_speaks_9 : decode cL_speaks 9 = .ok (.istore 6, 2) := by decide +kernel
theorem dL_speaks_11 : decode cL_speaks 11 = .ok (.iconst 0, 1) := by decide +kernel
theorem dL_speaks_12 : decode cL_speaks 12 = .ok (.istore 7, 2) := by decide +kernel
theorem dL_speaks_14 : decode cL_speaks 14 = .ok (.iload 7, 2) := by decide +kernel
theorem dL_speaks_16 : decode cL_speaks 16 = .ok (.iload_n 3, 1) := by decide +kernel
theorem dL_speaks_17 : decode cL_speaks 17 = .ok (.iconst 3, 1) := by decide +kernel
theorem dL_speaks_18 : decode cL_speaks 18 = .ok (.if_icmp .ne 7, 3) := by decide +kernel
theorem dL_speaks_21 : decode cL_speaks 21 = .ok (.iconst 0, 1) := by decide +kernel
theorem dL_speaks_22 : decode cL_speaks 22 = .ok (.goto 9, 3) := by decide +kernel
theorem dL_speaks_25 : decode cL_speaks 25 = .ok (.aload_n 2, 1) := by decide +kernel
theorem dL_speaks_26 : decode cL_speaks 26 = .ok (.bipush 18, 2) := by decide +kernel
theorem dL_speaks_28 : decode cL_speaks 28 = .ok (.iload_n 3, 1) := by decide +kernel
theorem dL_speaks_29 : decode cL_speaks 29 = .ok (.iadd, 1) := by decide +kernel
theorem dL_speaks_30 : decode cL_speaks 30 = .ok (.iaload, 1) := by decide +kernel
theorem dL_speaks_31 : decode cL_speaks 31 = .ok (.if_icmp .ge 136, 3) := by decide +kernel
theorem dL_speaks_34 : decode cL_speaks 34 = .ok (.aload_n 2, 1) := by decide +kernel
theorem dL_speaks_35 : decode cL_speaks 35 = .ok (.bipush 6, 2) := by decide +kernel
theorem dL_speaks_37 : decode cL_speaks 37 = .ok (.iload_n 3, 1) := by decide +kernel
theorem dL_speaks_38 : decode cL_speaks 38 = .ok (.imul, 1) := by decide +kernel
theorem dL_speaks_39 : decode cL_speaks 39 = .ok (.iload 7, 2) := by decide +kernel
theorem dL_speaks_41 : decode cL_speaks 41 = .ok (.iadd, 1) := by decide +kernel
theorem dL_speaks_42 : decode cL_speaks 42 = .ok (.iaload, 1) := by decide +kernel
theorem dL_speaks_43 : decode cL_speaks 43 = .ok (.istore 8, 2) := by decide +kernel
theorem dL_speaks_45 : decode cL_speaks 45 = .ok (.iload 8, 2) := by decide +kernel
theorem dL_speaks_47 : decode cL_speaks 47 = .ok (.iconst 4, 1) := by decide +kernel
theorem dL_speaks_48 : decode cL_speaks 48 = .ok (.irem, 1) := by decide +kernel
theorem dL_speaks_49 : decode cL_speaks 49 = .ok (.istore 9, 2) := by decide +kernel
theorem dL_speaks_51 : decode cL_speaks 51 = .ok (.iload 9, 2) := by decide +kernel
theorem dL_speaks_53 : decode cL_speaks 53 = .ok (.ifCond .ne 8, 3) := by decide +kernel
theorem dL_speaks_56 : decode cL_speaks 56 = .ok (.bipush 108, 2) := by decide +kernel
theorem dL_speaks_58 : decode cL_speaks 58 = .ok (.goto 25, 3) := by decide +kernel
theorem dL_speaks_61 : decode cL_speaks 61 = .ok (.iload 9, 2) := by decide +kernel
theorem dL_speaks_63 : decode cL_speaks 63 = .ok (.iconst 1, 1) := by decide +kernel
theorem dL_speaks_64 : decode cL_speaks 64 = .ok (.if_icmp .ne 8, 3) := by decide +kernel
theorem dL_speaks_67 : decode cL_speaks 67 = .ok (.bipush 27, 2) := by decide +kernel
theorem dL_speaks_69 : decode cL_speaks 69 = .ok (.goto 14, 3) := by decide +kernel
theorem dL_speaks_72 : decode cL_speaks 72 = .ok (.iload 9, 2) := by decide +kernel
theorem dL_speaks_74 : decode cL_speaks 74 = .ok (.iconst 2, 1) := by decide +kernel
theorem dL_speaks_75 : decode cL_speaks 75 = .ok (.if_icmp .ne 7, 3) := by decide +kernel
theorem dL_speaks_78 : decode cL_speaks 78 = .ok (.iconst 3, 1) := by decide +kernel
theorem dL_speaks_79 : decode cL_speaks 79 = .ok (.goto 4, 3) := by decide +kernel
theorem dL_speaks_82 : decode cL_speaks 82 = .ok (.iconst 1, 1) := by decide +kernel
theorem dL_speaks_83 : decode cL_speaks 83 = .ok (.istore 10, 2) := by decide +kernel
theorem dL_speaks_85 : decode cL_speaks 85 = .ok (.iload 8, 2) := by decide +kernel
theorem dL_speaks_87 : decode cL_speaks 87 = .ok (.sipush 1024, 3) := by decide +kernel
theorem dL_speaks_90 : decode cL_speaks 90 = .ok (.if_icmp .lt 14, 3) := by decide +kernel
theorem dL_speaks_93 : decode cL_speaks 93 = .ok (.iload 5, 2) := by decide +kernel
theorem dL_speaks_95 : decode cL_speaks 95 = .ok (.aload_n 1, 1) := by decide +kernel
theorem dL_speaks_96 : decode cL_speaks 96 = .ok (.iload 4, 2) := by decide +kernel
theorem dL_speaks_98 : decode cL_speaks 98 = .ok (.iaload, 1) := by decide +kernel
theorem dL_speaks_99 : decode cL_speaks 99 = .ok (.iconst 1, 1) := by decide +kernel
theorem dL_speaks_100 : decode cL_speaks 100 = .ok (.isub, 1) := by decide +kernel
theorem dL_speaks_101 : decode cL_speaks 101 = .ok (.if_icmp .ne 7, 3) := by decide +kernel
theorem dL_speaks_104 : decode cL_speaks 104 = .ok (.iconst 1, 1) := by decide +kernel
theorem dL_speaks_105 : decode cL_speaks 105 = .ok (.goto 4, 3) := by decide +kernel
theorem dL_speaks_108 : decode cL_speaks 108 = .ok (.iconst 0, 1) := by decide +kernel
theorem dL_speaks_109 : decode cL_speaks 109 = .ok (.istore 11, 2) := by decide +kernel
theorem dL_speaks_111 : decode cL_speaks 111 = .ok (.iload 6, 2) := by decide +kernel
theorem dL_speaks_113 : decode cL_speaks 113 = .ok (.iload 11, 2) := by decide +kernel
theorem dL_speaks_115 : decode cL_speaks 115 = .ok (.ifCond .eq 42, 3) := by decide +kernel
theorem dL_speaks_118 : decode cL_speaks 118 = .ok (.iload 6, 2) := by decide +kernel
theorem dL_speaks_120 : decode cL_speaks 120 = .ok (.iload 9, 2) := by decide +kernel
theorem dL_speaks_122 : decode cL_speaks 122 = .ok (.invokestatic 68, 3) := by decide +kernel
theorem dL_speaks_125 : decode cL_speaks 125 = .ok (.iload 8, 2) := by decide +kernel
theorem dL_speaks_127 : decode cL_speaks 127 = .ok (.iconst 4, 1) := by decide +kernel
theorem dL_speaks_128 : decode cL_speaks 128 = .ok (.idiv, 1) := by decide +kernel
theorem dL_speaks_129 : decode cL_speaks 129 = .ok (.bipush 16, 2) := by decide +kernel
theorem dL_speaks_131 : decode cL_speaks 131 = .ok (.irem, 1) := by decide +kernel
theorem dL_speaks_132 : decode cL_speaks 132 = .ok (.if_icmp .ne 25, 3) := by decide +kernel
theorem dL_speaks_135 : decode cL_speaks 135 = .ok (.iload 8, 2) := by decide +kernel
theorem dL_speaks_137 : decode cL_speaks 137 = .ok (.bipush 64, 2) := by decide +kernel
theorem dL_speaks_139 : decode cL_speaks 139 = .ok (.idiv, 1) := by decide +kernel
theorem dL_speaks_140 : decode cL_speaks 140 = .ok (.bipush 16, 2) := by decide +kernel
theorem dL_speaks_142 : decode cL_speaks 142 = .ok (.irem, 1) := by decide +kernel
theorem dL_speaks_143 : decode cL_speaks 143 = .ok (.iload 8, 2) := by decide +kernel
theorem dL_speaks_145 : decode cL_speaks 145 = .ok (.iconst 4, 1) := by decide +kernel
theorem dL_speaks_146 : decode cL_speaks 146 = .ok (.idiv, 1) := by decide +kernel
theorem dL_speaks_147 : decode cL_speaks 147 = .ok (.bipush 16, 2) := by decide +kernel
theorem dL_speaks_149 : decode cL_speaks 149 = .ok (.irem, 1) := by decide +kernel
theorem dL_speaks_150 : decode cL_speaks 150 = .ok (.isub, 1) := by decide +kernel
theorem dL_speaks_151 : decode cL_speaks 151 = .ok (.iload 10, 2) := by decide +kernel
theorem dL_speaks_153 : decode cL_speaks 153 = .ok (.imul, 1) := by decide +kernel
theorem dL_speaks_154 : decode cL_speaks 154 = .ok (.goto 4, 3) := by decide +kernel
theorem dL_speaks_157 : decode cL_speaks 157 = .ok (.iconst 0, 1) := by decide +kernel
theorem dL_speaks_158 : decode cL_speaks 158 = .ok (.iadd, 1) := by decide +kernel
theorem dL_speaks_159 : decode cL_speaks 159 = .ok (.istore 6, 2) := by decide +kernel
theorem dL_speaks_161 : decode cL_speaks 161 = .ok (.iinc 7 1, 3) := by decide +kernel
theorem dL_speaks_164 : decode cL_speaks 164 = .ok (.goto (-150), 3) := by decide +kernel
theorem dL_speaks_167 : decode cL_speaks 167 = .ok (.iload 6, 2) := by decide +kernel
theorem dL_speaks_169 : decode cL_speaks 169 = .ok (.ireturn, 1) := by decide +kernel
theorem dL_spells_0 : decode cL_spells 0 = .ok (.iload_n 1, 1) := by decide +kernel
theorem dL_spells_1 : decode cL_spells 1 = .ok (.iconst 0, 1) := by decide +kernel
theorem dL_spells_2 : decode cL_spells 2 = .ok (.invokestatic 68, 3) := by decide +kernel
theorem dL_spells_5 : decode cL_spells 5 = .ok (.istore_n 2, 1) := by decide +kernel
theorem dL_spells_6 : decode cL_spells 6 = .ok (.iload_n 1, 1) := by decide +kernel
theorem dL_spells_7 : decode cL_spells 7 = .ok (.iconst 1, 1) := by decide +kernel
theorem dL_spells_8 : decode cL_spells 8 = .ok (.invokestatic 68, 3) := by decide +kernel
theorem dL_spells_11 : decode cL_spells 11 = .ok (.istore_n 3, 1) := by decide +kernel
theorem dL_spells_12 : decode cL_spells 12 = .ok (.iload_n 1, 1) := by decide +kernel
theorem dL_spells_13 : decode cL_spells 13 = .ok (.iconst 2, 1) := by decide +kernel
theorem dL_spells_14 : decode cL_spells 14 = .ok (.invokestatic 68, 3) := by decide +kernel
theorem dL_spells_17 : decode cL_spells 17 = .ok (.istore 4, 2) := by decide +kernel
theorem dL_spells_19 : decode cL_spells 19 = .ok (.aload_n 0, 1) := by decide +kernel
theorem dL_spells_20 : decode cL_spells 20 = .ok (.bipush 47, 2) := by decide +kernel
theorem dL_spells_22 : decode cL_spells 22 = .ok (.iaload, 1) := by decide +kernel
theorem dL_spells_23 : decode cL_spells 23 = .ok (.ifCond .ne 7, 3) := by decide +kernel
theorem dL_spells_26 : decode cL_spells 26 = .ok (.iconst 1, 1) := by decide +kernel
theorem dL_spells_27 : decode cL_spells 27 = .ok (.goto 4, 3) := by decide +kernel
theorem dL_spells_30 : decode cL_spells 30 = .ok (.iconst 0, 1) := by decide +kernel
theorem dL_spells_31 : decode cL_spells 31 = .ok (.istore 5, 2) := by decide +kernel
theorem dL_spells_33 : decode cL_spells 33 = .ok (.lconst 0, 1) := by decide +kernel
theorem dL_spells_34 : decode cL_spells 34 = .ok (.lstore 6, 2) := by decide +kernel
theorem dL_spells_36 : decode cL_spells 36 = .ok (.iload 4, 2) := by decide +kernel
theorem dL_spells_38 : decode cL_spells 38 = .ok (.bipush 8, 2) := by decide +kernel
theorem dL_spells_40 : decode cL_spells 40 = .ok (.if_icmp .ge 25, 3) := by decide +kernel
theorem dL_spells_43 : decode cL_spells 43 = .ok (.aload_n 0, 1) := by decide +kernel
theorem dL_spells_44 : decode cL_spells 44 = .ok (.iload 5, 2) := by decide +kernel
theorem dL_spells_46 : decode cL_spells 46 = .ok (.ifCond .eq 8, 3) := by decide +kernel
theorem dL_spells_49 : decode cL_spells 49 = .ok (.iload 4, 2) := by decide +kernel
theorem dL_spells_51 : decode cL_spells 51 = .ok (.goto 8, 3) := by decide +kernel
theorem dL_spells_54 : decode cL_spells 54 = .ok (.bipush 36, 2) := by decide +kernel
theorem dL_spells_56 : decode cL_spells 56 = .ok (.iload 4, 2) := by decide +kernel
theorem dL_spells_58 : decode cL_spells 58 = .ok (.iadd, 1) := by decide +kernel
theorem dL_spells_59 : decode cL_spells 59 = .ok (.iaload, 1) := by decide +kernel
theorem dL_spells_60 : decode cL_spells 60 = .ok (.iconst 1, 1) := by decide +kernel
theorem dL_spells_61 : decode cL_spells 61 = .ok (.iadd, 1) := by decide +kernel
theorem dL_spells_62 : decode cL_spells 62 = .ok (.i2l, 1) := by decide +kernel
theorem dL_spells_63 : decode cL_spells 63 = .ok (.lstore 6, 2) := by decide +kernel
theorem dL_spells_65 : decode cL_spells 65 = .ok (.aload_n 0, 1) := by decide +kernel
theorem dL_spells_66 : decode cL_spells 66 = .ok (.bipush 49, 2) := by decide +kernel
theorem dL_spells_68 : decode cL_spells 68 = .ok (.iaload, 1) := by decide +kernel
theorem dL_spells_69 : decode cL_spells 69 = .ok (.iload_n 1, 1) := by decide +kernel
theorem dL_spells_70 : decode cL_spells 70 = .ok (.iconst 3, 1) := by decide +kernel
theorem dL_spells_71 : decode cL_spells 71 = .ok (.invokestatic 68, 3) := by decide +kernel
theorem dL_spells_74 : decode cL_spells 74 = .ok (.ishr, 1) := by decide +kernel
theorem dL_spells_75 : decode cL_spells 75 = .ok (.iconst 1, 1) := by decide +kernel
theorem dL_spells_76 : decode cL_spells 76 = .ok (.iand, 1) := by decide +kernel
theorem dL_spells_77 : decode cL_spells 77 = .ok (.iconst 1, 1) := by decide +kernel
theorem dL_spells_78 : decode cL_spells 78 = .ok (.if_icmp .ne 25, 3) := by decide +kernel
theorem dL_spells_81 : decode cL_spells 81 = .ok (.lload 6, 2) := by decide +kernel
theorem dL_spells_83 : decode cL_spells 83 = .ok (.ldc2_w 73, 3) := by decide +kernel
theorem dL_spells_86 : decode cL_spells 86 = .ok (.lmul, 1) := by decide +kernel
theorem dL_spells_87 : decode cL_spells 87 = .ok (.aload_n 0, 1) := by decide +kernel
theorem dL_spells_88 : decode cL_spells 88 = .ok (.bipush 44, 2) := by decide +kernel
theorem dL_spells_90 : decode cL_spells 90 = .ok (.iload_n 1, 1) := by decide +kernel
theorem dL_spells_91 : decode cL_spells 91 = .ok (.iconst 3, 1) := by decide +kernel
theorem dL_spells_92 : decode cL_spells 92 = .ok (.invokestatic 68, 3) := by decide +kernel
theorem dL_spells_95 : decode cL_spells 95 = .ok (.iadd, 1) := by decide +kernel
theorem dL_spells_96 : decode cL_spells 96 = .ok (.iaload, 1) := by decide +kernel
theorem dL_spells_97 : decode cL_spells 97 = .ok (.i2l, 1) := by decide +kernel
theorem dL_spells_98 : decode cL_spells 98 = .ok (.ladd, 1) := by decide +kernel
theorem dL_spells_99 : decode cL_spells 99 = .ok (.lconst 1, 1) := by decide +kernel
theorem dL_spells_100 : decode cL_spells 100 = .ok (.ladd, 1) := by decide +kernel
theorem dL_spells_101 : decode cL_spells 101 = .ok (.lstore 6, 2) := by decide +kernel
theorem dL_spells_103 : decode cL_spells 103 = .ok (.lload 6, 2) := by decide +kernel
theorem dL_spells_105 : decode cL_spells 105 = .ok (.ldc2_w 73, 3) := by decide +kernel
theorem dL_spells_108 : decode cL_spells 108 = .ok (.lmul, 1) := by decide +kernel
theorem dL_spells_109 : decode cL_spells 109 = .ok (.aload_n 0, 1) := by decide +kernel
theorem dL_spells_110 : decode cL_spells 110 = .ok (.iload 5, 2) := by decide +kernel
theorem dL_spells_112 : decode cL_spells 112 = .ok (.ifCond .eq 10, 3) := by decide +kernel
theorem dL_spells_115 : decode cL_spells 115 = .ok (.bipush 8, 2) := by decide +kernel
theorem dL_spells_117 : decode cL_spells 117 = .ok (.iload_n 3, 1) := by decide +kernel
theorem dL_spells_118 : decode cL_spells 118 = .ok (.iadd, 1) := by decide +kernel
theorem dL_spells_119 : decode cL_spells 119 = .ok (.goto 8, 3) := by decide +kernel
theorem dL_spells_122 : decode cL_spells 122 = .ok (.iconst 4, 1) := by decide +kernel
theorem dL_spells_123 : decode cL_spells 123 = .ok (.iload_n 2, 1) := by decide +kernel
theorem dL_spells_124 : decode cL_spells 124 = .ok (.imul, 1) := by decide +kernel
theorem dL_spells_125 : decode cL_spells 125 = .ok (.iload_n 3, 1) := by decide +kernel
theorem dL_spells_126 : decode cL_spells 126 = .ok (.iadd, 1) := by decide +kernel
theorem dL_spells_127 : decode cL_spells 127 = .ok (.iaload, 1) := by decide +kernel
theorem dL_spells_128 : decode cL_spells 128 = .ok (.i2l, 1) := by decide +kernel
theorem dL_spells_129 : decode cL_spells 129 = .ok (.ladd, 1) := by decide +kernel
theorem dL_spells_130 : decode cL_spells 130 = .ok (.lconst 1, 1) := by decide +kernel
theorem dL_spells_131 : decode cL_spells 131 = .ok (.ladd, 1) := by decide +kernel
theorem dL_spells_132 : decode cL_spells 132 = .ok (.lstore 6, 2) := by decide +kernel
theorem dL_spells_134 : decode cL_spells 134 = .ok (.iload 5, 2) := by decide +kernel
theorem dL_spells_136 : decode cL_spells 136 = .ok (.ifCond .eq 25, 3) := by decide +kernel
theorem dL_spells_139 : decode cL_spells 139 = .ok (.iload_n 2, 1) := by decide +kernel
theorem dL_spells_140 : decode cL_spells 140 = .ok (.bipush 8, 2) := by decide +kernel
theorem dL_spells_142 : decode cL_spells 142 = .ok (.if_icmp .ge 19, 3) := by decide +kernel
theorem dL_spells_145 : decode cL_spells 145 = .ok (.lload 6, 2) := by decide +kernel
theorem dL_spells_147 : decode cL_spells 147 = .ok (.ldc2_w 73, 3) := by decide +kernel
theorem dL_spells_150 : decode cL_spells 150 = .ok (.lmul, 1) := by decide +kernel
theorem dL_spells_151 : decode cL_spells 151 = .ok (.aload_n 0, 1) := by decide +kernel
theorem dL_spells_152 : decode cL_spells 152 = .ok (.iload_n 2, 1) := by decide +kernel
theorem dL_spells_153 : decode cL_spells 153 = .ok (.iaload, 1) := by decide +kernel
theorem dL_spells_154 : decode cL_spells 154 = .ok (.i2l, 1) := by decide +kernel
theorem dL_spells_155 : decode cL_spells 155 = .ok (.ladd, 1) := by decide +kernel
theorem dL_spells_156 : decode cL_spells 156 = .ok (.lconst 1, 1) := by decide +kernel
theorem dL_spells_157 : decode cL_spells 157 = .ok (.ladd, 1) := by decide +kernel
theorem dL_spells_158 : decode cL_spells 158 = .ok (.goto 5, 3) := by decide +kernel
theorem dL_spells_161 : decode cL_spells 161 = .ok (.lload 6, 2) := by decide +kernel
theorem dL_spells_163 : decode cL_spells 163 = .ok (.lreturn, 1) := by decide +kernel
theorem dL_signs_0 : decode cL_signs 0 = .ok (.iconst 0, 1) := by decide +kernel
theorem dL_signs_1 : decode cL_signs 1 = .ok (.istore_n 2, 1) := by decide +kernel
theorem dL_signs_2 : decode cL_signs 2 = .ok (.iload_n 2, 1) := by decide +kernel
theorem dL_signs_3 : decode cL_signs 3 = .ok (.bipush 10, 2) := by decide +kernel
theorem dL_signs_5 : decode cL_signs 5 = .ok (.if_icmp .ge 20, 3) := by decide +kernel
theorem dL_signs_8 : decode cL_signs 8 = .ok (.lload_n 0, 1) := by decide +kernel
theorem dL_signs_9 : decode cL_signs 9 = .ok (.bipush 6, 2) := by decide +kernel
theorem dL_signs_11 : decode cL_signs 11 = .ok (.iload_n 2, 1) := by decide +kernel
theorem dL_signs_12 : decode cL_signs 12 = .ok (.imul, 1) := by decide +kernel
theorem dL_signs_13 : decode cL_signs 13 = .ok (.lshr, 1) := by decide +kernel
theorem dL_signs_14 : decode cL_signs 14 = .ok (.lconst 0, 1) := by decide +kernel
theorem dL_signs_15 : decode cL_signs 15 = .ok (.lcmp, 1) := by decide +kernel
theorem dL_signs_16 : decode cL_signs 16 = .ok (.ifCond .le 9, 3) := by decide +kernel
theorem dL_signs_19 : decode cL_signs 19 = .ok (.iinc 2 1, 3) := by decide +kernel
theorem dL_signs_22 : decode cL_signs 22 = .ok (.goto (-20), 3) := by decide +kernel
theorem dL_signs_25 : decode cL_signs 25 = .ok (.iload_n 2, 1) := by decide +kernel
theorem dL_signs_26 : decode cL_signs 26 = .ok (.ireturn, 1) := by decide +kernel
theorem dL_spellsAll_0 : decode cL_spellsAll 0 = .ok (.iconst 0, 1) := by decide +kernel
theorem dL_spellsAll_1 : decode cL_spellsAll 1 = .ok (.istore 7, 2) := by decide +kernel
theorem dL_spellsAll_3 : decode cL_spellsAll 3 = .ok (.iload 7, 2) := by decide +kernel
theorem dL_spellsAll_5 : decode cL_spellsAll 5 = .ok (.aload 4, 2) := by decide +kernel
theorem dL_spellsAll_7 : decode cL_spellsAll 7 = .ok (.iconst 0, 1) := by decide +kernel
theorem dL_spellsAll_8 : decode cL_spellsAll 8 = .ok (.iaload, 1) := by decide +kernel
theorem dL_spellsAll_9 : decode cL_spellsAll 9 = .ok (.if_icmp .ge 118, 3) := by decide +kernel
theorem dL_spellsAll_12 : decode cL_spellsAll 12 = .ok (.aload 6, 2) := by decide +kernel
theorem dL_spellsAll_14 : decode cL_spellsAll 14 = .ok (.iconst 2, 1) := by decide +kernel
theorem dL_spellsAll_15 : decode cL_spellsAll 15 = .ok (.iload 7, 2) := by decide +kernel
theorem dL_spellsAll_17 : decode cL_spellsAll 17 = .ok (.imul, 1) := by decide +kernel
theorem dL_spellsAll_18 : decode cL_spellsAll 18 = .ok (.lconst 0, 1) := by decide +kernel
theorem dL_spellsAll_19 : decode cL_spellsAll 19 = .ok (.lastore, 1) := by decide +kernel
theorem dL_spellsAll_20 : decode cL_spellsAll 20 = .ok (.aload 6, 2) := by decide +kernel
theorem dL_spellsAll_22 : decode cL_spellsAll 22 = .ok (.iconst 2, 1) := by decide +kernel
theorem dL_spellsAll_23 : decode cL_spellsAll 23 = .ok (.iload 7, 2) := by decide +kernel
theorem dL_spellsAll_25 : decode cL_spellsAll 25 = .ok (.imul, 1) := by decide +kernel
theorem dL_spellsAll_26 : decode cL_spellsAll 26 = .ok (.iconst 1, 1) := by decide +kernel
theorem dL_spellsAll_27 : decode cL_spellsAll 27 = .ok (.iadd, 1) := by decide +kernel
theorem dL_spellsAll_28 : decode cL_spellsAll 28 = .ok (.lconst 0, 1) := by decide +kernel
theorem dL_spellsAll_29 : decode cL_spellsAll 29 = .ok (.lastore, 1) := by decide +kernel
theorem dL_spellsAll_30 : decode cL_spellsAll 30 = .ok (.iconst 0, 1) := by decide +kernel
theorem dL_spellsAll_31 : decode cL_spellsAll 31 = .ok (.istore 8, 2) := by decide +kernel
theorem dL_spellsAll_33 : decode cL_spellsAll 33 = .ok (.iconst 0, 1) := by decide +kernel
theorem dL_spellsAll_34 : decode cL_spellsAll 34 = .ok (.istore 9, 2) := by decide +kernel
theorem dL_spellsAll_36 : decode cL_spellsAll 36 = .ok (.iload 9, 2) := by decide +kernel
theorem dL_spellsAll_38 : decode cL_spellsAll 38 = .ok (.aload_n 1, 1) := by decide +kernel
theorem dL_spellsAll_39 : decode cL_spellsAll 39 = .ok (.iload 7, 2) := by decide +kernel
theorem dL_spellsAll_41 : decode cL_spellsAll 41 = .ok (.iaload, 1) := by decide +kernel
theorem dL_spellsAll_42 : decode cL_spellsAll 42 = .ok (.if_icmp .ge 79, 3) := by decide +kernel
theorem dL_spellsAll_45 : decode cL_spellsAll 45 = .ok (.aload_n 3, 1) := by decide +kernel
theorem dL_spellsAll_46 : decode cL_spellsAll 46 = .ok (.aload_n 0, 1) := by decide +kernel
theorem dL_spellsAll_47 : decode cL_spellsAll 47 = .ok (.aload_n 1, 1) := by decide +kernel
theorem dL_spellsAll_48 : decode cL_spellsAll 48 = .ok (.aload_n 2, 1) := by decide +kernel
theorem dL_spellsAll_49 : decode cL_spellsAll 49 = .ok (.iload 5, 2) := by decide +kernel
theorem dL_spellsAll_51 : decode cL_spellsAll 51 = .ok (.iload 7, 2) := by decide +kernel
theorem dL_spellsAll_53 : decode cL_spellsAll 53 = .ok (.iload 9, 2) := by decide +kernel
theorem dL_spellsAll_55 : decode cL_spellsAll 55 = .ok (.invokestatic 75, 3) := by decide +kernel
theorem dL_spellsAll_58 : decode cL_spellsAll 58 = .ok (.invokestatic 79, 3) := by decide +kernel
theorem dL_spellsAll_61 : decode cL_spellsAll 61 = .ok (.lstore 10, 2) := by decide +kernel
theorem dL_spellsAll_63 : decode cL_spellsAll 63 = .ok (.lload 10, 2) := by decide +kernel
theorem dL_spellsAll_65 : decode cL_spellsAll 65 = .ok (.lconst 0, 1) := by decide +kernel
theorem dL_spellsAll_66 : decode cL_spellsAll 66 = .ok (.lcmp, 1) := by decide +kernel
theorem dL_spellsAll_67 : decode cL_spellsAll 67 = .ok (.ifCond .le 48, 3) := by decide +kernel
theorem dL_spellsAll_70 : decode cL_spellsAll 70 = .ok (.aload 6, 2) := by decide +kernel
theorem dL_spellsAll_72 : decode cL_spellsAll 72 = .ok (.iconst 2, 1) := by decide +kernel
theorem dL_spellsAll_73 : decode cL_spellsAll 73 = .ok (.iload 7, 2) := by decide +kernel
theorem dL_spellsAll_75 : decode cL_spellsAll 75 = .ok (.imul, 1) := by decide +kernel
theorem dL_spellsAll_76 : decode cL_spellsAll 76 = .ok (.iload 8, 2) := by decide +kernel
theorem dL_spellsAll_78 : decode cL_spellsAll 78 = .ok (.bipush 8, 2) := by decide +kernel
theorem dL_spellsAll_80 : decode cL_spellsAll 80 = .ok (.idiv, 1) := by decide +kernel
theorem dL_spellsAll_81 : decode cL_spellsAll 81 = .ok (.iadd, 1) := by decide +kernel
theorem dL_spellsAll_82 : decode cL_spellsAll 82 = .ok (.dup2, 1) := by decide +kernel
theorem dL_spellsAll_83 : decode cL_spellsAll 83 = .ok (.laload, 1) := by decide +kernel
theorem dL_spellsAll_84 : decode cL_spellsAll 84 = .ok (.lload 10, 2) := by decide +kernel
theorem dL_spellsAll_86 : decode cL_spellsAll 86 = .ok (.ldc2_w 73, 3) := by decide +kernel
theorem dL_spellsAll_89 : decode cL_spellsAll 89 = .ok (.lrem, 1) := by decide +kernel
theorem dL_spellsAll_90 : decode cL_spellsAll 90 = .ok (.bipush 6, 2) := by decide +kernel
theorem dL_spellsAll_92 : decode cL_spellsAll 92 = .ok (.iload 8, 2) := by decide +kernel
theorem dL_spellsAll_94 : decode cL_spellsAll 94 = .ok (.bipush 8, 2) := by decide +kernel
theorem dL_spellsAll_96 : decode cL_spellsAll 96 = .ok (.irem, 1) := by decide +kernel
theorem dL_spellsAll_97 : decode cL_spellsAll 97 = .ok (.imul, 1) := by decide +kernel
theorem dL_spellsAll_98 : decode cL_spellsAll 98 = .ok (.lshl, 1) := by decide +kernel
theorem dL_spellsAll_99 : decode cL_spellsAll 99 = .ok (.lor, 1) := by decide +kernel
theorem dL_spellsAll_100 : decode cL_spellsAll 100 = .ok (.lastore, 1) := by decide +kernel
theorem dL_spellsAll_101 : decode cL_spellsAll 101 = .ok (.lload 10, 2) := by decide +kernel
theorem dL_spellsAll_103 : decode cL_spellsAll 103 = .ok (.ldc2_w 73, 3) := by decide +kernel
theorem dL_spellsAll_106 : decode cL_spellsAll 106 = .ok (.ldiv, 1) := by decide +kernel
theorem dL_spellsAll_107 : decode cL_spellsAll 107 = .ok (.lstore 10, 2) := by decide +kernel
theorem dL_spellsAll_109 : decode cL_spellsAll 109 = .ok (.iinc 8 1, 3) := by decide +kernel
theorem dL_spellsAll_112 : decode cL_spellsAll 112 = .ok (.goto (-49), 3) := by decide +kernel
theorem dL_spellsAll_115 : decode cL_spellsAll 115 = .ok (.iinc 9 1, 3) := by decide +kernel
theorem dL_spellsAll_118 : decode cL_spellsAll 118 = .ok (.goto (-82), 3) := by decide +kernel
theorem dL_spellsAll_121 : decode cL_spellsAll 121 = .ok (.iinc 7 1, 3) := by decide +kernel
theorem dL_spellsAll_124 : decode cL_spellsAll 124 = .ok (.goto (-121), 3) := by decide +kernel
theorem dL_spellsAll_127 : decode cL_spellsAll 127 = .ok (.return_, 1) := by decide +kernel
theorem dL_sign_0 : decode cL_sign 0 = .ok (.iload_n 2, 1) := by decide +kernel
theorem dL_sign_1 : decode cL_sign 1 = .ok (.bipush 15, 2) := by decide +kernel
theorem dL_sign_3 : decode cL_sign 3 = .ok (.if_icmp .le 7, 3) := by decide +kernel
theorem dL_sign_6 : decode cL_sign 6 = .ok (.iconst (-1), 1) := by decide +kernel
theorem dL_sign_7 : decode cL_sign 7 = .ok (.goto 28, 3) := by decide +kernel
theorem dL_sign_10 : decode cL_sign 10 = .ok (.aload_n 0, 1) := by decide +kernel
theorem dL_sign_11 : decode cL_sign 11 = .ok (.iconst 2, 1) := by decide +kernel
theorem dL_sign_12 : decode cL_sign 12 = .ok (.iload_n 1, 1) := by decide +kernel
theorem dL_sign_13 : decode cL_sign 13 = .ok (.imul, 1) := by decide +kernel
theorem dL_sign_14 : decode cL_sign 14 = .ok (.iload_n 2, 1) := by decide +kernel
theorem dL_sign_15 : decode cL_sign 15 = .ok (.bipush 8, 2) := by decide +kernel
theorem dL_sign_17 : decode cL_sign 17 = .ok (.idiv, 1) := by decide +kernel
theorem dL_sign_18 : decode cL_sign 18 = .ok (.iadd, 1) := by decide +kernel
theorem dL_sign_19 : decode cL_sign 19 = .ok (.laload, 1) := by decide +kernel
theorem dL_sign_20 : decode cL_sign 20 = .ok (.bipush 6, 2) := by decide +kernel
theorem dL_sign_22 : decode cL_sign 22 = .ok (.iload_n 2, 1) := by decide +kernel
theorem dL_sign_23 : decode cL_sign 23 = .ok (.bipush 8, 2) := by decide +kernel
theorem dL_sign_25 : decode cL_sign 25 = .ok (.irem, 1) := by decide +kernel
theorem dL_sign_26 : decode cL_sign 26 = .ok (.imul, 1) := by decide +kernel
theorem dL_sign_27 : decode cL_sign 27 = .ok (.lshr, 1) := by decide +kernel
theorem dL_sign_28 : decode cL_sign 28 = .ok (.ldc2_w 83, 3) := by decide +kernel
theorem dL_sign_31 : decode cL_sign 31 = .ok (.land, 1) := by decide +kernel
theorem dL_sign_32 : decode cL_sign 32 = .ok (.l2i, 1) := by decide +kernel
theorem dL_sign_33 : decode cL_sign 33 = .ok (.iconst 1, 1) := by decide +kernel
theorem dL_sign_34 : decode cL_sign 34 = .ok (.isub, 1) := by decide +kernel
theorem dL_sign_35 : decode cL_sign 35 = .ok (.ireturn, 1) := by decide +kernel
theorem dL_many_0 : decode cL_many 0 = .ok (.iconst 0, 1) := by decide +kernel
theorem dL_many_1 : decode cL_many 1 = .ok (.istore_n 2, 1) := by decide +kernel
theorem dL_many_2 : decode cL_many 2 = .ok (.aload_n 0, 1) := by decide +kernel
theorem dL_many_3 : decode cL_many 3 = .ok (.iload_n 1, 1) := by decide +kernel
theorem dL_many_4 : decode cL_many 4 = .ok (.iload_n 2, 1) := by decide +kernel
theorem dL_many_5 : decode cL_many 5 = .ok (.invokestatic 85, 3) := by decide +kernel
theorem dL_many_8 : decode cL_many 8 = .ok (.ifCond .lt 9, 3) := by decide +kernel
theorem dL_many_11 : decode cL_many 11 = .ok (.iinc 2 1, 3) := by decide +kernel
theorem dL_many_14 : decode cL_many 14 = .ok (.goto (-12), 3) := by decide +kernel
theorem dL_many_17 : decode cL_many 17 = .ok (.iload_n 2, 1) := by decide +kernel
theorem dL_many_18 : decode cL_many 18 = .ok (.ireturn, 1) := by decide +kernel
theorem dL_areAlike_0 : decode cL_areAlike 0 = .ok (.aload_n 0, 1) := by decide +kernel
theorem dL_areAlike_1 : decode cL_areAlike 1 = .ok (.iconst 2, 1) := by decide +kernel
theorem dL_areAlike_2 : decode cL_areAlike 2 = .ok (.iload_n 1, 1) := by decide +kernel
theorem dL_areAlike_3 : decode cL_areAlike 3 = .ok (.imul, 1) := by decide +kernel
theorem dL_areAlike_4 : decode cL_areAlike 4 = .ok (.laload, 1) := by decide +kernel
theorem dL_areAlike_5 : decode cL_areAlike 5 = .ok (.aload_n 2, 1) := by decide +kernel
theorem dL_areAlike_6 : decode cL_areAlike 6 = .ok (.iconst 2, 1) := by decide +kernel
theorem dL_areAlike_7 : decode cL_areAlike 7 = .ok (.iload_n 3, 1) := by decide +kernel
theorem dL_areAlike_8 : decode cL_areAlike 8 = .ok (.imul, 1) := by decide +kernel
theorem dL_areAlike_9 : decode cL_areAlike 9 = .ok (.laload, 1) := by decide +kernel
theorem dL_areAlike_10 : decode cL_areAlike 10 = .ok (.lcmp, 1) := by decide +kernel
theorem dL_areAlike_11 : decode cL_areAlike 11 = .ok (.ifCond .ne 25, 3) := by decide +kernel
theorem dL_areAlike_14 : decode cL_areAlike 14 = .ok (.aload_n 0, 1) := by decide +kernel
theorem dL_areAlike_15 : decode cL_areAlike 15 = .ok (.iconst 2, 1) := by decide +kernel
theorem dL_areAlike_16 : decode cL_areAlike 16 = .ok (.iload_n 1, 1) := by decide +kernel
theorem dL_areAlike_17 : decode cL_areAlike 17 = .ok (.imul, 1) := by decide +kernel
theorem dL_areAlike_18 : decode cL_areAlike 18 = .ok (.iconst 1, 1) := by decide +kernel
theorem dL_areAlike_19 : decode cL_areAlike 19 = .ok (.iadd, 1) := by decide +kernel
theorem dL_areAlike_20 : decode cL_areAlike 20 = .ok (.laload, 1) := by decide +kernel
theorem dL_areAlike_21 : decode cL_areAlike 21 = .ok (.aload_n 2, 1) := by decide +kernel
theorem dL_areAlike_22 : decode cL_areAlike 22 = .ok (.iconst 2, 1) := by decide +kernel
theorem dL_areAlike_23 : decode cL_areAlike 23 = .ok (.iload_n 3, 1) := by decide +kernel
theorem dL_areAlike_24 : decode cL_areAlike 24 = .ok (.imul, 1) := by decide +kernel
theorem dL_areAlike_25 : decode cL_areAlike 25 = .ok (.iconst 1, 1) := by decide +kernel
theorem dL_areAlike_26 : decode cL_areAlike 26 = .ok (.iadd, 1) := by decide +kernel
theorem dL_areAlike_27 : decode cL_areAlike 27 = .ok (.laload, 1) := by decide +kernel
theorem dL_areAlike_28 : decode cL_areAlike 28 = .ok (.lcmp, 1) := by decide +kernel
theorem dL_areAlike_29 : decode cL_areAlike 29 = .ok (.ifCond .ne 7, 3) := by decide +kernel
theorem dL_areAlike_32 : decode cL_areAlike 32 = .ok (.iconst 1, 1) := by decide +kernel
theorem dL_areAlike_33 : decode cL_areAlike 33 = .ok (.goto 4, 3) := by decide +kernel
theorem dL_areAlike_36 : decode cL_areAlike 36 = .ok (.iconst 0, 1) := by decide +kernel
theorem dL_areAlike_37 : decode cL_areAlike 37 = .ok (.ireturn, 1) := by decide +kernel
theorem dL_load_0 : decode cL_load 0 = .ok (.iconst 0, 1) := by decide +kernel
theorem dL_load_1 : decode cL_load 1 = .ok (.istore_n 3, 1) := by decide +kernel
theorem dL_load_2 : decode cL_load 2 = .ok (.iconst 0, 1) := by decide +kernel
theorem dL_load_3 : decode cL_load 3 = .ok (.istore 4, 2) := by decide +kernel
theorem dL_load_5 : decode cL_load 5 = .ok (.iload 4, 2) := by decide +kernel
theorem dL_load_7 : decode cL_load 7 = .ok (.aload_n 2, 1) := by decide +kernel
theorem dL_load_8 : decode cL_load 8 = .ok (.iconst 0, 1) := by decide +kernel
theorem dL_load_9 : decode cL_load 9 = .ok (.iaload, 1) := by decide +kernel
theorem dL_load_10 : decode cL_load 10 = .ok (.if_icmp .ge 139, 3) := by decide +kernel
theorem dL_load_13 : decode cL_load 13 = .ok (.iconst 0, 1) := by decide +kernel
theorem dL_load_14 : decode cL_load 14 = .ok (.istore 5, 2) := by decide +kernel
theorem dL_load_16 : decode cL_load 16 = .ok (.iconst 0, 1) := by decide +kernel
theorem dL_load_17 : decode cL_load 17 = .ok (.istore 6, 2) := by decide +kernel
theorem dL_load_19 : decode cL_load 19 = .ok (.iconst 1, 1) := by decide +kernel
theorem dL_load_20 : decode cL_load 20 = .ok (.istore 7, 2) := by decide +kernel
theorem dL_load_22 : decode cL_load 22 = .ok (.iconst 0, 1) := by decide +kernel
theorem dL_load_23 : decode cL_load 23 = .ok (.istore 8, 2) := by decide +kernel
theorem dL_load_25 : decode cL_load 25 = .ok (.iload 8, 2) := by decide +kernel
theorem dL_load_27 : decode cL_load 27 = .ok (.aload_n 2, 1) := by decide +kernel
theorem dL_load_28 : decode cL_load 28 = .ok (.iconst 0, 1) := by decide +kernel
theorem dL_load_29 : decode cL_load 29 = .ok (.iaload, 1) := by decide +kernel
theorem dL_load_30 : decode cL_load 30 = .ok (.if_icmp .ge 96, 3) := by decide +kernel
theorem dL_load_33 : decode cL_load 33 = .ok (.aload_n 0, 1) := by decide +kernel
theorem dL_load_34 : decode cL_load 34 = .ok (.iload 4, 2) := by decide +kernel
theorem dL_load_36 : decode cL_load 36 = .ok (.aload_n 0, 1) := by decide +kernel
theorem dL_load_37 : decode cL_load 37 = .ok (.iload 8, 2) := by decide +kernel
theorem dL_load_39 : decode cL_load 39 = .ok (.invokestatic 89, 3) := by decide +kernel
theorem dL_load_42 : decode cL_load 42 = .ok (.istore 9, 2) := by decide +kernel
theorem dL_load_44 : decode cL_load 44 = .ok (.iload 5, 2) := by decide +kernel
theorem dL_load_46 : decode cL_load 46 = .ok (.iload 9, 2) := by decide +kernel
theorem dL_load_48 : decode cL_load 48 = .ok (.ifCond .eq 13, 3) := by decide +kernel
theorem dL_load_51 : decode cL_load 51 = .ok (.aload_n 1, 1) := by decide +kernel
theorem dL_load_52 : decode cL_load 52 = .ok (.bipush 8, 2) := by decide +kernel
theorem dL_load_54 : decode cL_load 54 = .ok (.iload 8, 2) := by decide +kernel
theorem dL_load_56 : decode cL_load 56 = .ok (.iadd, 1) := by decide +kernel
theorem dL_load_57 : decode cL_load 57 = .ok (.iaload, 1) := by decide +kernel
theorem dL_load_58 : decode cL_load 58 = .ok (.goto 4, 3) := by decide +kernel
theorem dL_load_61 : decode cL_load 61 = .ok (.iconst 0, 1) := by decide +kernel
theorem dL_load_62 : decode cL_load 62 = .ok (.iadd, 1) := by decide +kernel
theorem dL_load_63 : decode cL_load 63 = .ok (.istore 5, 2) := by decide +kernel
theorem dL_load_65 : decode cL_load 65 = .ok (.iload 9, 2) := by decide +kernel
theorem dL_load_67 : decode cL_load 67 = .ok (.ifCond .eq 25, 3) := by decide +kernel
theorem dL_load_70 : decode cL_load 70 = .ok (.aload_n 1, 1) := by decide +kernel
theorem dL_load_71 : decode cL_load 71 = .ok (.bipush 8, 2) := by decide +kernel
theorem dL_load_73 : decode cL_load 73 = .ok (.iload 8, 2) := by decide +kernel
theorem dL_load_75 : decode cL_load 75 = .ok (.iadd, 1) := by decide +kernel
theorem dL_load_76 : decode cL_load 76 = .ok (.iaload, 1) := by decide +kernel
theorem dL_load_77 : decode cL_load 77 = .ok (.iload 6, 2) := by decide +kernel
theorem dL_load_79 : decode cL_load 79 = .ok (.if_icmp .le 13, 3) := by decide +kernel
theorem dL_load_82 : decode cL_load 82 = .ok (.aload_n 1, 1) := by decide +kernel
theorem dL_load_83 : decode cL_load 83 = .ok (.bipush 8, 2) := by decide +kernel
theorem dL_load_85 : decode cL_load 85 = .ok (.iload 8, 2) := by decide +kernel
theorem dL_load_87 : decode cL_load 87 = .ok (.iadd, 1) := by decide +kernel
theorem dL_load_88 : decode cL_load 88 = .ok (.iaload, 1) := by decide +kernel
theorem dL_load_89 : decode cL_load 89 = .ok (.goto 5, 3) := by decide +kernel
theorem dL_load_92 : decode cL_load 92 = .ok (.iload 6, 2) := by decide +kernel
theorem dL_load_94 : decode cL_load 94 = .ok (.istore 6, 2) := by decide +kernel
theorem dL_load_96 : decode cL_load 96 = .ok (.iload 7, 2) := by decide +kernel
theorem dL_load_98 : decode cL_load 98 = .ok (.ifCond .eq 19, 3) := by decide +kernel
theorem dL_load_101 : decode cL_load 101 = .ok (.iload 9, 2) := by decide +kernel
theorem dL_load_103 : decode cL_load 103 = .ok (.ifCond .eq 10, 3) := by decide +kernel
theorem dL_load_106 : decode cL_load 106 = .ok (.iload 8, 2) := by decide +kernel
theorem dL_load_108 : decode cL_load 108 = .ok (.iload 4, 2) := by decide +kernel
theorem dL_load_110 : decode cL_load 110 = .ok (.if_icmp .lt 7, 3) := by decide +kernel
theorem dL_load_113 : decode cL_load 113 = .ok (.iconst 1, 1) := by decide +kernel
theorem dL_load_114 : decode cL_load 114 = .ok (.goto 4, 3) := by decide +kernel
theorem dL_load_117 : decode cL_load 117 = .ok (.iconst 0, 1) := by decide +kernel
theorem dL_load_118 : decode cL_load 118 = .ok (.istore 7, 2) := by decide +kernel
theorem dL_load_120 : decode cL_load 120 = .ok (.iinc 8 1, 3) := by decide +kernel
theorem dL_load_123 : decode cL_load 123 = .ok (.goto (-98), 3) := by decide +kernel
theorem dL_load_126 : decode cL_load 126 = .ok (.iload_n 3, 1) := by decide +kernel
theorem dL_load_127 : decode cL_load 127 = .ok (.iload 7, 2) := by decide +kernel
theorem dL_load_129 : decode cL_load 129 = .ok (.ifCond .eq 11, 3) := by decide +kernel
theorem dL_load_132 : decode cL_load 132 = .ok (.iload 5, 2) := by decide +kernel
theorem dL_load_134 : decode cL_load 134 = .ok (.iload 6, 2) := by decide +kernel
theorem dL_load_136 : decode cL_load 136 = .ok (.isub, 1) := by decide +kernel
theorem dL_load_137 : decode cL_load 137 = .ok (.goto 4, 3) := by decide +kernel
theorem dL_load_140 : decode cL_load 140 = .ok (.iconst 0, 1) := by decide +kernel
theorem dL_load_141 : decode cL_load 141 = .ok (.iadd, 1) := by decide +kernel
theorem dL_load_142 : decode cL_load 142 = .ok (.istore_n 3, 1) := by decide +kernel
theorem dL_load_143 : decode cL_load 143 = .ok (.iinc 4 1, 3) := by decide +kernel
theorem dL_load_146 : decode cL_load 146 = .ok (.goto (-141), 3) := by decide +kernel
theorem dL_load_149 : decode cL_load 149 = .ok (.iload_n 3, 1) := by decide +kernel
theorem dL_load_150 : decode cL_load 150 = .ok (.ireturn, 1) := by decide +kernel
theorem dL_doubts_0 : decode cL_doubts 0 = .ok (.iconst 0, 1) := by decide +kernel
theorem dL_doubts_1 : decode cL_doubts 1 = .ok (.istore_n 2, 1) := by decide +kernel
theorem dL_doubts_2 : decode cL_doubts 2 = .ok (.iconst 0, 1) := by decide +kernel
theorem dL_doubts_3 : decode cL_doubts 3 = .ok (.istore_n 3, 1) := by decide +kernel
theorem dL_doubts_4 : decode cL_doubts 4 = .ok (.iload_n 3, 1) := by decide +kernel
theorem dL_doubts_5 : decode cL_doubts 5 = .ok (.aload_n 1, 1) := by decide +kernel
theorem dL_doubts_6 : decode cL_doubts 6 = .ok (.iconst 0, 1) := by decide +kernel
theorem dL_doubts_7 : decode cL_doubts 7 = .ok (.iaload, 1) := by decide +kernel
theorem dL_doubts_8 : decode cL_doubts 8 = .ok (.if_icmp .ge 47, 3) := by decide +kernel
theorem dL_doubts_11 : decode cL_doubts 11 = .ok (.iload_n 3, 1) := by decide +kernel
theorem dL_doubts_12 : decode cL_doubts 12 = .ok (.iconst 1, 1) := by decide +kernel
theorem dL_doubts_13 : decode cL_doubts 13 = .ok (.iadd, 1) := by decide +kernel
theorem dL_doubts_14 : decode cL_doubts 14 = .ok (.istore 4, 2) := by decide +kernel
theorem dL_doubts_16 : decode cL_doubts 16 = .ok (.iload 4, 2) := by decide +kernel
theorem dL_doubts_18 : decode cL_doubts 18 = .ok (.aload_n 1, 1) := by decide +kernel
theorem dL_doubts_19 : decode cL_doubts 19 = .ok (.iconst 0, 1) := by decide +kernel
theorem dL_doubts_20 : decode cL_doubts 20 = .ok (.iaload, 1) := by decide +kernel
theorem dL_doubts_21 : decode cL_doubts 21 = .ok (.if_icmp .ge 28, 3) := by decide +kernel
theorem dL_doubts_24 : decode cL_doubts 24 = .ok (.iload_n 2, 1) := by decide +kernel
theorem dL_doubts_25 : decode cL_doubts 25 = .ok (.aload_n 0, 1) := by decide +kernel
theorem dL_doubts_26 : decode cL_doubts 26 = .ok (.iload_n 3, 1) := by decide +kernel
theorem dL_doubts_27 : decode cL_doubts 27 = .ok (.aload_n 0, 1) := by decide +kernel
theorem dL_doubts_28 : decode cL_doubts 28 = .ok (.iload 4, 2) := by decide +kernel
theorem dL_doubts_30 : decode cL_doubts 30 = .ok (.invokestatic 89, 3) := by decide +kernel
theorem dL_doubts_33 : decode cL_doubts 33 = .ok (.ifCond .eq 7, 3) := by decide +kernel
theorem dL_doubts_36 : decode cL_doubts 36 = .ok (.iconst 1, 1) := by decide +kernel
theorem dL_doubts_37 : decode cL_doubts 37 = .ok (.goto 4, 3) := by decide +kernel
theorem dL_doubts_40 : decode cL_doubts 40 = .ok (.iconst 0, 1) := by decide +kernel
theorem dL_doubts_41 : decode cL_doubts 41 = .ok (.iadd, 1) := by decide +kernel
theorem dL_doubts_42 : decode cL_doubts 42 = .ok (.istore_n 2, 1) := by decide +kernel
theorem dL_doubts_43 : decode cL_doubts 43 = .ok (.iinc 4 1, 3) := by decide +kernel
theorem dL_doubts_46 : decode cL_doubts 46 = .ok (.goto (-30), 3) := by decide +kernel
theorem dL_doubts_49 : decode cL_doubts 49 = .ok (.iinc 3 1, 3) := by decide +kernel
theorem dL_doubts_52 : decode cL_doubts 52 = .ok (.goto (-48), 3) := by decide +kernel
theorem dL_doubts_55 : decode cL_doubts 55 = .ok (.iload_n 2, 1) := by decide +kernel
theorem dL_doubts_56 : decode cL_doubts 56 = .ok (.ireturn, 1) := by decide +kernel
theorem dL_fit_0 : decode cL_fit 0 = .ok (.iconst 0, 1) := by decide +kernel
theorem dL_fit_1 : decode cL_fit 1 = .ok (.istore 4, 2) := by decide +kernel
theorem dL_fit_3 : decode cL_fit 3 = .ok (.iconst 0, 1) := by decide +kernel
theorem dL_fit_4 : decode cL_fit 4 = .ok (.istore 5, 2) := by decide +kernel
theorem dL_fit_6 : decode cL_fit 6 = .ok (.iload 5, 2) := by decide +kernel
theorem dL_fit_8 : decode cL_fit 8 = .ok (.aload_n 3, 1) := by decide +kernel
theorem dL_fit_9 : decode cL_fit 9 = .ok (.iconst 0, 1) := by decide +kernel
theorem dL_fit_10 : decode cL_fit 10 = .ok (.iaload, 1) := by decide +kernel
theorem dL_fit_11 : decode cL_fit 11 = .ok (.if_icmp .ge 37, 3) := by decide +kernel
theorem dL_fit_14 : decode cL_fit 14 = .ok (.iload 4, 2) := by decide +kernel
theorem dL_fit_16 : decode cL_fit 16 = .ok (.aload_n 0, 1) := by decide +kernel
theorem dL_fit_17 : decode cL_fit 17 = .ok (.iload 5, 2) := by decide +kernel
theorem dL_fit_19 : decode cL_fit 19 = .ok (.aload_n 1, 1) := by decide +kernel
theorem dL_fit_20 : decode cL_fit 20 = .ok (.iload 5, 2) := by decide +kernel
theorem dL_fit_22 : decode cL_fit 22 = .ok (.invokestatic 89, 3) := by decide +kernel
theorem dL_fit_25 : decode cL_fit 25 = .ok (.ifCond .eq 13, 3) := by decide +kernel
theorem dL_fit_28 : decode cL_fit 28 = .ok (.aload_n 2, 1) := by decide +kernel
theorem dL_fit_29 : decode cL_fit 29 = .ok (.bipush 8, 2) := by decide +kernel
theorem dL_fit_31 : decode cL_fit 31 = .ok (.iload 5, 2) := by decide +kernel
theorem dL_fit_33 : decode cL_fit 33 = .ok (.iadd, 1) := by decide +kernel
theorem dL_fit_34 : decode cL_fit 34 = .ok (.iaload, 1) := by decide +kernel
theorem dL_fit_35 : decode cL_fit 35 = .ok (.goto 4, 3) := by decide +kernel
theorem dL_fit_38 : decode cL_fit 38 = .ok (.iconst 0, 1) := by decide +kernel
theorem dL_fit_39 : decode cL_fit 39 = .ok (.iadd, 1) := by decide +kernel
theorem dL_fit_40 : decode cL_fit 40 = .ok (.istore 4, 2) := by decide +kernel
theorem dL_fit_42 : decode cL_fit 42 = .ok (.iinc 5 1, 3) := by decide +kernel
theorem dL_fit_45 : decode cL_fit 45 = .ok (.goto (-39), 3) := by decide +kernel
theorem dL_fit_48 : decode cL_fit 48 = .ok (.iload 4, 2) := by decide +kernel
theorem dL_fit_50 : decode cL_fit 50 = .ok (.ireturn, 1) := by decide +kernel
theorem dL_readings_0 : decode cL_readings 0 = .ok (.aload_n 1, 1) := by decide +kernel
theorem dL_readings_1 : decode cL_readings 1 = .ok (.iload_n 2, 1) := by decide +kernel
theorem dL_readings_2 : decode cL_readings 2 = .ok (.invokestatic 93, 3) := by decide +kernel
theorem dL_readings_5 : decode cL_readings 5 = .ok (.istore_n 3, 1) := by decide +kernel
theorem dL_readings_6 : decode cL_readings 6 = .ok (.bipush 64, 2) := by decide +kernel
theorem dL_readings_8 : decode cL_readings 8 = .ok (.newarray .long, 2) := by decide +kernel
theorem dL_readings_10 : decode cL_readings 10 = .ok (.astore 4, 2) := by decide +kernel
theorem dL_readings_12 : decode cL_readings 12 = .ok (.aload 4, 2) := by decide +kernel
theorem dL_readings_14 : decode cL_readings 14 = .ok (.iload_n 3, 1) := by decide +kernel
theorem dL_readings_15 : decode cL_readings 15 = .ok (.lconst 1, 1) := by decide +kernel
theorem dL_readings_16 : decode cL_readings 16 = .ok (.lastore, 1) := by decide +kernel
theorem dL_readings_17 : decode cL_readings 17 = .ok (.lconst 0, 1) := by decide +kernel
theorem dL_readings_18 : decode cL_readings 18 = .ok (.lstore 5, 2) := by decide +kernel
theorem dL_readings_20 : decode cL_readings 20 = .ok (.bipush 64, 2) := by decide +kernel
theorem dL_readings_22 : decode cL_readings 22 = .ok (.newarray .long, 2) := by decide +kernel
theorem dL_readings_24 : decode cL_readings 24 = .ok (.astore 7, 2) := by decide +kernel
theorem dL_readings_26 : decode cL_readings 26 = .ok (.iconst 0, 1) := by decide +kernel
theorem dL_readings_27 : decode cL_readings 27 = .ok (.istore 8, 2) := by decide +kernel
theorem dL_readings_29 : decode cL_readings 29 = .ok (.iload 8, 2) := by decide +kernel
theorem dL_readings_31 : decode cL_readings 31 = .ok (.iconst 4, 1) := by decide +kernel
theorem dL_readings_32 : decode cL_readings 32 = .ok (.if_icmp .ge 216, 3) := by decide +kernel
theorem dL_readings_35 : decode cL_readings 35 = .ok (.iconst 0, 1) := by decide +kernel
theorem dL_readings_36 : decode cL_readings 36 = .ok (.istore 9, 2) := by decide +kernel
theorem dL_readings_38 : decode cL_readings 38 = .ok (.iload 9, 2) := by decide +kernel
theorem dL_readings_40 : decode cL_readings 40 = .ok (.iload_n 3, 1) := by decide +kernel
theorem dL_readings_41 : decode cL_readings 41 = .ok (.if_icmp .gt 15, 3) := by decide +kernel
theorem dL_readings_44 : decode cL_readings 44 = .ok (.aload 7, 2) := by decide +kernel
theorem dL_readings_46 : decode cL_readings 46 = .ok (.iload 9, 2) := by decide +kernel
theorem dL_readings_48 : decode cL_readings 48 = .ok (.lconst 0, 1) := by decide +kernel
theorem dL_readings_49 : decode cL_readings 49 = .ok (.lastore, 1) := by decide +kernel
theorem dL_readings_50 : decode cL_readings 50 = .ok (.iinc 9 1, 3) := by decide +kernel
theorem dL_readings_53 : decode cL_readings 53 = .ok (.goto (-15), 3) := by decide +kernel
theorem dL_readings_56 : decode cL_readings 56 = .ok (.iconst 0, 1) := by decide +kernel
theorem dL_readings_57 : decode cL_readings 57 = .ok (.istore 9, 2) := by decide +kernel
theorem dL_readings_59 : decode cL_readings 59 = .ok (.iload 9, 2) := by decide +kernel
theorem dL_readings_61 : decode cL_readings 61 = .ok (.sipush 972, 3) := by decide +kernel
theorem dL_readings_64 : decode cL_readings 64 = .ok (.if_icmp .ge 144, 3) := by decide +kernel
theorem dL_readings_67 : decode cL_readings 67 = .ok (.aload_n 0, 1) := by decide +kernel
theorem dL_readings_68 : decode cL_readings 68 = .ok (.iload 9, 2) := by decide +kernel
theorem dL_readings_70 : decode cL_readings 70 = .ok (.invokestatic 79, 3) := by decide +kernel
theorem dL_readings_73 : decode cL_readings 73 = .ok (.lstore 10, 2) := by decide +kernel
theorem dL_readings_75 : decode cL_readings 75 = .ok (.lload 10, 2) := by decide +kernel
theorem dL_readings_77 : decode cL_readings 77 = .ok (.invokestatic 97, 3) := by decide +kernel
theorem dL_readings_80 : decode cL_readings 80 = .ok (.istore 12, 2) := by decide +kernel
theorem dL_readings_82 : decode cL_readings 82 = .ok (.iconst 0, 1) := by decide +kernel
theorem dL_readings_83 : decode cL_readings 83 = .ok (.istore 13, 2) := by decide +kernel
theorem dL_readings_85 : decode cL_readings 85 = .ok (.iload 13, 2) := by decide +kernel
theorem dL_readings_87 : decode cL_readings 87 = .ok (.iload 12, 2) := by decide +kernel
theorem dL_readings_89 : decode cL_readings 89 = .ok (.iadd, 1) := by decide +kernel
theorem dL_readings_90 : decode cL_readings 90 = .ok (.iload_n 3, 1) := by decide +kernel
theorem dL_readings_91 : decode cL_readings 91 = .ok (.if_icmp .gt 111, 3) := by decide +kernel
theorem dL_readings_94 : decode cL_readings 94 = .ok (.aload 4, 2) := by decide +kernel
theorem dL_readings_96 : decode cL_readings 96 = .ok (.iload 13, 2) := by decide +kernel
theorem dL_readings_98 : decode cL_readings 98 = .ok (.iload 12, 2) := by decide +kernel
theorem dL_readings_100 : decode cL_readings 100 = .ok (.iadd, 1) := by decide +kernel
theorem dL_readings_101 : decode cL_readings 101 = .ok (.laload, 1) := by decide +kernel
theorem dL_readings_102 : decode cL_readings 102 = .ok (.lconst 0, 1) := by decide +kernel
theorem dL_readings_103 : decode cL_readings 103 = .ok (.lcmp, 1) := by decide +kernel
theorem dL_readings_104 : decode cL_readings 104 = .ok (.ifCond .le 7, 3) := by decide +kernel
theorem dL_readings_107 : decode cL_readings 107 = .ok (.iconst 1, 1) := by decide +kernel
theorem dL_readings_108 : decode cL_readings 108 = .ok (.goto 4, 3) := by decide +kernel
theorem dL_readings_111 : decode cL_readings 111 = .ok (.iconst 0, 1) := by decide +kernel
theorem dL_readings_112 : decode cL_readings 112 = .ok (.istore 14, 2) := by decide +kernel
theorem dL_readings_114 : decode cL_readings 114 = .ok (.iconst 0, 1) := by decide +kernel
theorem dL_readings_115 : decode cL_readings 115 = .ok (.istore 15, 2) := by decide +kernel
theorem dL_readings_117 : decode cL_readings 117 = .ok (.iload 15, 2) := by decide +kernel
theorem dL_readings_119 : decode cL_readings 119 = .ok (.iload 12, 2) := by decide +kernel
theorem dL_readings_121 : decode cL_readings 121 = .ok (.if_icmp .ge 50, 3) := by decide +kernel
theorem dL_readings_124 : decode cL_readings 124 = .ok (.iload 14, 2) := by decide +kernel
theorem dL_readings_126 : decode cL_readings 126 = .ok (.ifCond .eq 45, 3) := by decide +kernel
theorem dL_readings_129 : decode cL_readings 129 = .ok (.aload_n 1, 1) := by decide +kernel
theorem dL_readings_130 : decode cL_readings 130 = .ok (.iload_n 2, 1) := by decide +kernel
theorem dL_readings_131 : decode cL_readings 131 = .ok (.iload 13, 2) := by decide +kernel
theorem dL_readings_133 : decode cL_readings 133 = .ok (.iload 15, 2) := by decide +kernel
theorem dL_readings_135 : decode cL_readings 135 = .ok (.iadd, 1) := by decide +kernel
theorem dL_readings_136 : decode cL_readings 136 = .ok (.invokestatic 85, 3) := by decide +kernel
theorem dL_readings_139 : decode cL_readings 139 = .ok (.iconst 1, 1) := by decide +kernel
theorem dL_readings_140 : decode cL_readings 140 = .ok (.iadd, 1) := by decide +kernel
theorem dL_readings_141 : decode cL_readings 141 = .ok (.i2l, 1) := by decide +kernel
theorem dL_readings_142 : decode cL_readings 142 = .ok (.lload 10, 2) := by decide +kernel
theorem dL_readings_144 : decode cL_readings 144 = .ok (.bipush 6, 2) := by decide +kernel
theorem dL_readings_146 : decode cL_readings 146 = .ok (.iload 15, 2) := by decide +kernel
theorem dL_readings_148 : decode cL_readings 148 = .ok (.imul, 1) := by decide +kernel
theorem dL_readings_149 : decode cL_readings 149 = .ok (.lshr, 1) := by decide +kernel
theorem dL_readings_150 : decode cL_readings 150 = .ok (.ldc2_w 83, 3) := by decide +kernel
theorem dL_readings_153 : decode cL_readings 153 = .ok (.land, 1) := by decide +kernel
theorem dL_readings_154 : decode cL_readings 154 = .ok (.lcmp, 1) := by decide +kernel
theorem dL_readings_155 : decode cL_readings 155 = .ok (.ifCond .ne 7, 3) := by decide +kernel
theorem dL_readings_158 : decode cL_readings 158 = .ok (.iconst 1, 1) := by decide +kernel
theorem dL_readings_159 : decode cL_readings 159 = .ok (.goto 4, 3) := by decide +kernel
theorem dL_readings_162 : decode cL_readings 162 = .ok (.iconst 0, 1) := by decide +kernel
theorem dL_readings_163 : decode cL_readings 163 = .ok (.istore 14, 2) := by decide +kernel
theorem dL_readings_165 : decode cL_readings 165 = .ok (.iinc 15 1, 3) := by decide +kernel
theorem dL_readings_168 : decode cL_readings 168 = .ok (.goto (-51), 3) := by decide +kernel
theorem dL_readings_171 : decode cL_readings 171 = .ok (.aload 7, 2) := by decide +kernel
theorem dL_readings_173 : decode cL_readings 173 = .ok (.iload 13, 2) := by decide +kernel
theorem dL_readings_175 : decode cL_readings 175 = .ok (.dup2, 1) := by decide +kernel
theorem dL_readings_176 : decode cL_readings 176 = .ok (.laload, 1) := by decide +kernel
theorem dL_readings_177 : decode cL_readings 177 = .ok (.iload 14, 2) := by decide +kernel
theorem dL_readings_179 : decode cL_readings 179 = .ok (.ifCond .eq 14, 3) := by decide +kernel
theorem dL_readings_182 : decode cL_readings 182 = .ok (.aload 4, 2) := by decide +kernel
theorem dL_readings_184 : decode cL_readings 184 = .ok (.iload 13, 2) := by decide +kernel
theorem dL_readings_186 : decode cL_readings 186 = .ok (.iload 12, 2) := by decide +kernel
theorem dL_readings_188 : decode cL_readings 188 = .ok (.iadd, 1) := by decide +kernel
theorem dL_readings_189 : decode cL_readings 189 = .ok (.laload, 1) := by decide +kernel
theorem dL_readings_190 : decode cL_readings 190 = .ok (.goto 4, 3) := by decide +kernel
theorem dL_readings_193 : decode cL_readings 193 = .ok (.lconst 0, 1) := by decide +kernel
theorem dL_readings_194 : decode cL_readings 194 = .ok (.ladd, 1) := by decide +kernel
theorem dL_readings_195 : decode cL_readings 195 = .ok (.lastore, 1) := by decide +kernel
theorem dL_readings_196 : decode cL_readings 196 = .ok (.iinc 13 1, 3) := by decide +kernel
theorem dL_readings_199 : decode cL_readings 199 = .ok (.goto (-114), 3) := by decide +kernel
theorem dL_readings_202 : decode cL_readings 202 = .ok (.iinc 9 1, 3) := by decide +kernel
theorem dL_readings_205 : decode cL_readings 205 = .ok (.goto (-146), 3) := by decide +kernel
theorem dL_readings_208 : decode cL_readings 208 = .ok (.iconst 0, 1) := by decide +kernel
theorem dL_readings_209 : decode cL_readings 209 = .ok (.istore 9, 2) := by decide +kernel
theorem dL_readings_211 : decode cL_readings 211 = .ok (.iload 9, 2) := by decide +kernel
theorem dL_readings_213 : decode cL_readings 213 = .ok (.iload_n 3, 1) := by decide +kernel
theorem dL_readings_214 : decode cL_readings 214 = .ok (.if_icmp .gt 19, 3) := by decide +kernel
theorem dL_readings_217 : decode cL_readings 217 = .ok (.aload 4, 2) := by decide +kernel
theorem dL_readings_219 : decode cL_readings 219 = .ok (.iload 9, 2) := by decide +kernel
theorem dL_readings_221 : decode cL_readings 221 = .ok (.aload 7, 2) := by decide +kernel
theorem dL_readings_223 : decode cL_readings 223 = .ok (.iload 9, 2) := by decide +kernel
theorem dL_readings_225 : decode cL_readings 225 = .ok (.laload, 1) := by decide +kernel
theorem dL_readings_226 : decode cL_readings 226 = .ok (.lastore, 1) := by decide +kernel
theorem dL_readings_227 : decode cL_readings 227 = .ok (.iinc 9 1, 3) := by decide +kernel
theorem dL_readings_230 : decode cL_readings 230 = .ok (.goto (-19), 3) := by decide +kernel
theorem dL_readings_233 : decode cL_readings 233 = .ok (.lload 5, 2) := by decide +kernel
theorem dL_readings_235 : decode cL_readings 235 = .ok (.aload 4, 2) := by decide +kernel
theorem dL_readings_237 : decode cL_readings 237 = .ok (.iconst 0, 1) := by decide +kernel
theorem dL_readings_238 : decode cL_readings 238 = .ok (.laload, 1) := by decide +kernel
theorem dL_readings_239 : decode cL_readings 239 = .ok (.ladd, 1) := by decide +kernel
theorem dL_readings_240 : decode cL_readings 240 = .ok (.lstore 5, 2) := by decide +kernel
theorem dL_readings_242 : decode cL_readings 242 = .ok (.iinc 8 1, 3) := by decide +kernel
theorem dL_readings_245 : decode cL_readings 245 = .ok (.goto (-216), 3) := by decide +kernel
theorem dL_readings_248 : decode cL_readings 248 = .ok (.lload 5, 2) := by decide +kernel
theorem dL_readings_250 : decode cL_readings 250 = .ok (.lreturn, 1) := by decide +kernel
theorem dL_length_0 : decode cL_length 0 = .ok (.iconst 0, 1) := by decide +kernel
theorem dL_length_1 : decode cL_length 1 = .ok (.istore_n 1, 1) := by decide +kernel
theorem dL_length_2 : decode cL_length 2 = .ok (.iload_n 0, 1) := by decide +kernel
theorem dL_length_3 : decode cL_length 3 = .ok (.istore_n 2, 1) := by decide +kernel
theorem dL_length_4 : decode cL_length 4 = .ok (.iload_n 2, 1) := by decide +kernel
theorem dL_length_5 : decode cL_length 5 = .ok (.ifCond .le 14, 3) := by decide +kernel
theorem dL_length_8 : decode cL_length 8 = .ok (.iinc 1 1, 3) := by decide +kernel
theorem dL_length_11 : decode cL_length 11 = .ok (.iload_n 2, 1) := by decide +kernel
theorem dL_length_12 : decode cL_length 12 = .ok (.bipush 10, 2) := by decide +kernel
theorem dL_length_14 : decode cL_length 14 = .ok (.idiv, 1) := by decide +kernel
theorem dL_length_15 : decode cL_length 15 = .ok (.istore_n 2, 1) := by decide +kernel
theorem dL_length_16 : decode cL_length 16 = .ok (.goto (-12), 3) := by decide +kernel
theorem dL_length_19 : decode cL_length 19 = .ok (.iload_n 1, 1) := by decide +kernel
theorem dL_length_20 : decode cL_length 20 = .ok (.ireturn, 1) := by decide +kernel
theorem dL_apart_0 : decode cL_apart 0 = .ok (.iload_n 1, 1) := by decide +kernel
theorem dL_apart_1 : decode cL_apart 1 = .ok (.invokestatic 101, 3) := by decide +kernel
theorem dL_apart_4 : decode cL_apart 4 = .ok (.istore_n 3, 1) := by decide +kernel
theorem dL_apart_5 : decode cL_apart 5 = .ok (.iload_n 2, 1) := by decide +kernel
theorem dL_apart_6 : decode cL_apart 6 = .ok (.invokestatic 101, 3) := by decide +kernel
theorem dL_apart_9 : decode cL_apart 9 = .ok (.istore 4, 2) := by decide +kernel
theorem dL_apart_11 : decode cL_apart 11 = .ok (.iconst 0, 1) := by decide +kernel
theorem dL_apart_12 : decode cL_apart 12 = .ok (.istore 5, 2) := by decide +kernel
theorem dL_apart_14 : decode cL_apart 14 = .ok (.iload 5, 2) := by decide +kernel
theorem dL_apart_16 : decode cL_apart 16 = .ok (.iload_n 3, 1) := by decide +kernel
theorem dL_apart_17 : decode cL_apart 17 = .ok (.if_icmp .gt 206, 3) := by decide +kernel
theorem dL_apart_20 : decode cL_apart 20 = .ok (.iconst 0, 1) := by decide +kernel
theorem dL_apart_21 : decode cL_apart 21 = .ok (.istore 6, 2) := by decide +kernel
theorem dL_apart_23 : decode cL_apart 23 = .ok (.iload 6, 2) := by decide +kernel
theorem dL_apart_25 : decode cL_apart 25 = .ok (.iload 4, 2) := by decide +kernel
theorem dL_apart_27 : decode cL_apart 27 = .ok (.if_icmp .gt 190, 3) := by decide +kernel
theorem dL_apart_30 : decode cL_apart 30 = .ok (.iload_n 1, 1) := by decide +kernel
theorem dL_apart_31 : decode cL_apart 31 = .ok (.istore 7, 2) := by decide +kernel
theorem dL_apart_33 : decode cL_apart 33 = .ok (.iload_n 2, 1) := by decide +kernel
theorem dL_apart_34 : decode cL_apart 34 = .ok (.istore 8, 2) := by decide +kernel
theorem dL_apart_36 : decode cL_apart 36 = .ok (.iload 5, 2) := by decide +kernel
theorem dL_apart_38 : decode cL_apart 38 = .ok (.istore 9, 2) := by decide +kernel
theorem dL_apart_40 : decode cL_apart 40 = .ok (.iload 9, 2) := by decide +kernel
theorem dL_apart_42 : decode cL_apart 42 = .ok (.iload_n 3, 1) := by decide +kernel
theorem dL_apart_43 : decode cL_apart 43 = .ok (.if_icmp .ge 16, 3) := by decide +kernel
theorem dL_apart_46 : decode cL_apart 46 = .ok (.iload 7, 2) := by decide +kernel
theorem dL_apart_48 : decode cL_apart 48 = .ok (.bipush 10, 2) := by decide +kernel
theorem dL_apart_50 : decode cL_apart 50 = .ok (.idiv, 1) := by decide +kernel
theorem dL_apart_51 : decode cL_apart 51 = .ok (.istore 7, 2) := by decide +kernel
theorem dL_apart_53 : decode cL_apart 53 = .ok (.iinc 9 1, 3) := by decide +kernel
theorem dL_apart_56 : decode cL_apart 56 = .ok (.goto (-16), 3) := by decide +kernel
theorem dL_apart_59 : decode cL_apart 59 = .ok (.iload 6, 2) := by decide +kernel
theorem dL_apart_61 : decode cL_apart 61 = .ok (.istore 9, 2) := by decide +kernel
theorem dL_apart_63 : decode cL_apart 63 = .ok (.iload 9, 2) := by decide +kernel
theorem dL_apart_65 : decode cL_apart 65 = .ok (.iload 4, 2) := by decide +kernel
theorem dL_apart_67 : decode cL_apart 67 = .ok (.if_icmp .ge 16, 3) := by decide +kernel
theorem dL_apart_70 : decode cL_apart 70 = .ok (.iload 8, 2) := by decide +kernel
theorem dL_apart_72 : decode cL_apart 72 = .ok (.bipush 10, 2) := by decide +kernel
theorem dL_apart_74 : decode cL_apart 74 = .ok (.idiv, 1) := by decide +kernel
theorem dL_apart_75 : decode cL_apart 75 = .ok (.istore 8, 2) := by decide +kernel
theorem dL_apart_77 : decode cL_apart 77 = .ok (.iinc 9 1, 3) := by decide +kernel
theorem dL_apart_80 : decode cL_apart 80 = .ok (.goto (-17), 3) := by decide +kernel
theorem dL_apart_83 : decode cL_apart 83 = .ok (.bipush 20, 2) := by decide +kernel
theorem dL_apart_85 : decode cL_apart 85 = .ok (.iconst 5, 1) := by decide +kernel
theorem dL_apart_86 : decode cL_apart 86 = .ok (.iload 5, 2) := by decide +kernel
theorem dL_apart_88 : decode cL_apart 88 = .ok (.imul, 1) := by decide +kernel
theorem dL_apart_89 : decode cL_apart 89 = .ok (.iadd, 1) := by decide +kernel
theorem dL_apart_90 : decode cL_apart 90 = .ok (.iload 6, 2) := by decide +kernel
theorem dL_apart_92 : decode cL_apart 92 = .ok (.iadd, 1) := by decide +kernel
theorem dL_apart_93 : decode cL_apart 93 = .ok (.istore 9, 2) := by decide +kernel
theorem dL_apart_95 : decode cL_apart 95 = .ok (.iload 5, 2) := by decide +kernel
theorem dL_apart_97 : decode cL_apart 97 = .ok (.ifCond .ne 8, 3) := by decide +kernel
theorem dL_apart_100 : decode cL_apart 100 = .ok (.iload 6, 2) := by decide +kernel
theorem dL_apart_102 : decode cL_apart 102 = .ok (.goto 39, 3) := by decide +kernel
theorem dL_apart_105 : decode cL_apart 105 = .ok (.iload 6, 2) := by decide +kernel
theorem dL_apart_107 : decode cL_apart 107 = .ok (.ifCond .ne 8, 3) := by decide +kernel
theorem dL_apart_110 : decode cL_apart 110 = .ok (.iload 5, 2) := by decide +kernel
theorem dL_apart_112 : decode cL_apart 112 = .ok (.goto 29, 3) := by decide +kernel
theorem dL_apart_115 : decode cL_apart 115 = .ok (.aload_n 0, 1) := by decide +kernel
theorem dL_apart_116 : decode cL_apart 116 = .ok (.iload 9, 2) := by decide +kernel
theorem dL_apart_118 : decode cL_apart 118 = .ok (.bipush 6, 2) := by decide +kernel
theorem dL_apart_120 : decode cL_apart 120 = .ok (.isub, 1) := by decide +kernel
theorem dL_apart_121 : decode cL_apart 121 = .ok (.iaload, 1) := by decide +kernel
theorem dL_apart_122 : decode cL_apart 122 = .ok (.iload 7, 2) := by decide +kernel
theorem dL_apart_124 : decode cL_apart 124 = .ok (.bipush 10, 2) := by decide +kernel
theorem dL_apart_126 : decode cL_apart 126 = .ok (.irem, 1) := by decide +kernel
theorem dL_apart_127 : decode cL_apart 127 = .ok (.iload 8, 2) := by decide +kernel
theorem dL_apart_129 : decode cL_apart 129 = .ok (.bipush 10, 2) := by decide +kernel
theorem dL_apart_131 : decode cL_apart 131 = .ok (.irem, 1) := by decide +kernel
theorem dL_apart_132 : decode cL_apart 132 = .ok (.if_icmp .ne 7, 3) := by decide +kernel
theorem dL_apart_135 : decode cL_apart 135 = .ok (.iconst 0, 1) := by decide +kernel
theorem dL_apart_136 : decode cL_apart 136 = .ok (.goto 4, 3) := by decide +kernel
theorem dL_apart_139 : decode cL_apart 139 = .ok (.iconst 1, 1) := by decide +kernel
theorem dL_apart_140 : decode cL_apart 140 = .ok (.iadd, 1) := by decide +kernel
theorem dL_apart_141 : decode cL_apart 141 = .ok (.istore 10, 2) := by decide +kernel
theorem dL_apart_143 : decode cL_apart 143 = .ok (.iload 5, 2) := by decide +kernel
theorem dL_apart_145 : decode cL_apart 145 = .ok (.ifCond .le 27, 3) := by decide +kernel
theorem dL_apart_148 : decode cL_apart 148 = .ok (.aload_n 0, 1) := by decide +kernel
theorem dL_apart_149 : decode cL_apart 149 = .ok (.iload 9, 2) := by decide +kernel
theorem dL_apart_151 : decode cL_apart 151 = .ok (.iconst 5, 1) := by decide +kernel
theorem dL_apart_152 : decode cL_apart 152 = .ok (.isub, 1) := by decide +kernel
theorem dL_apart_153 : decode cL_apart 153 = .ok (.iaload, 1) := by decide +kernel
theorem dL_apart_154 : decode cL_apart 154 = .ok (.iconst 1, 1) := by decide +kernel
theorem dL_apart_155 : decode cL_apart 155 = .ok (.iadd, 1) := by decide +kernel
theorem dL_apart_156 : decode cL_apart 156 = .ok (.iload 10, 2) := by decide +kernel
theorem dL_apart_158 : decode cL_apart 158 = .ok (.if_icmp .ge 14, 3) := by decide +kernel
theorem dL_apart_161 : decode cL_apart 161 = .ok (.aload_n 0, 1) := by decide +kernel
theorem dL_apart_162 : decode cL_apart 162 = .ok (.iload 9, 2) := by decide +kernel
theorem dL_apart_164 : decode cL_apart 164 = .ok (.iconst 5, 1) := by decide +kernel
theorem dL_apart_165 : decode cL_apart 165 = .ok (.isub, 1) := by decide +kernel
theorem dL_apart_166 : decode cL_apart 166 = .ok (.iaload, 1) := by decide +kernel
theorem dL_apart_167 : decode cL_apart 167 = .ok (.iconst 1, 1) := by decide +kernel
theorem dL_apart_168 : decode cL_apart 168 = .ok (.iadd, 1) := by decide +kernel
theorem dL_apart_169 : decode cL_apart 169 = .ok (.goto 5, 3) := by decide +kernel
theorem dL_apart_172 : decode cL_apart 172 = .ok (.iload 10, 2) := by decide +kernel
theorem dL_apart_174 : decode cL_apart 174 = .ok (.istore 10, 2) := by decide +kernel
theorem dL_apart_176 : decode cL_apart 176 = .ok (.aload_n 0, 1) := by decide +kernel
theorem dL_apart_177 : decode cL_apart 177 = .ok (.iload 9, 2) := by decide +kernel
theorem dL_apart_179 : decode cL_apart 179 = .ok (.iload 6, 2) := by decide +kernel
theorem dL_apart_181 : decode cL_apart 181 = .ok (.ifCond .le 27, 3) := by decide +kernel
theorem dL_apart_184 : decode cL_apart 184 = .ok (.aload_n 0, 1) := by decide +kernel
theorem dL_apart_185 : decode cL_apart 185 = .ok (.iload 9, 2) := by decide +kernel
theorem dL_apart_187 : decode cL_apart 187 = .ok (.iconst 1, 1) := by decide +kernel
theorem dL_apart_188 : decode cL_apart 188 = .ok (.isub, 1) := by decide +kernel
theorem dL_apart_189 : decode cL_apart 189 = .ok (.iaload, 1) := by decide +kernel
theorem dL_apart_190 : decode cL_apart 190 = .ok (.iconst 1, 1) := by decide +kernel
theorem dL_apart_191 : decode cL_apart 191 = .ok (.iadd, 1) := by decide +kernel
theorem dL_apart_192 : decode cL_apart 192 = .ok (.iload 10, 2) := by decide +kernel
theorem dL_apart_194 : decode cL_apart 194 = .ok (.if_icmp .ge 14, 3) := by decide +kernel
theorem dL_apart_197 : decode cL_apart 197 = .ok (.aload_n 0, 1) := by decide +kernel
theorem dL_apart_198 : decode cL_apart 198 = .ok (.iload 9, 2) := by decide +kernel
theorem dL_apart_200 : decode cL_apart 200 = .ok (.iconst 1, 1) := by decide +kernel
theorem dL_apart_201 : decode cL_apart 201 = .ok (.isub, 1) := by decide +kernel
theorem dL_apart_202 : decode cL_apart 202 = .ok (.iaload, 1) := by decide +kernel
theorem dL_apart_203 : decode cL_apart 203 = .ok (.iconst 1, 1) := by decide +kernel
theorem dL_apart_204 : decode cL_apart 204 = .ok (.iadd, 1) := by decide +kernel
theorem dL_apart_205 : decode cL_apart 205 = .ok (.goto 5, 3) := by decide +kernel
theorem dL_apart_208 : decode cL_apart 208 = .ok (.iload 10, 2) := by decide +kernel
theorem dL_apart_210 : decode cL_apart 210 = .ok (.iastore, 1) := by decide +kernel
theorem dL_apart_211 : decode cL_apart 211 = .ok (.iinc 6 1, 3) := by decide +kernel
theorem dL_apart_214 : decode cL_apart 214 = .ok (.goto (-191), 3) := by decide +kernel
theorem dL_apart_217 : decode cL_apart 217 = .ok (.iinc 5 1, 3) := by decide +kernel
theorem dL_apart_220 : decode cL_apart 220 = .ok (.goto (-206), 3) := by decide +kernel
theorem dL_apart_223 : decode cL_apart 223 = .ok (.aload_n 0, 1) := by decide +kernel
theorem dL_apart_224 : decode cL_apart 224 = .ok (.bipush 20, 2) := by decide +kernel
theorem dL_apart_226 : decode cL_apart 226 = .ok (.iconst 5, 1) := by decide +kernel
theorem dL_apart_227 : decode cL_apart 227 = .ok (.iload_n 3, 1) := by decide +kernel
theorem dL_apart_228 : decode cL_apart 228 = .ok (.imul, 1) := by decide +kernel
theorem dL_apart_229 : decode cL_apart 229 = .ok (.iadd, 1) := by decide +kernel
theorem dL_apart_230 : decode cL_apart 230 = .ok (.iload 4, 2) := by decide +kernel
theorem dL_apart_232 : decode cL_apart 232 = .ok (.iadd, 1) := by decide +kernel
theorem dL_apart_233 : decode cL_apart 233 = .ok (.iaload, 1) := by decide +kernel
theorem dL_apart_234 : decode cL_apart 234 = .ok (.ireturn, 1) := by decide +kernel
theorem dL_isUnit_0 : decode cL_isUnit 0 = .ok (.iload_n 1, 1) := by decide +kernel
theorem dL_isUnit_1 : decode cL_isUnit 1 = .ok (.ifCond .lt 33, 3) := by decide +kernel
theorem dL_isUnit_4 : decode cL_isUnit 4 = .ok (.iload_n 1, 1) := by decide +kernel
theorem dL_isUnit_5 : decode cL_isUnit 5 = .ok (.bipush 47, 2) := by decide +kernel
theorem dL_isUnit_7 : decode cL_isUnit 7 = .ok (.if_icmp .ge 27, 3) := by decide +kernel
theorem dL_isUnit_10 : decode cL_isUnit 10 = .ok (.aload_n 0, 1) := by decide +kernel
theorem dL_isUnit_11 : decode cL_isUnit 11 = .ok (.bipush 47, 2) := by decide +kernel
theorem dL_isUnit_13 : decode cL_isUnit 13 = .ok (.iaload, 1) := by decide +kernel
theorem dL_isUnit_14 : decode cL_isUnit 14 = .ok (.iconst 1, 1) := by decide +kernel
theorem dL_isUnit_15 : decode cL_isUnit 15 = .ok (.if_icmp .eq 15, 3) := by decide +kernel
theorem dL_isUnit_18 : decode cL_isUnit 18 = .ok (.iload_n 1, 1) := by decide +kernel
theorem dL_isUnit_19 : decode cL_isUnit 19 = .ok (.bipush 12, 2) := by decide +kernel
theorem dL_isUnit_21 : decode cL_isUnit 21 = .ok (.if_icmp .lt 9, 3) := by decide +kernel
theorem dL_isUnit_24 : decode cL_isUnit 24 = .ok (.iload_n 1, 1) := by decide +kernel
theorem dL_isUnit_25 : decode cL_isUnit 25 = .ok (.bipush 43, 2) := by decide +kernel
theorem dL_isUnit_27 : decode cL_isUnit 27 = .ok (.if_icmp .le 7, 3) := by decide +kernel
theorem dL_isUnit_30 : decode cL_isUnit 30 = .ok (.iconst 1, 1) := by decide +kernel
theorem dL_isUnit_31 : decode cL_isUnit 31 = .ok (.goto 4, 3) := by decide +kernel
theorem dL_isUnit_34 : decode cL_isUnit 34 = .ok (.iconst 0, 1) := by decide +kernel
theorem dL_isUnit_35 : decode cL_isUnit 35 = .ok (.ireturn, 1) := by decide +kernel
theorem dL_has_0 : decode cL_has 0 = .ok (.iconst 0, 1) := by decide +kernel
theorem dL_has_1 : decode cL_has 1 = .ok (.istore_n 2, 1) := by decide +kernel
theorem dL_has_2 : decode cL_has 2 = .ok (.iconst 0, 1) := by decide +kernel
theorem dL_has_3 : decode cL_has 3 = .ok (.istore_n 3, 1) := by decide +kernel
theorem dL_has_4 : decode cL_has 4 = .ok (.iload_n 3, 1) := by decide +kernel
theorem dL_has_5 : decode cL_has 5 = .ok (.bipush 47, 2) := by decide +kernel
theorem dL_has_7 : decode cL_has 7 = .ok (.if_icmp .ge 34, 3) := by decide +kernel
theorem dL_has_10 : decode cL_has 10 = .ok (.iload_n 2, 1) := by decide +kernel
theorem dL_has_11 : decode cL_has 11 = .ok (.ifCond .ne 18, 3) := by decide +kernel
theorem dL_has_14 : decode cL_has 14 = .ok (.aload_n 0, 1) := by decide +kernel
theorem dL_has_15 : decode cL_has 15 = .ok (.iload_n 3, 1) := by decide +kernel
theorem dL_has_16 : decode cL_has 16 = .ok (.invokestatic 104, 3) := by decide +kernel
theorem dL_has_19 : decode cL_has 19 = .ok (.ifCond .eq 14, 3) := by decide +kernel
theorem dL_has_22 : decode cL_has 22 = .ok (.aload_n 0, 1) := by decide +kernel
theorem dL_has_23 : decode cL_has 23 = .ok (.iload_n 3, 1) := by decide +kernel
theorem dL_has_24 : decode cL_has 24 = .ok (.iaload, 1) := by decide +kernel
theorem dL_has_25 : decode cL_has 25 = .ok (.iload_n 1, 1) := by decide +kernel
theorem dL_has_26 : decode cL_has 26 = .ok (.if_icmp .ne 7, 3) := by decide +kernel
theorem dL_has_29 : decode cL_has 29 = .ok (.iconst 1, 1) := by decide +kernel
theorem dL_has_30 : decode cL_has 30 = .ok (.goto 4, 3) := by decide +kernel
theorem dL_has_33 : decode cL_has 33 = .ok (.iconst 0, 1) := by decide +kernel
theorem dL_has_34 : decode cL_has 34 = .ok (.istore_n 2, 1) := by decide +kernel
theorem dL_has_35 : decode cL_has 35 = .ok (.iinc 3 1, 3) := by decide +kernel
theorem dL_has_38 : decode cL_has 38 = .ok (.goto (-34), 3) := by decide +kernel
theorem dL_has_41 : decode cL_has 41 = .ok (.iload_n 2, 1) := by decide +kernel
theorem dL_has_42 : decode cL_has 42 = .ok (.ireturn, 1) := by decide +kernel
theorem dL_errors_0 : decode cL_errors 0 = .ok (.iconst 0, 1) := by decide +kernel
theorem dL_errors_1 : decode cL_errors 1 = .ok (.istore 6, 2) := by decide +kernel
theorem dL_errors_3 : decode cL_errors 3 = .ok (.iconst 0, 1) := by decide +kernel
theorem dL_errors_4 : decode cL_errors 4 = .ok (.istore 7, 2) := by decide +kernel
theorem dL_errors_6 : decode cL_errors 6 = .ok (.iload 7, 2) := by decide +kernel
theorem dL_errors_8 : decode cL_errors 8 = .ok (.bipush 50, 2) := by decide +kernel
theorem dL_errors_10 : decode cL_errors 10 = .ok (.if_icmp .ge 164, 3) := by decide +kernel
theorem dL_errors_13 : decode cL_errors 13 = .ok (.iconst 0, 1) := by decide +kernel
theorem dL_errors_14 : decode cL_errors 14 = .ok (.istore 8, 2) := by decide +kernel
theorem dL_errors_16 : decode cL_errors 16 = .ok (.iconst 0, 1) := by decide +kernel
theorem dL_errors_17 : decode cL_errors 17 = .ok (.istore 9, 2) := by decide +kernel
theorem dL_errors_19 : decode cL_errors 19 = .ok (.iload 9, 2) := by decide +kernel
theorem dL_errors_21 : decode cL_errors 21 = .ok (.aload 4, 2) := by decide +kernel
theorem dL_errors_23 : decode cL_errors 23 = .ok (.iconst 0, 1) := by decide +kernel
theorem dL_errors_24 : decode cL_errors 24 = .ok (.iaload, 1) := by decide +kernel
theorem dL_errors_25 : decode cL_errors 25 = .ok (.if_icmp .ge 58, 3) := by decide +kernel
theorem dL_errors_28 : decode cL_errors 28 = .ok (.iconst 0, 1) := by decide +kernel
theorem dL_errors_29 : decode cL_errors 29 = .ok (.istore 10, 2) := by decide +kernel
theorem dL_errors_31 : decode cL_errors 31 = .ok (.iload 10, 2) := by decide +kernel
theorem dL_errors_33 : decode cL_errors 33 = .ok (.aload_n 2, 1) := by decide +kernel
theorem dL_errors_34 : decode cL_errors 34 = .ok (.iload 9, 2) := by decide +kernel
theorem dL_errors_36 : decode cL_errors 36 = .ok (.invokestatic 93, 3) := by decide +kernel
theorem dL_errors_39 : decode cL_errors 39 = .ok (.if_icmp .ge 38, 3) := by decide +kernel
theorem dL_errors_42 : decode cL_errors 42 = .ok (.iload 8, 2) := by decide +kernel
theorem dL_errors_44 : decode cL_errors 44 = .ok (.aload_n 2, 1) := by decide +kernel
theorem dL_errors_45 : decode cL_errors 45 = .ok (.iload 9, 2) := by decide +kernel
theorem dL_errors_47 : decode cL_errors 47 = .ok (.iload 10, 2) := by decide +kernel
theorem dL_errors_49 : decode cL_errors 49 = .ok (.invokestatic 85, 3) := by decide +kernel
theorem dL_errors_52 : decode cL_errors 52 = .ok (.iload 7, 2) := by decide +kernel
theorem dL_errors_54 : decode cL_errors 54 = .ok (.if_icmp .ne 13, 3) := by decide +kernel
theorem dL_errors_57 : decode cL_errors 57 = .ok (.aload_n 3, 1) := by decide +kernel
theorem dL_errors_58 : decode cL_errors 58 = .ok (.bipush 8, 2) := by decide +kernel
theorem dL_errors_60 : decode cL_errors 60 = .ok (.iload 9, 2) := by decide +kernel
theorem dL_errors_62 : decode cL_errors 62 = .ok (.iadd, 1) := by decide +kernel
theorem dL_errors_63 : decode cL_errors 63 = .ok (.iaload, 1) := by decide +kernel
theorem dL_errors_64 : decode cL_errors 64 = .ok (.goto 4, 3) := by decide +kernel
theorem dL_errors_67 : decode cL_errors 67 = .ok (.iconst 0, 1) := by decide +kernel
theorem dL_errors_68 : decode cL_errors 68 = .ok (.iadd, 1) := by decide +kernel
theorem dL_errors_69 : decode cL_errors 69 = .ok (.istore 8, 2) := by decide +kernel
theorem dL_errors_71 : decode cL_errors 71 = .ok (.iinc 10 1, 3) := by decide +kernel
theorem dL_errors_74 : decode cL_errors 74 = .ok (.goto (-43), 3) := by decide +kernel
theorem dL_errors_77 : decode cL_errors 77 = .ok (.iinc 9 1, 3) := by decide +kernel
theorem dL_errors_80 : decode cL_errors 80 = .ok (.goto (-61), 3) := by decide +kernel
theorem dL_errors_83 : decode cL_errors 83 = .ok (.iconst 0, 1) := by decide +kernel
theorem dL_errors_84 : decode cL_errors 84 = .ok (.istore 9, 2) := by decide +kernel
theorem dL_errors_86 : decode cL_errors 86 = .ok (.iconst 0, 1) := by decide +kernel
theorem dL_errors_87 : decode cL_errors 87 = .ok (.istore 10, 2) := by decide +kernel
theorem dL_errors_89 : decode cL_errors 89 = .ok (.iload 10, 2) := by decide +kernel
theorem dL_errors_91 : decode cL_errors 91 = .ok (.bipush 50, 2) := by decide +kernel
theorem dL_errors_93 : decode cL_errors 93 = .ok (.if_icmp .ge 59, 3) := by decide +kernel
theorem dL_errors_96 : decode cL_errors 96 = .ok (.iload 8, 2) := by decide +kernel
theorem dL_errors_98 : decode cL_errors 98 = .ok (.ifCond .le 54, 3) := by decide +kernel
theorem dL_errors_101 : decode cL_errors 101 = .ok (.iload 9, 2) := by decide +kernel
theorem dL_errors_103 : decode cL_errors 103 = .ok (.ifCond .ne 49, 3) := by decide +kernel
theorem dL_errors_106 : decode cL_errors 106 = .ok (.iload 10, 2) := by decide +kernel
theorem dL_errors_108 : decode cL_errors 108 = .ok (.iload 7, 2) := by decide +kernel
theorem dL_errors_110 : decode cL_errors 110 = .ok (.if_icmp .eq 33, 3) := by decide +kernel
theorem dL_errors_113 : decode cL_errors 113 = .ok (.aload_n 0, 1) := by decide +kernel
theorem dL_errors_114 : decode cL_errors 114 = .ok (.iload 10, 2) := by decide +kernel
theorem dL_errors_116 : decode cL_errors 116 = .ok (.invokestatic 108, 3) := by decide +kernel
theorem dL_errors_119 : decode cL_errors 119 = .ok (.ifCond .eq 24, 3) := by decide +kernel
theorem dL_errors_122 : decode cL_errors 122 = .ok (.aload_n 3, 1) := by decide +kernel
theorem dL_errors_123 : decode cL_errors 123 = .ok (.aload_n 1, 1) := by decide +kernel
theorem dL_errors_124 : decode cL_errors 124 = .ok (.iload 7, 2) := by decide +kernel
theorem dL_errors_126 : decode cL_errors 126 = .ok (.iaload, 1) := by decide +kernel
theorem dL_errors_127 : decode cL_errors 127 = .ok (.aload_n 1, 1) := by decide +kernel
theorem dL_errors_128 : decode cL_errors 128 = .ok (.iload 10, 2) := by decide +kernel
theorem dL_errors_130 : decode cL_errors 130 = .ok (.iaload, 1) := by decide +kernel
theorem dL_errors_131 : decode cL_errors 131 = .ok (.invokestatic 111, 3) := by decide +kernel
theorem dL_errors_134 : decode cL_errors 134 = .ok (.iload 5, 2) := by decide +kernel
theorem dL_errors_136 : decode cL_errors 136 = .ok (.if_icmp .gt 7, 3) := by decide +kernel
theorem dL_errors_139 : decode cL_errors 139 = .ok (.iconst 1, 1) := by decide +kernel
theorem dL_errors_140 : decode cL_errors 140 = .ok (.goto 4, 3) := by decide +kernel
theorem dL_errors_143 : decode cL_errors 143 = .ok (.iconst 0, 1) := by decide +kernel
theorem dL_errors_144 : decode cL_errors 144 = .ok (.istore 9, 2) := by decide +kernel
theorem dL_errors_146 : decode cL_errors 146 = .ok (.iinc 10 1, 3) := by decide +kernel
theorem dL_errors_149 : decode cL_errors 149 = .ok (.goto (-60), 3) := by decide +kernel
theorem dL_errors_152 : decode cL_errors 152 = .ok (.iload 6, 2) := by decide +kernel
theorem dL_errors_154 : decode cL_errors 154 = .ok (.iload 9, 2) := by decide +kernel
theorem dL_errors_156 : decode cL_errors 156 = .ok (.ifCond .eq 8, 3) := by decide +kernel
theorem dL_errors_159 : decode cL_errors 159 = .ok (.iload 8, 2) := by decide +kernel
theorem dL_errors_161 : decode cL_errors 161 = .ok (.goto 4, 3) := by decide +kernel
theorem dL_errors_164 : decode cL_errors 164 = .ok (.iconst 0, 1) := by decide +kernel
theorem dL_errors_165 : decode cL_errors 165 = .ok (.iadd, 1) := by decide +kernel
theorem dL_errors_166 : decode cL_errors 166 = .ok (.istore 6, 2) := by decide +kernel
theorem dL_errors_168 : decode cL_errors 168 = .ok (.iinc 7 1, 3) := by decide +kernel
theorem dL_errors_171 : decode cL_errors 171 = .ok (.goto (-165), 3) := by decide +kernel
theorem dL_errors_174 : decode cL_errors 174 = .ok (.iload 6, 2) := by decide +kernel
theorem dL_errors_176 : decode cL_errors 176 = .ok (.ireturn, 1) := by decide +kernel
theorem dL_travel_0 : decode cL_travel 0 = .ok (.iconst 0, 1) := by decide +kernel
theorem dL_travel_1 : decode cL_travel 1 = .ok (.istore 4, 2) := by decide +kernel
theorem dL_travel_3 : decode cL_travel 3 = .ok (.iconst 0, 1) := by decide +kernel
theorem dL_travel_4 : decode cL_travel 4 = .ok (.istore 5, 2) := by decide +kernel
theorem dL_travel_6 : decode cL_travel 6 = .ok (.iload 5, 2) := by decide +kernel
theorem dL_travel_8 : decode cL_travel 8 = .ok (.aload_n 3, 1) := by decide +kernel
theorem dL_travel_9 : decode cL_travel 9 = .ok (.iconst 0, 1) := by decide +kernel
theorem dL_travel_10 : decode cL_travel 10 = .ok (.iaload, 1) := by decide +kernel
theorem dL_travel_11 : decode cL_travel 11 = .ok (.if_icmp .ge 80, 3) := by decide +kernel
theorem dL_travel_14 : decode cL_travel 14 = .ok (.iconst 1, 1) := by decide +kernel
theorem dL_travel_15 : decode cL_travel 15 = .ok (.istore 6, 2) := by decide +kernel
theorem dL_travel_17 : decode cL_travel 17 = .ok (.iload 6, 2) := by decide +kernel
theorem dL_travel_19 : decode cL_travel 19 = .ok (.aload_n 1, 1) := by decide +kernel
theorem dL_travel_20 : decode cL_travel 20 = .ok (.iload 5, 2) := by decide +kernel
theorem dL_travel_22 : decode cL_travel 22 = .ok (.invokestatic 93, 3) := by decide +kernel
theorem dL_travel_25 : decode cL_travel 25 = .ok (.if_icmp .ge 60, 3) := by decide +kernel
theorem dL_travel_28 : decode cL_travel 28 = .ok (.aload_n 0, 1) := by decide +kernel
theorem dL_travel_29 : decode cL_travel 29 = .ok (.aload_n 1, 1) := by decide +kernel
theorem dL_travel_30 : decode cL_travel 30 = .ok (.iload 5, 2) := by decide +kernel
theorem dL_travel_32 : decode cL_travel 32 = .ok (.iload 6, 2) := by decide +kernel
theorem dL_travel_34 : decode cL_travel 34 = .ok (.invokestatic 85, 3) := by decide +kernel
theorem dL_travel_37 : decode cL_travel 37 = .ok (.iaload, 1) := by decide +kernel
theorem dL_travel_38 : decode cL_travel 38 = .ok (.aload_n 0, 1) := by decide +kernel
theorem dL_travel_39 : decode cL_travel 39 = .ok (.aload_n 1, 1) := by decide +kernel
theorem dL_travel_40 : decode cL_travel 40 = .ok (.iload 5, 2) := by decide +kernel
theorem dL_travel_42 : decode cL_travel 42 = .ok (.iload 6, 2) := by decide +kernel
theorem dL_travel_44 : decode cL_travel 44 = .ok (.iconst 1, 1) := by decide +kernel
theorem dL_travel_45 : decode cL_travel 45 = .ok (.isub, 1) := by decide +kernel
theorem dL_travel_46 : decode cL_travel 46 = .ok (.invokestatic 85, 3) := by decide +kernel
theorem dL_travel_49 : decode cL_travel 49 = .ok (.iaload, 1) := by decide +kernel
theorem dL_travel_50 : decode cL_travel 50 = .ok (.isub, 1) := by decide +kernel
theorem dL_travel_51 : decode cL_travel 51 = .ok (.istore 7, 2) := by decide +kernel
theorem dL_travel_53 : decode cL_travel 53 = .ok (.iload 4, 2) := by decide +kernel
theorem dL_travel_55 : decode cL_travel 55 = .ok (.aload_n 2, 1) := by decide +kernel
theorem dL_travel_56 : decode cL_travel 56 = .ok (.bipush 8, 2) := by decide +kernel
theorem dL_travel_58 : decode cL_travel 58 = .ok (.iload 5, 2) := by decide +kernel
theorem dL_travel_60 : decode cL_travel 60 = .ok (.iadd, 1) := by decide +kernel
theorem dL_travel_61 : decode cL_travel 61 = .ok (.iaload, 1) := by decide +kernel
theorem dL_travel_62 : decode cL_travel 62 = .ok (.iload 7, 2) := by decide +kernel
theorem dL_travel_64 : decode cL_travel 64 = .ok (.ifCond .le 8, 3) := by decide +kernel
theorem dL_travel_67 : decode cL_travel 67 = .ok (.iload 7, 2) := by decide +kernel
theorem dL_travel_69 : decode cL_travel 69 = .ok (.goto 6, 3) := by decide +kernel
theorem dL_travel_72 : decode cL_travel 72 = .ok (.iload 7, 2) := by decide +kernel
theorem dL_travel_74 : decode cL_travel 74 = .ok (.ineg, 1) := by decide +kernel
theorem dL_travel_75 : decode cL_travel 75 = .ok (.imul, 1) := by decide +kernel
theorem dL_travel_76 : decode cL_travel 76 = .ok (.iadd, 1) := by decide +kernel
theorem dL_travel_77 : decode cL_travel 77 = .ok (.istore 4, 2) := by decide +kernel
theorem dL_travel_79 : decode cL_travel 79 = .ok (.iinc 6 1, 3) := by decide +kernel
theorem dL_travel_82 : decode cL_travel 82 = .ok (.goto (-65), 3) := by decide +kernel
theorem dL_travel_85 : decode cL_travel 85 = .ok (.iinc 5 1, 3) := by decide +kernel
theorem dL_travel_88 : decode cL_travel 88 = .ok (.goto (-82), 3) := by decide +kernel
theorem dL_travel_91 : decode cL_travel 91 = .ok (.iload 4, 2) := by decide +kernel
theorem dL_travel_93 : decode cL_travel 93 = .ok (.ireturn, 1) := by decide +kernel
theorem dL_hasSign_0 : decode cL_hasSign 0 = .ok (.iconst 0, 1) := by decide +kernel
theorem dL_hasSign_1 : decode cL_hasSign 1 = .ok (.istore 5, 2) := by decide +kernel
theorem dL_hasSign_3 : decode cL_hasSign 3 = .ok (.iconst 1, 1) := by decide +kernel
theorem dL_hasSign_4 : decode cL_hasSign 4 = .ok (.istore 6, 2) := by decide +kernel
theorem dL_hasSign_6 : decode cL_hasSign 6 = .ok (.iconst 0, 1) := by decide +kernel
theorem dL_hasSign_7 : decode cL_hasSign 7 = .ok (.istore 7, 2) := by decide +kernel
theorem dL_hasSign_9 : decode cL_hasSign 9 = .ok (.iload 7, 2) := by decide +kernel
theorem dL_hasSign_11 : decode cL_hasSign 11 = .ok (.aload_n 0, 1) := by decide +kernel
theorem dL_hasSign_12 : decode cL_hasSign 12 = .ok (.iload_n 1, 1) := by decide +kernel
theorem dL_hasSign_13 : decode cL_hasSign 13 = .ok (.invokestatic 93, 3) := by decide +kernel
theorem dL_hasSign_16 : decode cL_hasSign 16 = .ok (.if_icmp .ge 60, 3) := by decide +kernel
theorem dL_hasSign_19 : decode cL_hasSign 19 = .ok (.iload 5, 2) := by decide +kernel
theorem dL_hasSign_21 : decode cL_hasSign 21 = .ok (.ifCond .ne 14, 3) := by decide +kernel
theorem dL_hasSign_24 : decode cL_hasSign 24 = .ok (.aload_n 0, 1) := by decide +kernel
theorem dL_hasSign_25 : decode cL_hasSign 25 = .ok (.iload_n 1, 1) := by decide +kernel
theorem dL_hasSign_26 : decode cL_hasSign 26 = .ok (.iload 7, 2) := by decide +kernel
theorem dL_hasSign_28 : decode cL_hasSign 28 = .ok (.invokestatic 85, 3) := by decide +kernel
theorem dL_hasSign_31 : decode cL_hasSign 31 = .ok (.iload_n 2, 1) := by decide +kernel
theorem dL_hasSign_32 : decode cL_hasSign 32 = .ok (.if_icmp .ne 7, 3) := by decide +kernel
theorem dL_hasSign_35 : decode cL_hasSign 35 = .ok (.iconst 1, 1) := by decide +kernel
theorem dL_hasSign_36 : decode cL_hasSign 36 = .ok (.goto 4, 3) := by decide +kernel
theorem dL_hasSign_39 : decode cL_hasSign 39 = .ok (.iconst 0, 1) := by decide +kernel
theorem dL_hasSign_40 : decode cL_hasSign 40 = .ok (.istore 5, 2) := by decide +kernel
theorem dL_hasSign_42 : decode cL_hasSign 42 = .ok (.iload 6, 2) := by decide +kernel
theorem dL_hasSign_44 : decode cL_hasSign 44 = .ok (.ifCond .eq 23, 3) := by decide +kernel
theorem dL_hasSign_47 : decode cL_hasSign 47 = .ok (.lload_n 3, 1) := by decide +kernel
theorem dL_hasSign_48 : decode cL_hasSign 48 = .ok (.aload_n 0, 1) := by decide +kernel
theorem dL_hasSign_49 : decode cL_hasSign 49 = .ok (.iload_n 1, 1) := by decide +kernel
theorem dL_hasSign_50 : decode cL_hasSign 50 = .ok (.iload 7, 2) := by decide +kernel
theorem dL_hasSign_52 : decode cL_hasSign 52 = .ok (.invokestatic 85, 3) := by decide +kernel
theorem dL_hasSign_55 : decode cL_hasSign 55 = .ok (.lshr, 1) := by decide +kernel
theorem dL_hasSign_56 : decode cL_hasSign 56 = .ok (.lconst 1, 1) := by decide +kernel
theorem dL_hasSign_57 : decode cL_hasSign 57 = .ok (.land, 1) := by decide +kernel
theorem dL_hasSign_58 : decode cL_hasSign 58 = .ok (.lconst 1, 1) := by decide +kernel
theorem dL_hasSign_59 : decode cL_hasSign 59 = .ok (.lcmp, 1) := by decide +kernel
theorem dL_hasSign_60 : decode cL_hasSign 60 = .ok (.ifCond .ne 7, 3) := by decide +kernel
theorem dL_hasSign_63 : decode cL_hasSign 63 = .ok (.iconst 1, 1) := by decide +kernel
theorem dL_hasSign_64 : decode cL_hasSign 64 = .ok (.goto 4, 3) := by decide +kernel
theorem dL_hasSign_67 : decode cL_hasSign 67 = .ok (.iconst 0, 1) := by decide +kernel
theorem dL_hasSign_68 : decode cL_hasSign 68 = .ok (.istore 6, 2) := by decide +kernel
theorem dL_hasSign_70 : decode cL_hasSign 70 = .ok (.iinc 7 1, 3) := by decide +kernel
theorem dL_hasSign_73 : decode cL_hasSign 73 = .ok (.goto (-64), 3) := by decide +kernel
theorem dL_hasSign_76 : decode cL_hasSign 76 = .ok (.iload_n 2, 1) := by decide +kernel
theorem dL_hasSign_77 : decode cL_hasSign 77 = .ok (.ifCond .ge 8, 3) := by decide +kernel
theorem dL_hasSign_80 : decode cL_hasSign 80 = .ok (.iload 6, 2) := by decide +kernel
theorem dL_hasSign_82 : decode cL_hasSign 82 = .ok (.goto 5, 3) := by decide +kernel
theorem dL_hasSign_85 : decode cL_hasSign 85 = .ok (.iload 5, 2) := by decide +kernel
theorem dL_hasSign_87 : decode cL_hasSign 87 = .ok (.ireturn, 1) := by decide +kernel
theorem dL_read_0 : decode cL_read 0 = .ok (.iconst 0, 1) := by decide +kernel
theorem dL_read_1 : decode cL_read 1 = .ok (.istore 5, 2) := by decide +kernel
theorem dL_read_3 : decode cL_read 3 = .ok (.iconst 0, 1) := by decide +kernel
theorem dL_read_4 : decode cL_read 4 = .ok (.istore 6, 2) := by decide +kernel
theorem dL_read_6 : decode cL_read 6 = .ok (.iload 6, 2) := by decide +kernel
theorem dL_read_8 : decode cL_read 8 = .ok (.aload_n 2, 1) := by decide +kernel
theorem dL_read_9 : decode cL_read 9 = .ok (.iconst 0, 1) := by decide +kernel
theorem dL_read_10 : decode cL_read 10 = .ok (.iaload, 1) := by decide +kernel
theorem dL_read_11 : decode cL_read 11 = .ok (.if_icmp .ge 36, 3) := by decide +kernel
theorem dL_read_14 : decode cL_read 14 = .ok (.iload 5, 2) := by decide +kernel
theorem dL_read_16 : decode cL_read 16 = .ok (.aload_n 0, 1) := by decide +kernel
theorem dL_read_17 : decode cL_read 17 = .ok (.iload 6, 2) := by decide +kernel
theorem dL_read_19 : decode cL_read 19 = .ok (.iconst (-1), 1) := by decide +kernel
theorem dL_read_20 : decode cL_read 20 = .ok (.lload_n 3, 1) := by decide +kernel
theorem dL_read_21 : decode cL_read 21 = .ok (.invokestatic 115, 3) := by decide +kernel
theorem dL_read_24 : decode cL_read 24 = .ok (.ifCond .eq 13, 3) := by decide +kernel
theorem dL_read_27 : decode cL_read 27 = .ok (.aload_n 1, 1) := by decide +kernel
theorem dL_read_28 : decode cL_read 28 = .ok (.bipush 8, 2) := by decide +kernel
theorem dL_read_30 : decode cL_read 30 = .ok (.iload 6, 2) := by decide +kernel
theorem dL_read_32 : decode cL_read 32 = .ok (.iadd, 1) := by decide +kernel
theorem dL_read_33 : decode cL_read 33 = .ok (.iaload, 1) := by decide +kernel
theorem dL_read_34 : decode cL_read 34 = .ok (.goto 4, 3) := by decide +kernel
theorem dL_read_37 : decode cL_read 37 = .ok (.iconst 0, 1) := by decide +kernel
theorem dL_read_38 : decode cL_read 38 = .ok (.iadd, 1) := by decide +kernel
theorem dL_read_39 : decode cL_read 39 = .ok (.istore 5, 2) := by decide +kernel
theorem dL_read_41 : decode cL_read 41 = .ok (.iinc 6 1, 3) := by decide +kernel
theorem dL_read_44 : decode cL_read 44 = .ok (.goto (-38), 3) := by decide +kernel
theorem dL_read_47 : decode cL_read 47 = .ok (.iload 5, 2) := by decide +kernel
theorem dL_read_49 : decode cL_read 49 = .ok (.ireturn, 1) := by decide +kernel
theorem dL_isPrimer_0 : decode cL_isPrimer 0 = .ok (.lconst 0, 1) := by decide +kernel
theorem dL_isPrimer_1 : decode cL_isPrimer 1 = .ok (.lstore 5, 2) := by decide +kernel
theorem dL_isPrimer_3 : decode cL_isPrimer 3 = .ok (.iconst 0, 1) := by decide +kernel
theorem dL_isPrimer_4 : decode cL_isPrimer 4 = .ok (.istore 7, 2) := by decide +kernel
theorem dL_isPrimer_6 : decode cL_isPrimer 6 = .ok (.iconst 0, 1) := by decide +kernel
theorem dL_isPrimer_7 : decode cL_isPrimer 7 = .ok (.istore 8, 2) := by decide +kernel
theorem dL_isPrimer_9 : decode cL_isPrimer 9 = .ok (.iconst 1, 1) := by decide +kernel
theorem dL_isPrimer_10 : decode cL_isPrimer 10 = .ok (.istore 9, 2) := by decide +kernel
theorem dL_isPrimer_12 : decode cL_isPrimer 12 = .ok (.iload 9, 2) := by decide +kernel
theorem dL_isPrimer_14 : decode cL_isPrimer 14 = .ok (.ifCond .eq 287, 3) := by decide +kernel
theorem dL_isPrimer_17 : decode cL_isPrimer 17 = .ok (.iload 7, 2) := by decide +kernel
theorem dL_isPrimer_19 : decode cL_isPrimer 19 = .ok (.bipush 51, 2) := by decide +kernel
theorem dL_isPrimer_21 : decode cL_isPrimer 21 = .ok (.if_icmp .ge 280, 3) := by decide +kernel
theorem dL_isPrimer_24 : decode cL_isPrimer 24 = .ok (.iconst (-1), 1) := by decide +kernel
theorem dL_isPrimer_25 : decode cL_isPrimer 25 = .ok (.istore 10, 2) := by decide +kernel
theorem dL_isPrimer_27 : decode cL_isPrimer 27 = .ok (.iconst 0, 1) := by decide +kernel
theorem dL_isPrimer_28 : decode cL_isPrimer 28 = .ok (.istore 11, 2) := by decide +kernel
theorem dL_isPrimer_30 : decode cL_isPrimer 30 = .ok (.iconst 0, 1) := by decide +kernel
theorem dL_isPrimer_31 : decode cL_isPrimer 31 = .ok (.istore 12, 2) := by decide +kernel
theorem dL_isPrimer_33 : decode cL_isPrimer 33 = .ok (.bipush 49, 2) := by decide +kernel
theorem dL_isPrimer_35 : decode cL_isPrimer 35 = .ok (.istore 13, 2) := by decide +kernel
theorem dL_isPrimer_37 : decode cL_isPrimer 37 = .ok (.iload 13, 2) := by decide +kernel
theorem dL_isPrimer_39 : decode cL_isPrimer 39 = .ok (.ifCond .lt 200, 3) := by decide +kernel
theorem dL_isPrimer_42 : decode cL_isPrimer 42 = .ok (.iconst 0, 1) := by decide +kernel
theorem dL_isPrimer_43 : decode cL_isPrimer 43 = .ok (.istore 14, 2) := by decide +kernel
theorem dL_isPrimer_45 : decode cL_isPrimer 45 = .ok (.iconst 0, 1) := by decide +kernel
theorem dL_isPrimer_46 : decode cL_isPrimer 46 = .ok (.istore 15, 2) := by decide +kernel
theorem dL_isPrimer_48 : decode cL_isPrimer 48 = .ok (.iconst 0, 1) := by decide +kernel
theorem dL_isPrimer_49 : decode cL_isPrimer 49 = .ok (.istore 16, 2) := by decide +kernel
theorem dL_isPrimer_51 : decode cL_isPrimer 51 = .ok (.iload 16, 2) := by decide +kernel
theorem dL_isPrimer_53 : decode cL_isPrimer 53 = .ok (.aload_n 3, 1) := by decide +kernel
theorem dL_isPrimer_54 : decode cL_isPrimer 54 = .ok (.iconst 0, 1) := by decide +kernel
theorem dL_isPrimer_55 : decode cL_isPrimer 55 = .ok (.iaload, 1) := by decide +kernel
theorem dL_isPrimer_56 : decode cL_isPrimer 56 = .ok (.if_icmp .ge 70, 3) := by decide +kernel
theorem dL_isPrimer_59 : decode cL_isPrimer 59 = .ok (.aload_n 1, 1) := by decide +kernel
theorem dL_isPrimer_60 : decode cL_isPrimer 60 = .ok (.iload 16, 2) := by decide +kernel
theorem dL_isPrimer_62 : decode cL_isPrimer 62 = .ok (.iload 13, 2) := by decide +kernel
theorem dL_isPrimer_64 : decode cL_isPrimer 64 = .ok (.lconst 0, 1) := by decide +kernel
theorem dL_isPrimer_65 : decode cL_isPrimer 65 = .ok (.invokestatic 115, 3) := by decide +kernel
theorem dL_isPrimer_68 : decode cL_isPrimer 68 = .ok (.istore 17, 2) := by decide +kernel
theorem dL_isPrimer_70 : decode cL_isPrimer 70 = .ok (.iload 14, 2) := by decide +kernel
theorem dL_isPrimer_72 : decode cL_isPrimer 72 = .ok (.ifCond .ne 8, 3) := by decide +kernel
theorem dL_isPrimer_75 : decode cL_isPrimer 75 = .ok (.iload 17, 2) := by decide +kernel
theorem dL_isPrimer_77 : decode cL_isPrimer 77 = .ok (.ifCond .eq 7, 3) := by decide +kernel
theorem dL_isPrimer_80 : decode cL_isPrimer 80 = .ok (.iconst 1, 1) := by decide +kernel
theorem dL_isPrimer_81 : decode cL_isPrimer 81 = .ok (.goto 4, 3) := by decide +kernel
theorem dL_isPrimer_84 : decode cL_isPrimer 84 = .ok (.iconst 0, 1) := by decide +kernel
theorem dL_isPrimer_85 : decode cL_isPrimer 85 = .ok (.istore 14, 2) := by decide +kernel
theorem dL_isPrimer_87 : decode cL_isPrimer 87 = .ok (.iload 15, 2) := by decide +kernel
theorem dL_isPrimer_89 : decode cL_isPrimer 89 = .ok (.iload 17, 2) := by decide +kernel
theorem dL_isPrimer_91 : decode cL_isPrimer 91 = .ok (.ifCond .eq 25, 3) := by decide +kernel
theorem dL_isPrimer_94 : decode cL_isPrimer 94 = .ok (.aload_n 1, 1) := by decide +kernel
theorem dL_isPrimer_95 : decode cL_isPrimer 95 = .ok (.iload 16, 2) := by decide +kernel
theorem dL_isPrimer_97 : decode cL_isPrimer 97 = .ok (.iconst (-1), 1) := by decide +kernel
theorem dL_isPrimer_98 : decode cL_isPrimer 98 = .ok (.lload 5, 2) := by decide +kernel
theorem dL_isPrimer_100 : decode cL_isPrimer 100 = .ok (.invokestatic 115, 3) := by decide +kernel
theorem dL_isPrimer_103 : decode cL_isPrimer 103 = .ok (.ifCond .ne 13, 3) := by decide +kernel
theorem dL_isPrimer_106 : decode cL_isPrimer 106 = .ok (.aload_n 2, 1) := by decide +kernel
theorem dL_isPrimer_107 : decode cL_isPrimer 107 = .ok (.bipush 8, 2) := by decide +kernel
theorem dL_isPrimer_109 : decode cL_isPrimer 109 = .ok (.iload 16, 2) := by decide +kernel
theorem dL_isPrimer_111 : decode cL_isPrimer 111 = .ok (.iadd, 1) := by decide +kernel
theorem dL_isPrimer_112 : decode cL_isPrimer 112 = .ok (.iaload, 1) := by decide +kernel
theorem dL_isPrimer_113 : decode cL_isPrimer 113 = .ok (.goto 4, 3) := by decide +kernel
theorem dL_isPrimer_116 : decode cL_isPrimer 116 = .ok (.iconst 0, 1) := by decide +kernel
theorem dL_isPrimer_117 : decode cL_isPrimer 117 = .ok (.iadd, 1) := by decide +kernel
theorem dL_isPrimer_118 : decode cL_isPrimer 118 = .ok (.istore 15, 2) := by decide +kernel
theorem dL_isPrimer_120 : decode cL_isPrimer 120 = .ok (.iinc 16 1, 3) := by decide +kernel
theorem dL_isPrimer_123 : decode cL_isPrimer 123 = .ok (.goto (-72), 3) := by decide +kernel
theorem dL_isPrimer_126 : decode cL_isPrimer 126 = .ok (.iload 14, 2) := by decide +kernel
theorem dL_isPrimer_128 : decode cL_isPrimer 128 = .ok (.ifCond .eq 105, 3) := by decide +kernel
theorem dL_isPrimer_131 : decode cL_isPrimer 131 = .ok (.lload 5, 2) := by decide +kernel
theorem dL_isPrimer_133 : decode cL_isPrimer 133 = .ok (.iload 13, 2) := by decide +kernel
theorem dL_isPrimer_135 : decode cL_isPrimer 135 = .ok (.lshr, 1) := by decide +kernel
theorem dL_isPrimer_136 : decode cL_isPrimer 136 = .ok (.lconst 1, 1) := by decide +kernel
theorem dL_isPrimer_137 : decode cL_isPrimer 137 = .ok (.land, 1) := by decide +kernel
theorem dL_isPrimer_138 : decode cL_isPrimer 138 = .ok (.lconst 0, 1) := by decide +kernel
theorem dL_isPrimer_139 : decode cL_isPrimer 139 = .ok (.lcmp, 1) := by decide +kernel
theorem dL_isPrimer_140 : decode cL_isPrimer 140 = .ok (.ifCond .ne 93, 3) := by decide +kernel
theorem dL_isPrimer_143 : decode cL_isPrimer 143 = .ok (.aload_n 1, 1) := by decide +kernel
theorem dL_isPrimer_144 : decode cL_isPrimer 144 = .ok (.aload_n 2, 1) := by decide +kernel
theorem dL_isPrimer_145 : decode cL_isPrimer 145 = .ok (.aload_n 3, 1) := by decide +kernel
theorem dL_isPrimer_146 : decode cL_isPrimer 146 = .ok (.lload 5, 2) := by decide +kernel
theorem dL_isPrimer_148 : decode cL_isPrimer 148 = .ok (.lconst 1, 1) := by decide +kernel
theorem dL_isPrimer_149 : decode cL_isPrimer 149 = .ok (.iload 13, 2) := by decide +kernel
theorem dL_isPrimer_151 : decode cL_isPrimer 151 = .ok (.lshl, 1) := by decide +kernel
theorem dL_isPrimer_152 : decode cL_isPrimer 152 = .ok (.lor, 1) := by decide +kernel
