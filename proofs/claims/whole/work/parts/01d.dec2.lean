theorem dX11_doubts_67 : decode cX11_doubts 67 = .ok (.goto 4, 3) := by decide +kernel
theorem dX11_doubts_70 : decode cX11_doubts 70 = .ok (.iconst 0, 1) := by decide +kernel
theorem dX11_doubts_71 : decode cX11_doubts 71 = .ok (.iadd, 1) := by decide +kernel
theorem dX11_doubts_72 : decode cX11_doubts 72 = .ok (.istore_n 2, 1) := by decide +kernel
theorem dX11_doubts_73 : decode cX11_doubts 73 = .ok (.iinc 4 1, 3) := by decide +kernel
theorem dX11_doubts_76 : decode cX11_doubts 76 = .ok (.goto (-27), 3) := by decide +kernel
theorem dX11_doubts_79 : decode cX11_doubts 79 = .ok (.iinc 3 1, 3) := by decide +kernel
theorem dX11_doubts_82 : decode cX11_doubts 82 = .ok (.goto (-44), 3) := by decide +kernel
theorem dX11_doubts_85 : decode cX11_doubts 85 = .ok (.iload_n 2, 1) := by decide +kernel
theorem dX11_doubts_86 : decode cX11_doubts 86 = .ok (.ireturn, 1) := by decide +kernel
theorem dX11_loadOf_0 : decode cX11_loadOf 0 = .ok (.aload_n 0, 1) := by decide +kernel
theorem dX11_loadOf_1 : decode cX11_loadOf 1 = .ok (.iload_n 1, 1) := by decide +kernel
theorem dX11_loadOf_2 : decode cX11_loadOf 2 = .ok (.aload_n 0, 1) := by decide +kernel
theorem dX11_loadOf_3 : decode cX11_loadOf 3 = .ok (.getfield 41, 3) := by decide +kernel
theorem dX11_loadOf_6 : decode cX11_loadOf 6 = .ok (.iload_n 1, 1) := by decide +kernel
theorem dX11_loadOf_7 : decode cX11_loadOf 7 = .ok (.iaload, 1) := by decide +kernel
theorem dX11_loadOf_8 : decode cX11_loadOf 8 = .ok (.iconst 0, 1) := by decide +kernel
theorem dX11_loadOf_9 : decode cX11_loadOf 9 = .ok (.invokevirtual 156, 3) := by decide +kernel
theorem dX11_loadOf_12 : decode cX11_loadOf 12 = .ok (.iconst 0, 1) := by decide +kernel
theorem dX11_loadOf_13 : decode cX11_loadOf 13 = .ok (.istore_n 2, 1) := by decide +kernel
theorem dX11_loadOf_14 : decode cX11_loadOf 14 = .ok (.iconst 0, 1) := by decide +kernel
theorem dX11_loadOf_15 : decode cX11_loadOf 15 = .ok (.istore_n 3, 1) := by decide +kernel
theorem dX11_loadOf_16 : decode cX11_loadOf 16 = .ok (.iload_n 3, 1) := by decide +kernel
theorem dX11_loadOf_17 : decode cX11_loadOf 17 = .ok (.aload_n 0, 1) := by decide +kernel
theorem dX11_loadOf_18 : decode cX11_loadOf 18 = .ok (.getfield 100, 3) := by decide +kernel
theorem dX11_loadOf_21 : decode cX11_loadOf 21 = .ok (.if_icmp .ge 114, 3) := by decide +kernel
theorem dX11_loadOf_24 : decode cX11_loadOf 24 = .ok (.iconst 1, 1) := by decide +kernel
theorem dX11_loadOf_25 : decode cX11_loadOf 25 = .ok (.istore 4, 2) := by decide +kernel
theorem dX11_loadOf_27 : decode cX11_loadOf 27 = .ok (.iconst 0, 1) := by decide +kernel
theorem dX11_loadOf_28 : decode cX11_loadOf 28 = .ok (.istore 5, 2) := by decide +kernel
theorem dX11_loadOf_30 : decode cX11_loadOf 30 = .ok (.iload 5, 2) := by decide +kernel
theorem dX11_loadOf_32 : decode cX11_loadOf 32 = .ok (.aload_n 0, 1) := by decide +kernel
theorem dX11_loadOf_33 : decode cX11_loadOf 33 = .ok (.getfield 100, 3) := by decide +kernel
theorem dX11_loadOf_36 : decode cX11_loadOf 36 = .ok (.if_icmp .ge 75, 3) := by decide +kernel
theorem dX11_loadOf_39 : decode cX11_loadOf 39 = .ok (.iload 4, 2) := by decide +kernel
theorem dX11_loadOf_41 : decode cX11_loadOf 41 = .ok (.ifCond .eq 61, 3) := by decide +kernel
theorem dX11_loadOf_44 : decode cX11_loadOf 44 = .ok (.iload 5, 2) := by decide +kernel
theorem dX11_loadOf_46 : decode cX11_loadOf 46 = .ok (.iload_n 3, 1) := by decide +kernel
theorem dX11_loadOf_47 : decode cX11_loadOf 47 = .ok (.if_icmp .eq 51, 3) := by decide +kernel
theorem dX11_loadOf_50 : decode cX11_loadOf 50 = .ok (.aload_n 0, 1) := by decide +kernel
theorem dX11_loadOf_51 : decode cX11_loadOf 51 = .ok (.iload_n 3, 1) := by decide +kernel
theorem dX11_loadOf_52 : decode cX11_loadOf 52 = .ok (.iload 5, 2) := by decide +kernel
theorem dX11_loadOf_54 : decode cX11_loadOf 54 = .ok (.invokevirtual 160, 3) := by decide +kernel
theorem dX11_loadOf_57 : decode cX11_loadOf 57 = .ok (.ifCond .eq 41, 3) := by decide +kernel
theorem dX11_loadOf_60 : decode cX11_loadOf 60 = .ok (.aload_n 0, 1) := by decide +kernel
theorem dX11_loadOf_61 : decode cX11_loadOf 61 = .ok (.getfield 19, 3) := by decide +kernel
theorem dX11_loadOf_64 : decode cX11_loadOf 64 = .ok (.iload 5, 2) := by decide +kernel
theorem dX11_loadOf_66 : decode cX11_loadOf 66 = .ok (.iaload, 1) := by decide +kernel
theorem dX11_loadOf_67 : decode cX11_loadOf 67 = .ok (.aload_n 0, 1) := by decide +kernel
theorem dX11_loadOf_68 : decode cX11_loadOf 68 = .ok (.getfield 19, 3) := by decide +kernel
theorem dX11_loadOf_71 : decode cX11_loadOf 71 = .ok (.iload_n 3, 1) := by decide +kernel
theorem dX11_loadOf_72 : decode cX11_loadOf 72 = .ok (.iaload, 1) := by decide +kernel
theorem dX11_loadOf_73 : decode cX11_loadOf 73 = .ok (.if_icmp .gt 29, 3) := by decide +kernel
theorem dX11_loadOf_76 : decode cX11_loadOf 76 = .ok (.aload_n 0, 1) := by decide +kernel
theorem dX11_loadOf_77 : decode cX11_loadOf 77 = .ok (.getfield 19, 3) := by decide +kernel
theorem dX11_loadOf_80 : decode cX11_loadOf 80 = .ok (.iload 5, 2) := by decide +kernel
theorem dX11_loadOf_82 : decode cX11_loadOf 82 = .ok (.iaload, 1) := by decide +kernel
theorem dX11_loadOf_83 : decode cX11_loadOf 83 = .ok (.aload_n 0, 1) := by decide +kernel
theorem dX11_loadOf_84 : decode cX11_loadOf 84 = .ok (.getfield 19, 3) := by decide +kernel
theorem dX11_loadOf_87 : decode cX11_loadOf 87 = .ok (.iload_n 3, 1) := by decide +kernel
theorem dX11_loadOf_88 : decode cX11_loadOf 88 = .ok (.iaload, 1) := by decide +kernel
theorem dX11_loadOf_89 : decode cX11_loadOf 89 = .ok (.if_icmp .ne 9, 3) := by decide +kernel
theorem dX11_loadOf_92 : decode cX11_loadOf 92 = .ok (.iload 5, 2) := by decide +kernel
theorem dX11_loadOf_94 : decode cX11_loadOf 94 = .ok (.iload_n 3, 1) := by decide +kernel
theorem dX11_loadOf_95 : decode cX11_loadOf 95 = .ok (.if_icmp .lt 7, 3) := by decide +kernel
theorem dX11_loadOf_98 : decode cX11_loadOf 98 = .ok (.iconst 1, 1) := by decide +kernel
theorem dX11_loadOf_99 : decode cX11_loadOf 99 = .ok (.goto 4, 3) := by decide +kernel
theorem dX11_loadOf_102 : decode cX11_loadOf 102 = .ok (.iconst 0, 1) := by decide +kernel
theorem dX11_loadOf_103 : decode cX11_loadOf 103 = .ok (.istore 4, 2) := by decide +kernel
theorem dX11_loadOf_105 : decode cX11_loadOf 105 = .ok (.iinc 5 1, 3) := by decide +kernel
theorem dX11_loadOf_108 : decode cX11_loadOf 108 = .ok (.goto (-78), 3) := by decide +kernel
theorem dX11_loadOf_111 : decode cX11_loadOf 111 = .ok (.iload_n 2, 1) := by decide +kernel
theorem dX11_loadOf_112 : decode cX11_loadOf 112 = .ok (.iload 4, 2) := by decide +kernel
theorem dX11_loadOf_114 : decode cX11_loadOf 114 = .ok (.ifCond .eq 7, 3) := by decide +kernel
theorem dX11_loadOf_117 : decode cX11_loadOf 117 = .ok (.iconst 0, 1) := by decide +kernel
theorem dX11_loadOf_118 : decode cX11_loadOf 118 = .ok (.goto 9, 3) := by decide +kernel
theorem dX11_loadOf_121 : decode cX11_loadOf 121 = .ok (.aload_n 0, 1) := by decide +kernel
theorem dX11_loadOf_122 : decode cX11_loadOf 122 = .ok (.getfield 19, 3) := by decide +kernel
theorem dX11_loadOf_125 : decode cX11_loadOf 125 = .ok (.iload_n 3, 1) := by decide +kernel
theorem dX11_loadOf_126 : decode cX11_loadOf 126 = .ok (.iaload, 1) := by decide +kernel
theorem dX11_loadOf_127 : decode cX11_loadOf 127 = .ok (.iadd, 1) := by decide +kernel
theorem dX11_loadOf_128 : decode cX11_loadOf 128 = .ok (.istore_n 2, 1) := by decide +kernel
theorem dX11_loadOf_129 : decode cX11_loadOf 129 = .ok (.iinc 3 1, 3) := by decide +kernel
theorem dX11_loadOf_132 : decode cX11_loadOf 132 = .ok (.goto (-116), 3) := by decide +kernel
theorem dX11_loadOf_135 : decode cX11_loadOf 135 = .ok (.iload_n 2, 1) := by decide +kernel
theorem dX11_loadOf_136 : decode cX11_loadOf 136 = .ok (.ireturn, 1) := by decide +kernel
theorem dX11_load_0 : decode cX11_load 0 = .ok (.aload_n 0, 1) := by decide +kernel
theorem dX11_load_1 : decode cX11_load 1 = .ok (.aload_n 0, 1) := by decide +kernel
theorem dX11_load_2 : decode cX11_load 2 = .ok (.iload_n 1, 1) := by decide +kernel
theorem dX11_load_3 : decode cX11_load 3 = .ok (.invokevirtual 146, 3) := by decide +kernel
theorem dX11_load_6 : decode cX11_load 6 = .ok (.ifCond .eq 7, 3) := by decide +kernel
theorem dX11_load_9 : decode cX11_load 9 = .ok (.iconst 0, 1) := by decide +kernel
theorem dX11_load_10 : decode cX11_load 10 = .ok (.goto 4, 3) := by decide +kernel
theorem dX11_load_13 : decode cX11_load 13 = .ok (.iconst 1, 1) := by decide +kernel
theorem dX11_load_14 : decode cX11_load 14 = .ok (.invokevirtual 113, 3) := by decide +kernel
theorem dX11_load_17 : decode cX11_load 17 = .ok (.ifCond .eq 7, 3) := by decide +kernel
theorem dX11_load_20 : decode cX11_load 20 = .ok (.iconst 0, 1) := by decide +kernel
theorem dX11_load_21 : decode cX11_load 21 = .ok (.goto 8, 3) := by decide +kernel
theorem dX11_load_24 : decode cX11_load 24 = .ok (.aload_n 0, 1) := by decide +kernel
theorem dX11_load_25 : decode cX11_load 25 = .ok (.iload_n 1, 1) := by decide +kernel
theorem dX11_load_26 : decode cX11_load 26 = .ok (.invokevirtual 163, 3) := by decide +kernel
theorem dX11_load_29 : decode cX11_load 29 = .ok (.ireturn, 1) := by decide +kernel
theorem dX11_loadIf_0 : decode cX11_loadIf 0 = .ok (.aload_n 0, 1) := by decide +kernel
theorem dX11_loadIf_1 : decode cX11_loadIf 1 = .ok (.aload_n 0, 1) := by decide +kernel
theorem dX11_loadIf_2 : decode cX11_loadIf 2 = .ok (.iload_n 1, 1) := by decide +kernel
theorem dX11_loadIf_3 : decode cX11_loadIf 3 = .ok (.invokevirtual 146, 3) := by decide +kernel
theorem dX11_loadIf_6 : decode cX11_loadIf 6 = .ok (.ifCond .eq 16, 3) := by decide +kernel
theorem dX11_loadIf_9 : decode cX11_loadIf 9 = .ok (.iload_n 2, 1) := by decide +kernel
theorem dX11_loadIf_10 : decode cX11_loadIf 10 = .ok (.iconst 0, 1) := by decide +kernel
theorem dX11_loadIf_11 : decode cX11_loadIf 11 = .ok (.iconst 2, 1) := by decide +kernel
theorem dX11_loadIf_12 : decode cX11_loadIf 12 = .ok (.invokestatic 103, 3) := by decide +kernel
theorem dX11_loadIf_15 : decode cX11_loadIf 15 = .ok (.ifCond .eq 7, 3) := by decide +kernel
theorem dX11_loadIf_18 : decode cX11_loadIf 18 = .ok (.iconst 0, 1) := by decide +kernel
theorem dX11_loadIf_19 : decode cX11_loadIf 19 = .ok (.goto 4, 3) := by decide +kernel
theorem dX11_loadIf_22 : decode cX11_loadIf 22 = .ok (.iconst 1, 1) := by decide +kernel
theorem dX11_loadIf_23 : decode cX11_loadIf 23 = .ok (.invokevirtual 113, 3) := by decide +kernel
theorem dX11_loadIf_26 : decode cX11_loadIf 26 = .ok (.ifCond .eq 5, 3) := by decide +kernel
theorem dX11_loadIf_29 : decode cX11_loadIf 29 = .ok (.iconst 0, 1) := by decide +kernel
theorem dX11_loadIf_30 : decode cX11_loadIf 30 = .ok (.ireturn, 1) := by decide +kernel
theorem dX11_loadIf_31 : decode cX11_loadIf 31 = .ok (.aload_n 0, 1) := by decide +kernel
theorem dX11_loadIf_32 : decode cX11_loadIf 32 = .ok (.getfield 47, 3) := by decide +kernel
theorem dX11_loadIf_35 : decode cX11_loadIf 35 = .ok (.iconst 3, 1) := by decide +kernel
theorem dX11_loadIf_36 : decode cX11_loadIf 36 = .ok (.iload_n 1, 1) := by decide +kernel
theorem dX11_loadIf_37 : decode cX11_loadIf 37 = .ok (.imul, 1) := by decide +kernel
theorem dX11_loadIf_38 : decode cX11_loadIf 38 = .ok (.iload_n 2, 1) := by decide +kernel
theorem dX11_loadIf_39 : decode cX11_loadIf 39 = .ok (.iadd, 1) := by decide +kernel
theorem dX11_loadIf_40 : decode cX11_loadIf 40 = .ok (.aload_n 0, 1) := by decide +kernel
theorem dX11_loadIf_41 : decode cX11_loadIf 41 = .ok (.getfield 47, 3) := by decide +kernel
theorem dX11_loadIf_44 : decode cX11_loadIf 44 = .ok (.iconst 3, 1) := by decide +kernel
theorem dX11_loadIf_45 : decode cX11_loadIf 45 = .ok (.iload_n 1, 1) := by decide +kernel
theorem dX11_loadIf_46 : decode cX11_loadIf 46 = .ok (.imul, 1) := by decide +kernel
theorem dX11_loadIf_47 : decode cX11_loadIf 47 = .ok (.iload_n 2, 1) := by decide +kernel
theorem dX11_loadIf_48 : decode cX11_loadIf 48 = .ok (.iadd, 1) := by decide +kernel
theorem dX11_loadIf_49 : decode cX11_loadIf 49 = .ok (.baload, 1) := by decide +kernel
theorem dX11_loadIf_50 : decode cX11_loadIf 50 = .ok (.ifCond .ne 7, 3) := by decide +kernel
theorem dX11_loadIf_53 : decode cX11_loadIf 53 = .ok (.iconst 1, 1) := by decide +kernel
theorem dX11_loadIf_54 : decode cX11_loadIf 54 = .ok (.goto 4, 3) := by decide +kernel
theorem dX11_loadIf_57 : decode cX11_loadIf 57 = .ok (.iconst 0, 1) := by decide +kernel
theorem dX11_loadIf_58 : decode cX11_loadIf 58 = .ok (.bastore, 1) := by decide +kernel
theorem dX11_loadIf_59 : decode cX11_loadIf 59 = .ok (.aload_n 0, 1) := by decide +kernel
theorem dX11_loadIf_60 : decode cX11_loadIf 60 = .ok (.iload_n 1, 1) := by decide +kernel
theorem dX11_loadIf_61 : decode cX11_loadIf 61 = .ok (.invokevirtual 163, 3) := by decide +kernel
theorem dX11_loadIf_64 : decode cX11_loadIf 64 = .ok (.istore_n 3, 1) := by decide +kernel
theorem dX11_loadIf_65 : decode cX11_loadIf 65 = .ok (.aload_n 0, 1) := by decide +kernel
theorem dX11_loadIf_66 : decode cX11_loadIf 66 = .ok (.getfield 47, 3) := by decide +kernel
theorem dX11_loadIf_69 : decode cX11_loadIf 69 = .ok (.iconst 3, 1) := by decide +kernel
theorem dX11_loadIf_70 : decode cX11_loadIf 70 = .ok (.iload_n 1, 1) := by decide +kernel
theorem dX11_loadIf_71 : decode cX11_loadIf 71 = .ok (.imul, 1) := by decide +kernel
theorem dX11_loadIf_72 : decode cX11_loadIf 72 = .ok (.iload_n 2, 1) := by decide +kernel
theorem dX11_loadIf_73 : decode cX11_loadIf 73 = .ok (.iadd, 1) := by decide +kernel
theorem dX11_loadIf_74 : decode cX11_loadIf 74 = .ok (.aload_n 0, 1) := by decide +kernel
theorem dX11_loadIf_75 : decode cX11_loadIf 75 = .ok (.getfield 47, 3) := by decide +kernel
theorem dX11_loadIf_78 : decode cX11_loadIf 78 = .ok (.iconst 3, 1) := by decide +kernel
theorem dX11_loadIf_79 : decode cX11_loadIf 79 = .ok (.iload_n 1, 1) := by decide +kernel
theorem dX11_loadIf_80 : decode cX11_loadIf 80 = .ok (.imul, 1) := by decide +kernel
theorem dX11_loadIf_81 : decode cX11_loadIf 81 = .ok (.iload_n 2, 1) := by decide +kernel
theorem dX11_loadIf_82 : decode cX11_loadIf 82 = .ok (.iadd, 1) := by decide +kernel
theorem dX11_loadIf_83 : decode cX11_loadIf 83 = .ok (.baload, 1) := by decide +kernel
theorem dX11_loadIf_84 : decode cX11_loadIf 84 = .ok (.ifCond .ne 7, 3) := by decide +kernel
theorem dX11_loadIf_87 : decode cX11_loadIf 87 = .ok (.iconst 1, 1) := by decide +kernel
theorem dX11_loadIf_88 : decode cX11_loadIf 88 = .ok (.goto 4, 3) := by decide +kernel
theorem dX11_loadIf_91 : decode cX11_loadIf 91 = .ok (.iconst 0, 1) := by decide +kernel
theorem dX11_loadIf_92 : decode cX11_loadIf 92 = .ok (.bastore, 1) := by decide +kernel
theorem dX11_loadIf_93 : decode cX11_loadIf 93 = .ok (.iload_n 3, 1) := by decide +kernel
theorem dX11_loadIf_94 : decode cX11_loadIf 94 = .ok (.ireturn, 1) := by decide +kernel
theorem dX11_tones_0 : decode cX11_tones 0 = .ok (.iconst 0, 1) := by decide +kernel
theorem dX11_tones_1 : decode cX11_tones 1 = .ok (.istore_n 3, 1) := by decide +kernel
theorem dX11_tones_2 : decode cX11_tones 2 = .ok (.iconst 0, 1) := by decide +kernel
theorem dX11_tones_3 : decode cX11_tones 3 = .ok (.istore 4, 2) := by decide +kernel
theorem dX11_tones_5 : decode cX11_tones 5 = .ok (.iload 4, 2) := by decide +kernel
theorem dX11_tones_7 : decode cX11_tones 7 = .ok (.iconst 3, 1) := by decide +kernel
theorem dX11_tones_8 : decode cX11_tones 8 = .ok (.if_icmp .ge 89, 3) := by decide +kernel
theorem dX11_tones_11 : decode cX11_tones 11 = .ok (.iload_n 2, 1) := by decide +kernel
theorem dX11_tones_12 : decode cX11_tones 12 = .ok (.iconst (-1), 1) := by decide +kernel
theorem dX11_tones_13 : decode cX11_tones 13 = .ok (.if_icmp .ne 25, 3) := by decide +kernel
theorem dX11_tones_16 : decode cX11_tones 16 = .ok (.aload_n 0, 1) := by decide +kernel
theorem dX11_tones_17 : decode cX11_tones 17 = .ok (.getfield 47, 3) := by decide +kernel
theorem dX11_tones_20 : decode cX11_tones 20 = .ok (.iconst 3, 1) := by decide +kernel
theorem dX11_tones_21 : decode cX11_tones 21 = .ok (.iload_n 1, 1) := by decide +kernel
theorem dX11_tones_22 : decode cX11_tones 22 = .ok (.imul, 1) := by decide +kernel
theorem dX11_tones_23 : decode cX11_tones 23 = .ok (.iload 4, 2) := by decide +kernel
theorem dX11_tones_25 : decode cX11_tones 25 = .ok (.iadd, 1) := by decide +kernel
theorem dX11_tones_26 : decode cX11_tones 26 = .ok (.baload, 1) := by decide +kernel
theorem dX11_tones_27 : decode cX11_tones 27 = .ok (.ifCond .ne 7, 3) := by decide +kernel
theorem dX11_tones_30 : decode cX11_tones 30 = .ok (.iconst 1, 1) := by decide +kernel
theorem dX11_tones_31 : decode cX11_tones 31 = .ok (.goto 45, 3) := by decide +kernel
theorem dX11_tones_34 : decode cX11_tones 34 = .ok (.iconst 0, 1) := by decide +kernel
theorem dX11_tones_35 : decode cX11_tones 35 = .ok (.goto 41, 3) := by decide +kernel
theorem dX11_tones_38 : decode cX11_tones 38 = .ok (.aload_n 0, 1) := by decide +kernel
theorem dX11_tones_39 : decode cX11_tones 39 = .ok (.getfield 47, 3) := by decide +kernel
theorem dX11_tones_42 : decode cX11_tones 42 = .ok (.iconst 3, 1) := by decide +kernel
theorem dX11_tones_43 : decode cX11_tones 43 = .ok (.iload_n 1, 1) := by decide +kernel
theorem dX11_tones_44 : decode cX11_tones 44 = .ok (.imul, 1) := by decide +kernel
theorem dX11_tones_45 : decode cX11_tones 45 = .ok (.iload 4, 2) := by decide +kernel
theorem dX11_tones_47 : decode cX11_tones 47 = .ok (.iadd, 1) := by decide +kernel
theorem dX11_tones_48 : decode cX11_tones 48 = .ok (.baload, 1) := by decide +kernel
theorem dX11_tones_49 : decode cX11_tones 49 = .ok (.ifCond .eq 26, 3) := by decide +kernel
theorem dX11_tones_52 : decode cX11_tones 52 = .ok (.aload_n 0, 1) := by decide +kernel
theorem dX11_tones_53 : decode cX11_tones 53 = .ok (.getfield 44, 3) := by decide +kernel
theorem dX11_tones_56 : decode cX11_tones 56 = .ok (.bipush 47, 2) := by decide +kernel
theorem dX11_tones_58 : decode cX11_tones 58 = .ok (.iload_n 1, 1) := by decide +kernel
theorem dX11_tones_59 : decode cX11_tones 59 = .ok (.imul, 1) := by decide +kernel
theorem dX11_tones_60 : decode cX11_tones 60 = .ok (.bipush 44, 2) := by decide +kernel
theorem dX11_tones_62 : decode cX11_tones 62 = .ok (.iadd, 1) := by decide +kernel
theorem dX11_tones_63 : decode cX11_tones 63 = .ok (.iload 4, 2) := by decide +kernel
theorem dX11_tones_65 : decode cX11_tones 65 = .ok (.iadd, 1) := by decide +kernel
theorem dX11_tones_66 : decode cX11_tones 66 = .ok (.iaload, 1) := by decide +kernel
theorem dX11_tones_67 : decode cX11_tones 67 = .ok (.iload_n 2, 1) := by decide +kernel
theorem dX11_tones_68 : decode cX11_tones 68 = .ok (.if_icmp .ne 7, 3) := by decide +kernel
theorem dX11_tones_71 : decode cX11_tones 71 = .ok (.iconst 1, 1) := by decide +kernel
theorem dX11_tones_72 : decode cX11_tones 72 = .ok (.goto 4, 3) := by decide +kernel
theorem dX11_tones_75 : decode cX11_tones 75 = .ok (.iconst 0, 1) := by decide +kernel
theorem dX11_tones_76 : decode cX11_tones 76 = .ok (.istore 5, 2) := by decide +kernel
theorem dX11_tones_78 : decode cX11_tones 78 = .ok (.iload_n 3, 1) := by decide +kernel
theorem dX11_tones_79 : decode cX11_tones 79 = .ok (.iload 5, 2) := by decide +kernel
theorem dX11_tones_81 : decode cX11_tones 81 = .ok (.ifCond .eq 7, 3) := by decide +kernel
theorem dX11_tones_84 : decode cX11_tones 84 = .ok (.iconst 1, 1) := by decide +kernel
theorem dX11_tones_85 : decode cX11_tones 85 = .ok (.goto 4, 3) := by decide +kernel
theorem dX11_tones_88 : decode cX11_tones 88 = .ok (.iconst 0, 1) := by decide +kernel
theorem dX11_tones_89 : decode cX11_tones 89 = .ok (.iadd, 1) := by decide +kernel
theorem dX11_tones_90 : decode cX11_tones 90 = .ok (.istore_n 3, 1) := by decide +kernel
theorem dX11_tones_91 : decode cX11_tones 91 = .ok (.iinc 4 1, 3) := by decide +kernel
theorem dX11_tones_94 : decode cX11_tones 94 = .ok (.goto (-89), 3) := by decide +kernel
theorem dX11_tones_97 : decode cX11_tones 97 = .ok (.iload_n 3, 1) := by decide +kernel
theorem dX11_tones_98 : decode cX11_tones 98 = .ok (.ireturn, 1) := by decide +kernel
theorem dX11_syllables_0 : decode cX11_syllables 0 = .ok (.lconst 0, 1) := by decide +kernel
theorem dX11_syllables_1 : decode cX11_syllables 1 = .ok (.lstore 4, 2) := by decide +kernel
theorem dX11_syllables_3 : decode cX11_syllables 3 = .ok (.iconst 0, 1) := by decide +kernel
theorem dX11_syllables_4 : decode cX11_syllables 4 = .ok (.istore 6, 2) := by decide +kernel
theorem dX11_syllables_6 : decode cX11_syllables 6 = .ok (.iload 6, 2) := by decide +kernel
theorem dX11_syllables_8 : decode cX11_syllables 8 = .ok (.bipush 8, 2) := by decide +kernel
theorem dX11_syllables_10 : decode cX11_syllables 10 = .ok (.if_icmp .ge 260, 3) := by decide +kernel
theorem dX11_syllables_13 : decode cX11_syllables 13 = .ok (.iload 6, 2) := by decide +kernel
theorem dX11_syllables_15 : decode cX11_syllables 15 = .ok (.iconst 1, 1) := by decide +kernel
theorem dX11_syllables_16 : decode cX11_syllables 16 = .ok (.iand, 1) := by decide +kernel
theorem dX11_syllables_17 : decode cX11_syllables 17 = .ok (.istore 7, 2) := by decide +kernel
theorem dX11_syllables_19 : decode cX11_syllables 19 = .ok (.iload 6, 2) := by decide +kernel
theorem dX11_syllables_21 : decode cX11_syllables 21 = .ok (.iconst 1, 1) := by decide +kernel
theorem dX11_syllables_22 : decode cX11_syllables 22 = .ok (.ishr, 1) := by decide +kernel
theorem dX11_syllables_23 : decode cX11_syllables 23 = .ok (.iconst 1, 1) := by decide +kernel
theorem dX11_syllables_24 : decode cX11_syllables 24 = .ok (.iand, 1) := by decide +kernel
theorem dX11_syllables_25 : decode cX11_syllables 25 = .ok (.istore 8, 2) := by decide +kernel
theorem dX11_syllables_27 : decode cX11_syllables 27 = .ok (.iload 6, 2) := by decide +kernel
theorem dX11_syllables_29 : decode cX11_syllables 29 = .ok (.iconst 2, 1) := by decide +kernel
theorem dX11_syllables_30 : decode cX11_syllables 30 = .ok (.ishr, 1) := by decide +kernel
theorem dX11_syllables_31 : decode cX11_syllables 31 = .ok (.istore 9, 2) := by decide +kernel
theorem dX11_syllables_33 : decode cX11_syllables 33 = .ok (.aload_n 0, 1) := by decide +kernel
theorem dX11_syllables_34 : decode cX11_syllables 34 = .ok (.getfield 38, 3) := by decide +kernel
theorem dX11_syllables_37 : decode cX11_syllables 37 = .ok (.iload_n 1, 1) := by decide +kernel
theorem dX11_syllables_38 : decode cX11_syllables 38 = .ok (.iaload, 1) := by decide +kernel
theorem dX11_syllables_39 : decode cX11_syllables 39 = .ok (.ifCond .ne 7, 3) := by decide +kernel
theorem dX11_syllables_42 : decode cX11_syllables 42 = .ok (.iconst 1, 1) := by decide +kernel
theorem dX11_syllables_43 : decode cX11_syllables 43 = .ok (.goto 4, 3) := by decide +kernel
theorem dX11_syllables_46 : decode cX11_syllables 46 = .ok (.iconst 0, 1) := by decide +kernel
theorem dX11_syllables_47 : decode cX11_syllables 47 = .ok (.istore 10, 2) := by decide +kernel
theorem dX11_syllables_49 : decode cX11_syllables 49 = .ok (.iload_n 2, 1) := by decide +kernel
theorem dX11_syllables_50 : decode cX11_syllables 50 = .ok (.istore 11, 2) := by decide +kernel
theorem dX11_syllables_52 : decode cX11_syllables 52 = .ok (.lconst 1, 1) := by decide +kernel
theorem dX11_syllables_53 : decode cX11_syllables 53 = .ok (.lstore 12, 2) := by decide +kernel
theorem dX11_syllables_55 : decode cX11_syllables 55 = .ok (.iload 10, 2) := by decide +kernel
theorem dX11_syllables_57 : decode cX11_syllables 57 = .ok (.ifCond .eq 8, 3) := by decide +kernel
theorem dX11_syllables_60 : decode cX11_syllables 60 = .ok (.iload 7, 2) := by decide +kernel
theorem dX11_syllables_62 : decode cX11_syllables 62 = .ok (.goto 4, 3) := by decide +kernel
theorem dX11_syllables_65 : decode cX11_syllables 65 = .ok (.iconst 0, 1) := by decide +kernel
theorem dX11_syllables_66 : decode cX11_syllables 66 = .ok (.iconst 1, 1) := by decide +kernel
theorem dX11_syllables_67 : decode cX11_syllables 67 = .ok (.iadd, 1) := by decide +kernel
theorem dX11_syllables_68 : decode cX11_syllables 68 = .ok (.iload 8, 2) := by decide +kernel
theorem dX11_syllables_70 : decode cX11_syllables 70 = .ok (.iadd, 1) := by decide +kernel
theorem dX11_syllables_71 : decode cX11_syllables 71 = .ok (.iload 9, 2) := by decide +kernel
theorem dX11_syllables_73 : decode cX11_syllables 73 = .ok (.iadd, 1) := by decide +kernel
theorem dX11_syllables_74 : decode cX11_syllables 74 = .ok (.iload_n 3, 1) := by decide +kernel
theorem dX11_syllables_75 : decode cX11_syllables 75 = .ok (.if_icmp .ne 189, 3) := by decide +kernel
theorem dX11_syllables_78 : decode cX11_syllables 78 = .ok (.iload 10, 2) := by decide +kernel
theorem dX11_syllables_80 : decode cX11_syllables 80 = .ok (.ifCond .ne 8, 3) := by decide +kernel
theorem dX11_syllables_83 : decode cX11_syllables 83 = .ok (.iload 7, 2) := by decide +kernel
theorem dX11_syllables_85 : decode cX11_syllables 85 = .ok (.ifCond .ne 179, 3) := by decide +kernel
theorem dX11_syllables_88 : decode cX11_syllables 88 = .ok (.iload 7, 2) := by decide +kernel
theorem dX11_syllables_90 : decode cX11_syllables 90 = .ok (.iconst 1, 1) := by decide +kernel
theorem dX11_syllables_91 : decode cX11_syllables 91 = .ok (.if_icmp .ne 27, 3) := by decide +kernel
theorem dX11_syllables_94 : decode cX11_syllables 94 = .ok (.lload 12, 2) := by decide +kernel
theorem dX11_syllables_96 : decode cX11_syllables 96 = .ok (.aload_n 0, 1) := by decide +kernel
theorem dX11_syllables_97 : decode cX11_syllables 97 = .ok (.iload_n 1, 1) := by decide +kernel
theorem dX11_syllables_98 : decode cX11_syllables 98 = .ok (.iconst 0, 1) := by decide +kernel
theorem dX11_syllables_99 : decode cX11_syllables 99 = .ok (.bipush 7, 2) := by decide +kernel
theorem dX11_syllables_101 : decode cX11_syllables 101 = .ok (.aload_n 0, 1) := by decide +kernel
theorem dX11_syllables_102 : decode cX11_syllables 102 = .ok (.getfield 65, 3) := by decide +kernel
theorem dX11_syllables_105 : decode cX11_syllables 105 = .ok (.iload 11, 2) := by decide +kernel
theorem dX11_syllables_107 : decode cX11_syllables 107 = .ok (.iaload, 1) := by decide +kernel
theorem dX11_syllables_108 : decode cX11_syllables 108 = .ok (.invokevirtual 142, 3) := by decide +kernel
theorem dX11_syllables_111 : decode cX11_syllables 111 = .ok (.i2l, 1) := by decide +kernel
theorem dX11_syllables_112 : decode cX11_syllables 112 = .ok (.lmul, 1) := by decide +kernel
theorem dX11_syllables_113 : decode cX11_syllables 113 = .ok (.lstore 12, 2) := by decide +kernel
theorem dX11_syllables_115 : decode cX11_syllables 115 = .ok (.iinc 11 1, 3) := by decide +kernel
theorem dX11_syllables_118 : decode cX11_syllables 118 = .ok (.lload 12, 2) := by decide +kernel
theorem dX11_syllables_120 : decode cX11_syllables 120 = .ok (.iload 10, 2) := by decide +kernel
theorem dX11_syllables_122 : decode cX11_syllables 122 = .ok (.ifCond .eq 23, 3) := by decide +kernel
theorem dX11_syllables_125 : decode cX11_syllables 125 = .ok (.aload_n 0, 1) := by decide +kernel
theorem dX11_syllables_126 : decode cX11_syllables 126 = .ok (.iload_n 1, 1) := by decide +kernel
theorem dX11_syllables_127 : decode cX11_syllables 127 = .ok (.bipush 8, 2) := by decide +kernel
theorem dX11_syllables_129 : decode cX11_syllables 129 = .ok (.bipush 11, 2) := by decide +kernel
theorem dX11_syllables_131 : decode cX11_syllables 131 = .ok (.aload_n 0, 1) := by decide +kernel
theorem dX11_syllables_132 : decode cX11_syllables 132 = .ok (.getfield 65, 3) := by decide +kernel
theorem dX11_syllables_135 : decode cX11_syllables 135 = .ok (.iload 11, 2) := by decide +kernel
theorem dX11_syllables_137 : decode cX11_syllables 137 = .ok (.iaload, 1) := by decide +kernel
theorem dX11_syllables_138 : decode cX11_syllables 138 = .ok (.invokevirtual 142, 3) := by decide +kernel
theorem dX11_syllables_141 : decode cX11_syllables 141 = .ok (.i2l, 1) := by decide +kernel
theorem dX11_syllables_142 : decode cX11_syllables 142 = .ok (.goto 19, 3) := by decide +kernel
theorem dX11_syllables_145 : decode cX11_syllables 145 = .ok (.aload_n 0, 1) := by decide +kernel
theorem dX11_syllables_146 : decode cX11_syllables 146 = .ok (.iload_n 1, 1) := by decide +kernel
theorem dX11_syllables_147 : decode cX11_syllables 147 = .ok (.iconst 0, 1) := by decide +kernel
theorem dX11_syllables_148 : decode cX11_syllables 148 = .ok (.bipush 35, 2) := by decide +kernel
theorem dX11_syllables_150 : decode cX11_syllables 150 = .ok (.aload_n 0, 1) := by decide +kernel
theorem dX11_syllables_151 : decode cX11_syllables 151 = .ok (.getfield 65, 3) := by decide +kernel
theorem dX11_syllables_154 : decode cX11_syllables 154 = .ok (.iload 11, 2) := by decide +kernel
theorem dX11_syllables_156 : decode cX11_syllables 156 = .ok (.iaload, 1) := by decide +kernel
theorem dX11_syllables_157 : decode cX11_syllables 157 = .ok (.invokevirtual 142, 3) := by decide +kernel
theorem dX11_syllables_160 : decode cX11_syllables 160 = .ok (.i2l, 1) := by decide +kernel
theorem dX11_syllables_161 : decode cX11_syllables 161 = .ok (.lmul, 1) := by decide +kernel
theorem dX11_syllables_162 : decode cX11_syllables 162 = .ok (.lstore 12, 2) := by decide +kernel
theorem dX11_syllables_164 : decode cX11_syllables 164 = .ok (.iinc 11 1, 3) := by decide +kernel
theorem dX11_syllables_167 : decode cX11_syllables 167 = .ok (.lload 12, 2) := by decide +kernel
theorem dX11_syllables_169 : decode cX11_syllables 169 = .ok (.aload_n 0, 1) := by decide +kernel
theorem dX11_syllables_170 : decode cX11_syllables 170 = .ok (.iload_n 1, 1) := by decide +kernel
theorem dX11_syllables_171 : decode cX11_syllables 171 = .ok (.iload 8, 2) := by decide +kernel
theorem dX11_syllables_173 : decode cX11_syllables 173 = .ok (.iconst 1, 1) := by decide +kernel
theorem dX11_syllables_174 : decode cX11_syllables 174 = .ok (.if_icmp .ne 13, 3) := by decide +kernel
theorem dX11_syllables_177 : decode cX11_syllables 177 = .ok (.aload_n 0, 1) := by decide +kernel
theorem dX11_syllables_178 : decode cX11_syllables 178 = .ok (.getfield 65, 3) := by decide +kernel
theorem dX11_syllables_181 : decode cX11_syllables 181 = .ok (.iload 11, 2) := by decide +kernel
theorem dX11_syllables_183 : decode cX11_syllables 183 = .ok (.iaload, 1) := by decide +kernel
theorem dX11_syllables_184 : decode cX11_syllables 184 = .ok (.goto 4, 3) := by decide +kernel
theorem dX11_syllables_187 : decode cX11_syllables 187 = .ok (.iconst (-1), 1) := by decide +kernel
theorem dX11_syllables_188 : decode cX11_syllables 188 = .ok (.invokevirtual 166, 3) := by decide +kernel
theorem dX11_syllables_191 : decode cX11_syllables 191 = .ok (.i2l, 1) := by decide +kernel
theorem dX11_syllables_192 : decode cX11_syllables 192 = .ok (.lmul, 1) := by decide +kernel
theorem dX11_syllables_193 : decode cX11_syllables 193 = .ok (.lstore 12, 2) := by decide +kernel
theorem dX11_syllables_195 : decode cX11_syllables 195 = .ok (.iload 11, 2) := by decide +kernel
theorem dX11_syllables_197 : decode cX11_syllables 197 = .ok (.iload 8, 2) := by decide +kernel
theorem dX11_syllables_199 : decode cX11_syllables 199 = .ok (.iadd, 1) := by decide +kernel
theorem dX11_syllables_200 : decode cX11_syllables 200 = .ok (.istore 11, 2) := by decide +kernel
theorem dX11_syllables_202 : decode cX11_syllables 202 = .ok (.lload 12, 2) := by decide +kernel
theorem dX11_syllables_204 : decode cX11_syllables 204 = .ok (.iload 9, 2) := by decide +kernel
theorem dX11_syllables_206 : decode cX11_syllables 206 = .ok (.ifCond .ne 7, 3) := by decide +kernel
theorem dX11_syllables_209 : decode cX11_syllables 209 = .ok (.lconst 1, 1) := by decide +kernel
theorem dX11_syllables_210 : decode cX11_syllables 210 = .ok (.goto 44, 3) := by decide +kernel
theorem dX11_syllables_213 : decode cX11_syllables 213 = .ok (.iload 10, 2) := by decide +kernel
theorem dX11_syllables_215 : decode cX11_syllables 215 = .ok (.ifCond .eq 22, 3) := by decide +kernel
theorem dX11_syllables_218 : decode cX11_syllables 218 = .ok (.aload_n 0, 1) := by decide +kernel
theorem dX11_syllables_219 : decode cX11_syllables 219 = .ok (.iload_n 1, 1) := by decide +kernel
theorem dX11_syllables_220 : decode cX11_syllables 220 = .ok (.iconst 0, 1) := by decide +kernel
theorem dX11_syllables_221 : decode cX11_syllables 221 = .ok (.bipush 7, 2) := by decide +kernel
theorem dX11_syllables_223 : decode cX11_syllables 223 = .ok (.aload_n 0, 1) := by decide +kernel
theorem dX11_syllables_224 : decode cX11_syllables 224 = .ok (.getfield 65, 3) := by decide +kernel
theorem dX11_syllables_227 : decode cX11_syllables 227 = .ok (.iload 11, 2) := by decide +kernel
theorem dX11_syllables_229 : decode cX11_syllables 229 = .ok (.iaload, 1) := by decide +kernel
theorem dX11_syllables_230 : decode cX11_syllables 230 = .ok (.invokevirtual 142, 3) := by decide +kernel
theorem dX11_syllables_233 : decode cX11_syllables 233 = .ok (.i2l, 1) := by decide +kernel
theorem dX11_syllables_234 : decode cX11_syllables 234 = .ok (.goto 20, 3) := by decide +kernel
theorem dX11_syllables_237 : decode cX11_syllables 237 = .ok (.aload_n 0, 1) := by decide +kernel
theorem dX11_syllables_238 : decode cX11_syllables 238 = .ok (.iload_n 1, 1) := by decide +kernel
theorem dX11_syllables_239 : decode cX11_syllables 239 = .ok (.bipush 36, 2) := by decide +kernel
theorem dX11_syllables_241 : decode cX11_syllables 241 = .ok (.bipush 43, 2) := by decide +kernel
theorem dX11_syllables_243 : decode cX11_syllables 243 = .ok (.aload_n 0, 1) := by decide +kernel
theorem dX11_syllables_244 : decode cX11_syllables 244 = .ok (.getfield 65, 3) := by decide +kernel
theorem dX11_syllables_247 : decode cX11_syllables 247 = .ok (.iload 11, 2) := by decide +kernel
theorem dX11_syllables_249 : decode cX11_syllables 249 = .ok (.iaload, 1) := by decide +kernel
theorem dX11_syllables_250 : decode cX11_syllables 250 = .ok (.invokevirtual 142, 3) := by decide +kernel
theorem dX11_syllables_253 : decode cX11_syllables 253 = .ok (.i2l, 1) := by decide +kernel
theorem dX11_syllables_254 : decode cX11_syllables 254 = .ok (.lmul, 1) := by decide +kernel
theorem dX11_syllables_255 : decode cX11_syllables 255 = .ok (.lstore 12, 2) := by decide +kernel
theorem dX11_syllables_257 : decode cX11_syllables 257 = .ok (.lload 4, 2) := by decide +kernel
theorem dX11_syllables_259 : decode cX11_syllables 259 = .ok (.lload 12, 2) := by decide +kernel
theorem dX11_syllables_261 : decode cX11_syllables 261 = .ok (.ladd, 1) := by decide +kernel
theorem dX11_syllables_262 : decode cX11_syllables 262 = .ok (.lstore 4, 2) := by decide +kernel
theorem dX11_syllables_264 : decode cX11_syllables 264 = .ok (.iinc 6 1, 3) := by decide +kernel
theorem dX11_syllables_267 : decode cX11_syllables 267 = .ok (.goto (-261), 3) := by decide +kernel
theorem dX11_syllables_270 : decode cX11_syllables 270 = .ok (.lload 4, 2) := by decide +kernel
theorem dX11_syllables_272 : decode cX11_syllables 272 = .ok (.lreturn, 1) := by decide +kernel
theorem dX11_readings_0 : decode cX11_readings 0 = .ok (.aload_n 0, 1) := by decide +kernel
theorem dX11_readings_1 : decode cX11_readings 1 = .ok (.aload_n 0, 1) := by decide +kernel
theorem dX11_readings_2 : decode cX11_readings 2 = .ok (.iload_n 1, 1) := by decide +kernel
theorem dX11_readings_3 : decode cX11_readings 3 = .ok (.invokevirtual 146, 3) := by decide +kernel
theorem dX11_readings_6 : decode cX11_readings 6 = .ok (.ifCond .eq 15, 3) := by decide +kernel
theorem dX11_readings_9 : decode cX11_readings 9 = .ok (.aload_n 0, 1) := by decide +kernel
theorem dX11_readings_10 : decode cX11_readings 10 = .ok (.iload_n 2, 1) := by decide +kernel
theorem dX11_readings_11 : decode cX11_readings 11 = .ok (.invokevirtual 132, 3) := by decide +kernel
theorem dX11_readings_14 : decode cX11_readings 14 = .ok (.ifCond .eq 7, 3) := by decide +kernel
theorem dX11_readings_17 : decode cX11_readings 17 = .ok (.iconst 0, 1) := by decide +kernel
theorem dX11_readings_18 : decode cX11_readings 18 = .ok (.goto 4, 3) := by decide +kernel
theorem dX11_readings_21 : decode cX11_readings 21 = .ok (.iconst 1, 1) := by decide +kernel
theorem dX11_readings_22 : decode cX11_readings 22 = .ok (.invokevirtual 113, 3) := by decide +kernel
theorem dX11_readings_25 : decode cX11_readings 25 = .ok (.ifCond .eq 5, 3) := by decide +kernel
theorem dX11_readings_28 : decode cX11_readings 28 = .ok (.lconst 0, 1) := by decide +kernel
theorem dX11_readings_29 : decode cX11_readings 29 = .ok (.lreturn, 1) := by decide +kernel
theorem dX11_readings_30 : decode cX11_readings 30 = .ok (.aload_n 0, 1) := by decide +kernel
theorem dX11_readings_31 : decode cX11_readings 31 = .ok (.iload_n 1, 1) := by decide +kernel
theorem dX11_readings_32 : decode cX11_readings 32 = .ok (.aload_n 0, 1) := by decide +kernel
theorem dX11_readings_33 : decode cX11_readings 33 = .ok (.getfield 41, 3) := by decide +kernel
theorem dX11_readings_36 : decode cX11_readings 36 = .ok (.iload_n 1, 1) := by decide +kernel
theorem dX11_readings_37 : decode cX11_readings 37 = .ok (.iaload, 1) := by decide +kernel
theorem dX11_readings_38 : decode cX11_readings 38 = .ok (.iload_n 2, 1) := by decide +kernel
theorem dX11_readings_39 : decode cX11_readings 39 = .ok (.iconst 0, 1) := by decide +kernel
theorem dX11_readings_40 : decode cX11_readings 40 = .ok (.invokevirtual 152, 3) := by decide +kernel
theorem dX11_readings_43 : decode cX11_readings 43 = .ok (.aload_n 0, 1) := by decide +kernel
theorem dX11_readings_44 : decode cX11_readings 44 = .ok (.getfield 68, 3) := by decide +kernel
theorem dX11_readings_47 : decode cX11_readings 47 = .ok (.iconst 0, 1) := by decide +kernel
theorem dX11_readings_48 : decode cX11_readings 48 = .ok (.iaload, 1) := by decide +kernel
theorem dX11_readings_49 : decode cX11_readings 49 = .ok (.istore_n 3, 1) := by decide +kernel
theorem dX11_readings_50 : decode cX11_readings 50 = .ok (.iconst 0, 1) := by decide +kernel
theorem dX11_readings_51 : decode cX11_readings 51 = .ok (.istore 4, 2) := by decide +kernel
theorem dX11_readings_53 : decode cX11_readings 53 = .ok (.iload 4, 2) := by decide +kernel
theorem dX11_readings_55 : decode cX11_readings 55 = .ok (.bipush 16, 2) := by decide +kernel
theorem dX11_readings_57 : decode cX11_readings 57 = .ok (.if_icmp .gt 26, 3) := by decide +kernel
theorem dX11_readings_60 : decode cX11_readings 60 = .ok (.aload_n 0, 1) := by decide +kernel
theorem dX11_readings_61 : decode cX11_readings 61 = .ok (.getfield 74, 3) := by decide +kernel
theorem dX11_readings_64 : decode cX11_readings 64 = .ok (.iload 4, 2) := by decide +kernel
theorem dX11_readings_66 : decode cX11_readings 66 = .ok (.iload 4, 2) := by decide +kernel
theorem dX11_readings_68 : decode cX11_readings 68 = .ok (.ifCond .ne 7, 3) := by decide +kernel
theorem dX11_readings_71 : decode cX11_readings 71 = .ok (.lconst 1, 1) := by decide +kernel
theorem dX11_readings_72 : decode cX11_readings 72 = .ok (.goto 4, 3) := by decide +kernel
theorem dX11_readings_75 : decode cX11_readings 75 = .ok (.lconst 0, 1) := by decide +kernel
theorem dX11_readings_76 : decode cX11_readings 76 = .ok (.lastore, 1) := by decide +kernel
theorem dX11_readings_77 : decode cX11_readings 77 = .ok (.iinc 4 1, 3) := by decide +kernel
theorem dX11_readings_80 : decode cX11_readings 80 = .ok (.goto (-27), 3) := by decide +kernel
theorem dX11_readings_83 : decode cX11_readings 83 = .ok (.lconst 0, 1) := by decide +kernel
theorem dX11_readings_84 : decode cX11_readings 84 = .ok (.lstore 4, 2) := by decide +kernel
theorem dX11_readings_86 : decode cX11_readings 86 = .ok (.iconst 0, 1) := by decide +kernel
theorem dX11_readings_87 : decode cX11_readings 87 = .ok (.istore 6, 2) := by decide +kernel
theorem dX11_readings_89 : decode cX11_readings 89 = .ok (.iload 6, 2) := by decide +kernel
theorem dX11_readings_91 : decode cX11_readings 91 = .ok (.iconst 4, 1) := by decide +kernel
theorem dX11_readings_92 : decode cX11_readings 92 = .ok (.if_icmp .ge 155, 3) := by decide +kernel
theorem dX11_readings_95 : decode cX11_readings 95 = .ok (.iconst 0, 1) := by decide +kernel
theorem dX11_readings_96 : decode cX11_readings 96 = .ok (.istore 7, 2) := by decide +kernel
theorem dX11_readings_98 : decode cX11_readings 98 = .ok (.iload 7, 2) := by decide +kernel
theorem dX11_readings_100 : decode cX11_readings 100 = .ok (.bipush 16, 2) := by decide +kernel
theorem dX11_readings_102 : decode cX11_readings 102 = .ok (.if_icmp .gt 17, 3) := by decide +kernel
theorem dX11_readings_105 : decode cX11_readings 105 = .ok (.aload_n 0, 1) := by decide +kernel
theorem dX11_readings_106 : decode cX11_readings 106 = .ok (.getfield 78, 3) := by decide +kernel
theorem dX11_readings_109 : decode cX11_readings 109 = .ok (.iload 7, 2) := by decide +kernel
theorem dX11_readings_111 : decode cX11_readings 111 = .ok (.lconst 0, 1) := by decide +kernel
theorem dX11_readings_112 : decode cX11_readings 112 = .ok (.lastore, 1) := by decide +kernel
theorem dX11_readings_113 : decode cX11_readings 113 = .ok (.iinc 7 1, 3) := by decide +kernel
theorem dX11_readings_116 : decode cX11_readings 116 = .ok (.goto (-18), 3) := by decide +kernel
theorem dX11_readings_119 : decode cX11_readings 119 = .ok (.iconst 0, 1) := by decide +kernel
theorem dX11_readings_120 : decode cX11_readings 120 = .ok (.istore 7, 2) := by decide +kernel
theorem dX11_readings_122 : decode cX11_readings 122 = .ok (.iload 7, 2) := by decide +kernel
theorem dX11_readings_124 : decode cX11_readings 124 = .ok (.iload_n 3, 1) := by decide +kernel
theorem dX11_readings_125 : decode cX11_readings 125 = .ok (.if_icmp .ge 75, 3) := by decide +kernel
theorem dX11_readings_128 : decode cX11_readings 128 = .ok (.iconst 1, 1) := by decide +kernel
theorem dX11_readings_129 : decode cX11_readings 129 = .ok (.istore 8, 2) := by decide +kernel
theorem dX11_readings_131 : decode cX11_readings 131 = .ok (.iload 8, 2) := by decide +kernel
theorem dX11_readings_133 : decode cX11_readings 133 = .ok (.iconst 4, 1) := by decide +kernel
theorem dX11_readings_134 : decode cX11_readings 134 = .ok (.if_icmp .gt 60, 3) := by decide +kernel
theorem dX11_readings_137 : decode cX11_readings 137 = .ok (.iload 7, 2) := by decide +kernel
theorem dX11_readings_139 : decode cX11_readings 139 = .ok (.iload 8, 2) := by decide +kernel
theorem dX11_readings_141 : decode cX11_readings 141 = .ok (.iadd, 1) := by decide +kernel
theorem dX11_readings_142 : decode cX11_readings 142 = .ok (.iload_n 3, 1) := by decide +kernel
theorem dX11_readings_143 : decode cX11_readings 143 = .ok (.if_icmp .gt 51, 3) := by decide +kernel
theorem dX11_readings_146 : decode cX11_readings 146 = .ok (.aload_n 0, 1) := by decide +kernel
theorem dX11_readings_147 : decode cX11_readings 147 = .ok (.getfield 74, 3) := by decide +kernel
theorem dX11_readings_150 : decode cX11_readings 150 = .ok (.iload 7, 2) := by decide +kernel
theorem dX11_readings_152 : decode cX11_readings 152 = .ok (.laload, 1) := by decide +kernel
theorem dX11_readings_153 : decode cX11_readings 153 = .ok (.lconst 0, 1) := by decide +kernel
theorem dX11_readings_154 : decode cX11_readings 154 = .ok (.lcmp, 1) := by decide +kernel
theorem dX11_readings_155 : decode cX11_readings 155 = .ok (.ifCond .le 39, 3) := by decide +kernel
theorem dX11_readings_158 : decode cX11_readings 158 = .ok (.aload_n 0, 1) := by decide +kernel
theorem dX11_readings_159 : decode cX11_readings 159 = .ok (.getfield 78, 3) := by decide +kernel
theorem dX11_readings_162 : decode cX11_readings 162 = .ok (.iload 7, 2) := by decide +kernel
theorem dX11_readings_164 : decode cX11_readings 164 = .ok (.iload 8, 2) := by decide +kernel
theorem dX11_readings_166 : decode cX11_readings 166 = .ok (.iadd, 1) := by decide +kernel
theorem dX11_readings_167 : decode cX11_readings 167 = .ok (.dup2, 1) := by decide +kernel
theorem dX11_readings_168 : decode cX11_readings 168 = .ok (.laload, 1) := by decide +kernel
theorem dX11_readings_169 : decode cX11_readings 169 = .ok (.aload_n 0, 1) := by decide +kernel
theorem dX11_readings_170 : decode cX11_readings 170 = .ok (.getfield 74, 3) := by decide +kernel
theorem dX11_readings_173 : decode cX11_readings 173 = .ok (.iload 7, 2) := by decide +kernel
theorem dX11_readings_175 : decode cX11_readings 175 = .ok (.laload, 1) := by decide +kernel
theorem dX11_readings_176 : decode cX11_readings 176 = .ok (.aload_n 0, 1) := by decide +kernel
theorem dX11_readings_177 : decode cX11_readings 177 = .ok (.iload_n 1, 1) := by decide +kernel
theorem dX11_readings_178 : decode cX11_readings 178 = .ok (.iload 7, 2) := by decide +kernel
theorem dX11_readings_180 : decode cX11_readings 180 = .ok (.iload 8, 2) := by decide +kernel
theorem dX11_readings_182 : decode cX11_readings 182 = .ok (.invokevirtual 169, 3) := by decide +kernel
theorem dX11_readings_185 : decode cX11_readings 185 = .ok (.lmul, 1) := by decide +kernel
theorem dX11_readings_186 : decode cX11_readings 186 = .ok (.ladd, 1) := by decide +kernel
theorem dX11_readings_187 : decode cX11_readings 187 = .ok (.lastore, 1) := by decide +kernel
theorem dX11_readings_188 : decode cX11_readings 188 = .ok (.iinc 8 1, 3) := by decide +kernel
theorem dX11_readings_191 : decode cX11_readings 191 = .ok (.goto (-60), 3) := by decide +kernel
theorem dX11_readings_194 : decode cX11_readings 194 = .ok (.iinc 7 1, 3) := by decide +kernel
theorem dX11_readings_197 : decode cX11_readings 197 = .ok (.goto (-75), 3) := by decide +kernel
theorem dX11_readings_200 : decode cX11_readings 200 = .ok (.iconst 0, 1) := by decide +kernel
theorem dX11_readings_201 : decode cX11_readings 201 = .ok (.istore 7, 2) := by decide +kernel
theorem dX11_readings_203 : decode cX11_readings 203 = .ok (.iload 7, 2) := by decide +kernel
theorem dX11_readings_205 : decode cX11_readings 205 = .ok (.bipush 16, 2) := by decide +kernel
theorem dX11_readings_207 : decode cX11_readings 207 = .ok (.if_icmp .gt 23, 3) := by decide +kernel
theorem dX11_readings_210 : decode cX11_readings 210 = .ok (.aload_n 0, 1) := by decide +kernel
theorem dX11_readings_211 : decode cX11_readings 211 = .ok (.getfield 74, 3) := by decide +kernel
theorem dX11_readings_214 : decode cX11_readings 214 = .ok (.iload 7, 2) := by decide +kernel
theorem dX11_readings_216 : decode cX11_readings 216 = .ok (.aload_n 0, 1) := by decide +kernel
theorem dX11_readings_217 : decode cX11_readings 217 = .ok (.getfield 78, 3) := by decide +kernel
theorem dX11_readings_220 : decode cX11_readings 220 = .ok (.iload 7, 2) := by decide +kernel
theorem dX11_readings_222 : decode cX11_readings 222 = .ok (.laload, 1) := by decide +kernel
theorem dX11_readings_223 : decode cX11_readings 223 = .ok (.lastore, 1) := by decide +kernel
theorem dX11_readings_224 : decode cX11_readings 224 = .ok (.iinc 7 1, 3) := by decide +kernel
theorem dX11_readings_227 : decode cX11_readings 227 = .ok (.goto (-24), 3) := by decide +kernel
theorem dX11_readings_230 : decode cX11_readings 230 = .ok (.lload 4, 2) := by decide +kernel
theorem dX11_readings_232 : decode cX11_readings 232 = .ok (.aload_n 0, 1) := by decide +kernel
theorem dX11_readings_233 : decode cX11_readings 233 = .ok (.getfield 74, 3) := by decide +kernel
theorem dX11_readings_236 : decode cX11_readings 236 = .ok (.iload_n 3, 1) := by decide +kernel
theorem dX11_readings_237 : decode cX11_readings 237 = .ok (.laload, 1) := by decide +kernel
theorem dX11_readings_238 : decode cX11_readings 238 = .ok (.ladd, 1) := by decide +kernel
theorem dX11_readings_239 : decode cX11_readings 239 = .ok (.lstore 4, 2) := by decide +kernel
theorem dX11_readings_241 : decode cX11_readings 241 = .ok (.iinc 6 1, 3) := by decide +kernel
theorem dX11_readings_244 : decode cX11_readings 244 = .ok (.goto (-155), 3) := by decide +kernel
theorem dX11_readings_247 : decode cX11_readings 247 = .ok (.lload 4, 2) := by decide +kernel
theorem dX11_readings_249 : decode cX11_readings 249 = .ok (.lreturn, 1) := by decide +kernel
theorem dX11_readingsAnew_0 : decode cX11_readingsAnew 0 = .ok (.aload_n 0, 1) := by decide +kernel
theorem dX11_readingsAnew_1 : decode cX11_readingsAnew 1 = .ok (.iload_n 1, 1) := by decide +kernel
theorem dX11_readingsAnew_2 : decode cX11_readingsAnew 2 = .ok (.iload_n 2, 1) := by decide +kernel
theorem dX11_readingsAnew_3 : decode cX11_readingsAnew 3 = .ok (.invokevirtual 173, 3) := by decide +kernel
theorem dX11_readingsAnew_6 : decode cX11_readingsAnew 6 = .ok (.lreturn, 1) := by decide +kernel
theorem dX11_fitOf_0 : decode cX11_fitOf 0 = .ok (.aload_n 0, 1) := by decide +kernel
theorem dX11_fitOf_1 : decode cX11_fitOf 1 = .ok (.iload_n 1, 1) := by decide +kernel
theorem dX11_fitOf_2 : decode cX11_fitOf 2 = .ok (.aload_n 0, 1) := by decide +kernel
theorem dX11_fitOf_3 : decode cX11_fitOf 3 = .ok (.getfield 41, 3) := by decide +kernel
theorem dX11_fitOf_6 : decode cX11_fitOf 6 = .ok (.iload_n 1, 1) := by decide +kernel
theorem dX11_fitOf_7 : decode cX11_fitOf 7 = .ok (.iaload, 1) := by decide +kernel
theorem dX11_fitOf_8 : decode cX11_fitOf 8 = .ok (.iconst 0, 1) := by decide +kernel
theorem dX11_fitOf_9 : decode cX11_fitOf 9 = .ok (.invokevirtual 156, 3) := by decide +kernel
theorem dX11_fitOf_12 : decode cX11_fitOf 12 = .ok (.aload_n 0, 1) := by decide +kernel
theorem dX11_fitOf_13 : decode cX11_fitOf 13 = .ok (.iload_n 1, 1) := by decide +kernel
theorem dX11_fitOf_14 : decode cX11_fitOf 14 = .ok (.iload_n 2, 1) := by decide +kernel
theorem dX11_fitOf_15 : decode cX11_fitOf 15 = .ok (.bipush 20, 2) := by decide +kernel
theorem dX11_fitOf_17 : decode cX11_fitOf 17 = .ok (.invokevirtual 156, 3) := by decide +kernel
theorem dX11_fitOf_20 : decode cX11_fitOf 20 = .ok (.iconst 0, 1) := by decide +kernel
theorem dX11_fitOf_21 : decode cX11_fitOf 21 = .ok (.istore_n 3, 1) := by decide +kernel
theorem dX11_fitOf_22 : decode cX11_fitOf 22 = .ok (.iconst 0, 1) := by decide +kernel
theorem dX11_fitOf_23 : decode cX11_fitOf 23 = .ok (.istore 4, 2) := by decide +kernel
theorem dX11_fitOf_25 : decode cX11_fitOf 25 = .ok (.iload 4, 2) := by decide +kernel
theorem dX11_fitOf_27 : decode cX11_fitOf 27 = .ok (.aload_n 0, 1) := by decide +kernel
theorem dX11_fitOf_28 : decode cX11_fitOf 28 = .ok (.getfield 100, 3) := by decide +kernel
theorem dX11_fitOf_31 : decode cX11_fitOf 31 = .ok (.if_icmp .ge 37, 3) := by decide +kernel
theorem dX11_fitOf_34 : decode cX11_fitOf 34 = .ok (.iload_n 3, 1) := by decide +kernel
theorem dX11_fitOf_35 : decode cX11_fitOf 35 = .ok (.aload_n 0, 1) := by decide +kernel
theorem dX11_fitOf_36 : decode cX11_fitOf 36 = .ok (.iload 4, 2) := by decide +kernel
theorem dX11_fitOf_38 : decode cX11_fitOf 38 = .ok (.bipush 20, 2) := by decide +kernel
theorem dX11_fitOf_40 : decode cX11_fitOf 40 = .ok (.iload 4, 2) := by decide +kernel
theorem dX11_fitOf_42 : decode cX11_fitOf 42 = .ok (.iadd, 1) := by decide +kernel
theorem dX11_fitOf_43 : decode cX11_fitOf 43 = .ok (.invokevirtual 160, 3) := by decide +kernel
theorem dX11_fitOf_46 : decode cX11_fitOf 46 = .ok (.ifCond .eq 13, 3) := by decide +kernel
theorem dX11_fitOf_49 : decode cX11_fitOf 49 = .ok (.aload_n 0, 1) := by decide +kernel
theorem dX11_fitOf_50 : decode cX11_fitOf 50 = .ok (.getfield 19, 3) := by decide +kernel
theorem dX11_fitOf_53 : decode cX11_fitOf 53 = .ok (.iload 4, 2) := by decide +kernel
theorem dX11_fitOf_55 : decode cX11_fitOf 55 = .ok (.iaload, 1) := by decide +kernel
theorem dX11_fitOf_56 : decode cX11_fitOf 56 = .ok (.goto 4, 3) := by decide +kernel
theorem dX11_fitOf_59 : decode cX11_fitOf 59 = .ok (.iconst 0, 1) := by decide +kernel
theorem dX11_fitOf_60 : decode cX11_fitOf 60 = .ok (.iadd, 1) := by decide +kernel
theorem dX11_fitOf_61 : decode cX11_fitOf 61 = .ok (.istore_n 3, 1) := by decide +kernel
theorem dX11_fitOf_62 : decode cX11_fitOf 62 = .ok (.iinc 4 1, 3) := by decide +kernel
theorem dX11_fitOf_65 : decode cX11_fitOf 65 = .ok (.goto (-40), 3) := by decide +kernel
theorem dX11_fitOf_68 : decode cX11_fitOf 68 = .ok (.iload_n 3, 1) := by decide +kernel
theorem dX11_fitOf_69 : decode cX11_fitOf 69 = .ok (.ireturn, 1) := by decide +kernel
theorem dX11_fit_0 : decode cX11_fit 0 = .ok (.aload_n 0, 1) := by decide +kernel
theorem dX11_fit_1 : decode cX11_fit 1 = .ok (.aload_n 0, 1) := by decide +kernel
theorem dX11_fit_2 : decode cX11_fit 2 = .ok (.iload_n 1, 1) := by decide +kernel
theorem dX11_fit_3 : decode cX11_fit 3 = .ok (.invokevirtual 146, 3) := by decide +kernel
theorem dX11_fit_6 : decode cX11_fit 6 = .ok (.ifCond .eq 14, 3) := by decide +kernel
theorem dX11_fit_9 : decode cX11_fit 9 = .ok (.iload_n 2, 1) := by decide +kernel
theorem dX11_fit_10 : decode cX11_fit 10 = .ok (.invokestatic 117, 3) := by decide +kernel
theorem dX11_fit_13 : decode cX11_fit 13 = .ok (.ifCond .eq 7, 3) := by decide +kernel
theorem dX11_fit_16 : decode cX11_fit 16 = .ok (.iconst 0, 1) := by decide +kernel
theorem dX11_fit_17 : decode cX11_fit 17 = .ok (.goto 4, 3) := by decide +kernel
theorem dX11_fit_20 : decode cX11_fit 20 = .ok (.iconst 1, 1) := by decide +kernel
theorem dX11_fit_21 : decode cX11_fit 21 = .ok (.invokevirtual 113, 3) := by decide +kernel
theorem dX11_fit_24 : decode cX11_fit 24 = .ok (.ifCond .eq 7, 3) := by decide +kernel
theorem dX11_fit_27 : decode cX11_fit 27 = .ok (.iconst 0, 1) := by decide +kernel
theorem dX11_fit_28 : decode cX11_fit 28 = .ok (.goto 9, 3) := by decide +kernel
theorem dX11_fit_31 : decode cX11_fit 31 = .ok (.aload_n 0, 1) := by decide +kernel
theorem dX11_fit_32 : decode cX11_fit 32 = .ok (.iload_n 1, 1) := by decide +kernel
theorem dX11_fit_33 : decode cX11_fit 33 = .ok (.iload_n 2, 1) := by decide +kernel
theorem dX11_fit_34 : decode cX11_fit 34 = .ok (.invokevirtual 177, 3) := by decide +kernel
theorem dX11_fit_37 : decode cX11_fit 37 = .ok (.ireturn, 1) := by decide +kernel
theorem dX11_strokes_0 : decode cX11_strokes 0 = .ok (.iload_n 0, 1) := by decide +kernel
theorem dX11_strokes_1 : decode cX11_strokes 1 = .ok (.sipush 999, 3) := by decide +kernel
theorem dX11_strokes_4 : decode cX11_strokes 4 = .ok (.if_icmp .le 7, 3) := by decide +kernel
theorem dX11_strokes_7 : decode cX11_strokes 7 = .ok (.iconst 4, 1) := by decide +kernel
theorem dX11_strokes_8 : decode cX11_strokes 8 = .ok (.goto 24, 3) := by decide +kernel
theorem dX11_strokes_11 : decode cX11_strokes 11 = .ok (.iload_n 0, 1) := by decide +kernel
theorem dX11_strokes_12 : decode cX11_strokes 12 = .ok (.bipush 99, 2) := by decide +kernel
theorem dX11_strokes_14 : decode cX11_strokes 14 = .ok (.if_icmp .le 7, 3) := by decide +kernel
theorem dX11_strokes_17 : decode cX11_strokes 17 = .ok (.iconst 3, 1) := by decide +kernel
theorem dX11_strokes_18 : decode cX11_strokes 18 = .ok (.goto 14, 3) := by decide +kernel
theorem dX11_strokes_21 : decode cX11_strokes 21 = .ok (.iload_n 0, 1) := by decide +kernel
theorem dX11_strokes_22 : decode cX11_strokes 22 = .ok (.bipush 9, 2) := by decide +kernel
theorem dX11_strokes_24 : decode cX11_strokes 24 = .ok (.if_icmp .le 7, 3) := by decide +kernel
theorem dX11_strokes_27 : decode cX11_strokes 27 = .ok (.iconst 2, 1) := by decide +kernel
theorem dX11_strokes_28 : decode cX11_strokes 28 = .ok (.goto 4, 3) := by decide +kernel
theorem dX11_strokes_31 : decode cX11_strokes 31 = .ok (.iconst 1, 1) := by decide +kernel
theorem dX11_strokes_32 : decode cX11_strokes 32 = .ok (.ireturn, 1) := by decide +kernel
theorem dX11_shape_0 : decode cX11_shape 0 = .ok (.iload_n 2, 1) := by decide +kernel
theorem dX11_shape_1 : decode cX11_shape 1 = .ok (.iconst 1, 1) := by decide +kernel
theorem dX11_shape_2 : decode cX11_shape 2 = .ok (.sipush 4444, 3) := by decide +kernel
theorem dX11_shape_5 : decode cX11_shape 5 = .ok (.invokestatic 103, 3) := by decide +kernel
theorem dX11_shape_8 : decode cX11_shape 8 = .ok (.istore_n 3, 1) := by decide +kernel
theorem dX11_shape_9 : decode cX11_shape 9 = .ok (.iload_n 2, 1) := by decide +kernel
theorem dX11_shape_10 : decode cX11_shape 10 = .ok (.istore 4, 2) := by decide +kernel
theorem dX11_shape_12 : decode cX11_shape 12 = .ok (.iload_n 3, 1) := by decide +kernel
theorem dX11_shape_13 : decode cX11_shape 13 = .ok (.ifCond .eq 29, 3) := by decide +kernel
theorem dX11_shape_16 : decode cX11_shape 16 = .ok (.iload 4, 2) := by decide +kernel
theorem dX11_shape_18 : decode cX11_shape 18 = .ok (.ifCond .le 24, 3) := by decide +kernel
theorem dX11_shape_21 : decode cX11_shape 21 = .ok (.iload 4, 2) := by decide +kernel
theorem dX11_shape_23 : decode cX11_shape 23 = .ok (.bipush 10, 2) := by decide +kernel
theorem dX11_shape_25 : decode cX11_shape 25 = .ok (.irem, 1) := by decide +kernel
theorem dX11_shape_26 : decode cX11_shape 26 = .ok (.iconst 1, 1) := by decide +kernel
theorem dX11_shape_27 : decode cX11_shape 27 = .ok (.iconst 4, 1) := by decide +kernel
theorem dX11_shape_28 : decode cX11_shape 28 = .ok (.invokestatic 103, 3) := by decide +kernel
theorem dX11_shape_31 : decode cX11_shape 31 = .ok (.istore_n 3, 1) := by decide +kernel
theorem dX11_shape_32 : decode cX11_shape 32 = .ok (.iload 4, 2) := by decide +kernel
theorem dX11_shape_34 : decode cX11_shape 34 = .ok (.bipush 10, 2) := by decide +kernel
theorem dX11_shape_36 : decode cX11_shape 36 = .ok (.idiv, 1) := by decide +kernel
theorem dX11_shape_37 : decode cX11_shape 37 = .ok (.istore 4, 2) := by decide +kernel
theorem dX11_shape_39 : decode cX11_shape 39 = .ok (.goto (-27), 3) := by decide +kernel
theorem dX11_shape_42 : decode cX11_shape 42 = .ok (.aload_n 0, 1) := by decide +kernel
theorem dX11_shape_43 : decode cX11_shape 43 = .ok (.iload_n 1, 1) := by decide +kernel
theorem dX11_shape_44 : decode cX11_shape 44 = .ok (.invokestatic 149, 3) := by decide +kernel
theorem dX11_shape_47 : decode cX11_shape 47 = .ok (.ifCond .ne 7, 3) := by decide +kernel
theorem dX11_shape_50 : decode cX11_shape 50 = .ok (.iconst 1, 1) := by decide +kernel
theorem dX11_shape_51 : decode cX11_shape 51 = .ok (.goto 12, 3) := by decide +kernel
theorem dX11_shape_54 : decode cX11_shape 54 = .ok (.iload_n 3, 1) := by decide +kernel
theorem dX11_shape_55 : decode cX11_shape 55 = .ok (.ifCond .eq 7, 3) := by decide +kernel
theorem dX11_shape_58 : decode cX11_shape 58 = .ok (.iconst 0, 1) := by decide +kernel
theorem dX11_shape_59 : decode cX11_shape 59 = .ok (.goto 4, 3) := by decide +kernel
theorem dX11_shape_62 : decode cX11_shape 62 = .ok (.iconst 2, 1) := by decide +kernel
theorem dX11_shape_63 : decode cX11_shape 63 = .ok (.invokevirtual 113, 3) := by decide +kernel
theorem dX11_shape_66 : decode cX11_shape 66 = .ok (.ifCond .eq 5, 3) := by decide +kernel
theorem dX11_shape_69 : decode cX11_shape 69 = .ok (.iconst 0, 1) := by decide +kernel
theorem dX11_shape_70 : decode cX11_shape 70 = .ok (.ireturn, 1) := by decide +kernel
theorem dX11_shape_71 : decode cX11_shape 71 = .ok (.aload_n 0, 1) := by decide +kernel
theorem dX11_shape_72 : decode cX11_shape 72 = .ok (.getfield 53, 3) := by decide +kernel
theorem dX11_shape_75 : decode cX11_shape 75 = .ok (.iload_n 1, 1) := by decide +kernel
theorem dX11_shape_76 : decode cX11_shape 76 = .ok (.iaload, 1) := by decide +kernel
theorem dX11_shape_77 : decode cX11_shape 77 = .ok (.istore 4, 2) := by decide +kernel
theorem dX11_shape_79 : decode cX11_shape 79 = .ok (.aload_n 0, 1) := by decide +kernel
theorem dX11_shape_80 : decode cX11_shape 80 = .ok (.getfield 53, 3) := by decide +kernel
theorem dX11_shape_83 : decode cX11_shape 83 = .ok (.iload_n 1, 1) := by decide +kernel
theorem dX11_shape_84 : decode cX11_shape 84 = .ok (.iload_n 2, 1) := by decide +kernel
theorem dX11_shape_85 : decode cX11_shape 85 = .ok (.iastore, 1) := by decide +kernel
theorem dX11_shape_86 : decode cX11_shape 86 = .ok (.iload 4, 2) := by decide +kernel
theorem dX11_shape_88 : decode cX11_shape 88 = .ok (.ireturn, 1) := by decide +kernel
theorem dX11_lesser_0 : decode cX11_lesser 0 = .ok (.iload_n 0, 1) := by decide +kernel
theorem dX11_lesser_1 : decode cX11_lesser 1 = .ok (.iload_n 1, 1) := by decide +kernel
theorem dX11_lesser_2 : decode cX11_lesser 2 = .ok (.if_icmp .ge 7, 3) := by decide +kernel
theorem dX11_lesser_5 : decode cX11_lesser 5 = .ok (.iload_n 0, 1) := by decide +kernel
theorem dX11_lesser_6 : decode cX11_lesser 6 = .ok (.goto 4, 3) := by decide +kernel
theorem dX11_lesser_9 : decode cX11_lesser 9 = .ok (.iload_n 1, 1) := by decide +kernel
theorem dX11_lesser_10 : decode cX11_lesser 10 = .ok (.ireturn, 1) := by decide +kernel
theorem dX11_far_0 : decode cX11_far 0 = .ok (.iload_n 2, 1) := by decide +kernel
theorem dX11_far_1 : decode cX11_far 1 = .ok (.invokestatic 180, 3) := by decide +kernel
theorem dX11_far_4 : decode cX11_far 4 = .ok (.istore_n 3, 1) := by decide +kernel
theorem dX11_far_5 : decode cX11_far 5 = .ok (.iconst 0, 1) := by decide +kernel
theorem dX11_far_6 : decode cX11_far 6 = .ok (.istore 4, 2) := by decide +kernel
theorem dX11_far_8 : decode cX11_far 8 = .ok (.iload 4, 2) := by decide +kernel
theorem dX11_far_10 : decode cX11_far 10 = .ok (.iload_n 3, 1) := by decide +kernel
theorem dX11_far_11 : decode cX11_far 11 = .ok (.if_icmp .gt 18, 3) := by decide +kernel
theorem dX11_far_14 : decode cX11_far 14 = .ok (.aload_n 0, 1) := by decide +kernel
theorem dX11_far_15 : decode cX11_far 15 = .ok (.getfield 93, 3) := by decide +kernel
theorem dX11_far_18 : decode cX11_far 18 = .ok (.iload 4, 2) := by decide +kernel
theorem dX11_far_20 : decode cX11_far 20 = .ok (.iload 4, 2) := by decide +kernel
theorem dX11_far_22 : decode cX11_far 22 = .ok (.iastore, 1) := by decide +kernel
theorem dX11_far_23 : decode cX11_far 23 = .ok (.iinc 4 1, 3) := by decide +kernel
theorem dX11_far_26 : decode cX11_far 26 = .ok (.goto (-18), 3) := by decide +kernel
theorem dX11_far_29 : decode cX11_far 29 = .ok (.iconst 0, 1) := by decide +kernel
theorem dX11_far_30 : decode cX11_far 30 = .ok (.istore 4, 2) := by decide +kernel
theorem dX11_far_32 : decode cX11_far 32 = .ok (.iload_n 1, 1) := by decide +kernel
theorem dX11_far_33 : decode cX11_far 33 = .ok (.istore 5, 2) := by decide +kernel
theorem dX11_far_35 : decode cX11_far 35 = .ok (.iload 5, 2) := by decide +kernel
theorem dX11_far_37 : decode cX11_far 37 = .ok (.ifCond .le 117, 3) := by decide +kernel
theorem dX11_far_40 : decode cX11_far 40 = .ok (.iload 4, 2) := by decide +kernel
theorem dX11_far_42 : decode cX11_far 42 = .ok (.istore 6, 2) := by decide +kernel
theorem dX11_far_44 : decode cX11_far 44 = .ok (.iinc 4 1, 3) := by decide +kernel
theorem dX11_far_47 : decode cX11_far 47 = .ok (.aload_n 0, 1) := by decide +kernel
theorem dX11_far_48 : decode cX11_far 48 = .ok (.getfield 93, 3) := by decide +kernel
theorem dX11_far_51 : decode cX11_far 51 = .ok (.iconst 0, 1) := by decide +kernel
theorem dX11_far_52 : decode cX11_far 52 = .ok (.iload 4, 2) := by decide +kernel
theorem dX11_far_54 : decode cX11_far 54 = .ok (.iastore, 1) := by decide +kernel
theorem dX11_far_55 : decode cX11_far 55 = .ok (.iload_n 2, 1) := by decide +kernel
theorem dX11_far_56 : decode cX11_far 56 = .ok (.istore 7, 2) := by decide +kernel
theorem dX11_far_58 : decode cX11_far 58 = .ok (.iconst 1, 1) := by decide +kernel
theorem dX11_far_59 : decode cX11_far 59 = .ok (.istore 8, 2) := by decide +kernel
theorem dX11_far_61 : decode cX11_far 61 = .ok (.iload 8, 2) := by decide +kernel
theorem dX11_far_63 : decode cX11_far 63 = .ok (.iload_n 3, 1) := by decide +kernel
theorem dX11_far_64 : decode cX11_far 64 = .ok (.if_icmp .gt 80, 3) := by decide +kernel
theorem dX11_far_67 : decode cX11_far 67 = .ok (.aload_n 0, 1) := by decide +kernel
theorem dX11_far_68 : decode cX11_far 68 = .ok (.getfield 93, 3) := by decide +kernel
theorem dX11_far_71 : decode cX11_far 71 = .ok (.iload 8, 2) := by decide +kernel
theorem dX11_far_73 : decode cX11_far 73 = .ok (.iaload, 1) := by decide +kernel
theorem dX11_far_74 : decode cX11_far 74 = .ok (.istore 9, 2) := by decide +kernel
theorem dX11_far_76 : decode cX11_far 76 = .ok (.iload 6, 2) := by decide +kernel
theorem dX11_far_78 : decode cX11_far 78 = .ok (.iload 5, 2) := by decide +kernel
theorem dX11_far_80 : decode cX11_far 80 = .ok (.bipush 10, 2) := by decide +kernel
theorem dX11_far_82 : decode cX11_far 82 = .ok (.irem, 1) := by decide +kernel
theorem dX11_far_83 : decode cX11_far 83 = .ok (.iload 7, 2) := by decide +kernel
theorem dX11_far_85 : decode cX11_far 85 = .ok (.bipush 10, 2) := by decide +kernel
theorem dX11_far_87 : decode cX11_far 87 = .ok (.irem, 1) := by decide +kernel
theorem dX11_far_88 : decode cX11_far 88 = .ok (.if_icmp .ne 7, 3) := by decide +kernel
theorem dX11_far_91 : decode cX11_far 91 = .ok (.iconst 0, 1) := by decide +kernel
theorem dX11_far_92 : decode cX11_far 92 = .ok (.goto 4, 3) := by decide +kernel
theorem dX11_far_95 : decode cX11_far 95 = .ok (.iconst 1, 1) := by decide +kernel
theorem dX11_far_96 : decode cX11_far 96 = .ok (.iadd, 1) := by decide +kernel
theorem dX11_far_97 : decode cX11_far 97 = .ok (.istore 10, 2) := by decide +kernel
theorem dX11_far_99 : decode cX11_far 99 = .ok (.aload_n 0, 1) := by decide +kernel
theorem dX11_far_100 : decode cX11_far 100 = .ok (.getfield 93, 3) := by decide +kernel
theorem dX11_far_103 : decode cX11_far 103 = .ok (.iload 8, 2) := by decide +kernel
theorem dX11_far_105 : decode cX11_far 105 = .ok (.iload 10, 2) := by decide +kernel
theorem dX11_far_107 : decode cX11_far 107 = .ok (.iload 9, 2) := by decide +kernel
theorem dX11_far_109 : decode cX11_far 109 = .ok (.aload_n 0, 1) := by decide +kernel
theorem dX11_far_110 : decode cX11_far 110 = .ok (.getfield 93, 3) := by decide +kernel
theorem dX11_far_113 : decode cX11_far 113 = .ok (.iload 8, 2) := by decide +kernel
theorem dX11_far_115 : decode cX11_far 115 = .ok (.iconst 1, 1) := by decide +kernel
theorem dX11_far_116 : decode cX11_far 116 = .ok (.isub, 1) := by decide +kernel
theorem dX11_far_117 : decode cX11_far 117 = .ok (.iaload, 1) := by decide +kernel
theorem dX11_far_118 : decode cX11_far 118 = .ok (.invokestatic 183, 3) := by decide +kernel
theorem dX11_far_121 : decode cX11_far 121 = .ok (.iconst 1, 1) := by decide +kernel
theorem dX11_far_122 : decode cX11_far 122 = .ok (.iadd, 1) := by decide +kernel
theorem dX11_far_123 : decode cX11_far 123 = .ok (.invokestatic 183, 3) := by decide +kernel
theorem dX11_far_126 : decode cX11_far 126 = .ok (.iastore, 1) := by decide +kernel
theorem dX11_far_127 : decode cX11_far 127 = .ok (.iload 9, 2) := by decide +kernel
theorem dX11_far_129 : decode cX11_far 129 = .ok (.istore 6, 2) := by decide +kernel
theorem dX11_far_131 : decode cX11_far 131 = .ok (.iload 7, 2) := by decide +kernel
theorem dX11_far_133 : decode cX11_far 133 = .ok (.bipush 10, 2) := by decide +kernel
theorem dX11_far_135 : decode cX11_far 135 = .ok (.idiv, 1) := by decide +kernel
theorem dX11_far_136 : decode cX11_far 136 = .ok (.istore 7, 2) := by decide +kernel
theorem dX11_far_138 : decode cX11_far 138 = .ok (.iinc 8 1, 3) := by decide +kernel
theorem dX11_far_141 : decode cX11_far 141 = .ok (.goto (-80), 3) := by decide +kernel
theorem dX11_far_144 : decode cX11_far 144 = .ok (.iload 5, 2) := by decide +kernel
theorem dX11_far_146 : decode cX11_far 146 = .ok (.bipush 10, 2) := by decide +kernel
theorem dX11_far_148 : decode cX11_far 148 = .ok (.idiv, 1) := by decide +kernel
theorem dX11_far_149 : decode cX11_far 149 = .ok (.istore 5, 2) := by decide +kernel
theorem dX11_far_151 : decode cX11_far 151 = .ok (.goto (-116), 3) := by decide +kernel
theorem dX11_far_154 : decode cX11_far 154 = .ok (.aload_n 0, 1) := by decide +kernel
theorem dX11_far_155 : decode cX11_far 155 = .ok (.getfield 93, 3) := by decide +kernel
theorem dX11_far_158 : decode cX11_far 158 = .ok (.iload_n 3, 1) := by decide +kernel
theorem dX11_far_159 : decode cX11_far 159 = .ok (.iaload, 1) := by decide +kernel
theorem dX11_far_160 : decode cX11_far 160 = .ok (.ireturn, 1) := by decide +kernel
theorem dX11_apart_0 : decode cX11_apart 0 = .ok (.aload_n 0, 1) := by decide +kernel
theorem dX11_apart_1 : decode cX11_apart 1 = .ok (.iload_n 1, 1) := by decide +kernel
theorem dX11_apart_2 : decode cX11_apart 2 = .ok (.invokestatic 149, 3) := by decide +kernel
theorem dX11_apart_5 : decode cX11_apart 5 = .ok (.ifCond .eq 14, 3) := by decide +kernel
theorem dX11_apart_8 : decode cX11_apart 8 = .ok (.iload_n 2, 1) := by decide +kernel
theorem dX11_apart_9 : decode cX11_apart 9 = .ok (.invokestatic 149, 3) := by decide +kernel
theorem dX11_apart_12 : decode cX11_apart 12 = .ok (.ifCond .eq 7, 3) := by decide +kernel
theorem dX11_apart_15 : decode cX11_apart 15 = .ok (.iconst 0, 1) := by decide +kernel
theorem dX11_apart_16 : decode cX11_apart 16 = .ok (.goto 4, 3) := by decide +kernel
theorem dX11_apart_19 : decode cX11_apart 19 = .ok (.iconst 1, 1) := by decide +kernel
theorem dX11_apart_20 : decode cX11_apart 20 = .ok (.invokevirtual 113, 3) := by decide +kernel
theorem dX11_apart_23 : decode cX11_apart 23 = .ok (.ifCond .eq 7, 3) := by decide +kernel
theorem dX11_apart_26 : decode cX11_apart 26 = .ok (.iconst 0, 1) := by decide +kernel
theorem dX11_apart_27 : decode cX11_apart 27 = .ok (.goto 19, 3) := by decide +kernel
theorem dX11_apart_30 : decode cX11_apart 30 = .ok (.aload_n 0, 1) := by decide +kernel
theorem dX11_apart_31 : decode cX11_apart 31 = .ok (.aload_n 0, 1) := by decide +kernel
theorem dX11_apart_32 : decode cX11_apart 32 = .ok (.getfield 53, 3) := by decide +kernel
theorem dX11_apart_35 : decode cX11_apart 35 = .ok (.iload_n 1, 1) := by decide +kernel
theorem dX11_apart_36 : decode cX11_apart 36 = .ok (.iaload, 1) := by decide +kernel
theorem dX11_apart_37 : decode cX11_apart 37 = .ok (.aload_n 0, 1) := by decide +kernel
theorem dX11_apart_38 : decode cX11_apart 38 = .ok (.getfield 53, 3) := by decide +kernel
theorem dX11_apart_41 : decode cX11_apart 41 = .ok (.iload_n 2, 1) := by decide +kernel
theorem dX11_apart_42 : decode cX11_apart 42 = .ok (.iaload, 1) := by decide +kernel
theorem dX11_apart_43 : decode cX11_apart 43 = .ok (.invokevirtual 186, 3) := by decide +kernel
theorem dX11_apart_46 : decode cX11_apart 46 = .ok (.ireturn, 1) := by decide +kernel
theorem dX11_clear_0 : decode cX11_clear 0 = .ok (.aload_n 0, 1) := by decide +kernel
theorem dX11_clear_1 : decode cX11_clear 1 = .ok (.aload_n 0, 1) := by decide +kernel
theorem dX11_clear_2 : decode cX11_clear 2 = .ok (.iload_n 1, 1) := by decide +kernel
theorem dX11_clear_3 : decode cX11_clear 3 = .ok (.invokevirtual 146, 3) := by decide +kernel
theorem dX11_clear_6 : decode cX11_clear 6 = .ok (.ifCond .eq 7, 3) := by decide +kernel
theorem dX11_clear_9 : decode cX11_clear 9 = .ok (.iconst 0, 1) := by decide +kernel
theorem dX11_clear_10 : decode cX11_clear 10 = .ok (.goto 4, 3) := by decide +kernel
theorem dX11_clear_13 : decode cX11_clear 13 = .ok (.iconst 1, 1) := by decide +kernel
theorem dX11_clear_14 : decode cX11_clear 14 = .ok (.invokevirtual 113, 3) := by decide +kernel
theorem dX11_clear_17 : decode cX11_clear 17 = .ok (.ifCond .eq 5, 3) := by decide +kernel
theorem dX11_clear_20 : decode cX11_clear 20 = .ok (.iconst 0, 1) := by decide +kernel
theorem dX11_clear_21 : decode cX11_clear 21 = .ok (.ireturn, 1) := by decide +kernel
theorem dX11_clear_22 : decode cX11_clear 22 = .ok (.iconst (-1), 1) := by decide +kernel
theorem dX11_clear_23 : decode cX11_clear 23 = .ok (.istore_n 2, 1) := by decide +kernel
theorem dX11_clear_24 : decode cX11_clear 24 = .ok (.iconst 0, 1) := by decide +kernel
theorem dX11_clear_25 : decode cX11_clear 25 = .ok (.istore_n 3, 1) := by decide +kernel
theorem dX11_clear_26 : decode cX11_clear 26 = .ok (.iload_n 3, 1) := by decide +kernel
theorem dX11_clear_27 : decode cX11_clear 27 = .ok (.bipush 50, 2) := by decide +kernel
theorem dX11_clear_29 : decode cX11_clear 29 = .ok (.if_icmp .ge 80, 3) := by decide +kernel
theorem dX11_clear_32 : decode cX11_clear 32 = .ok (.iconst 0, 1) := by decide +kernel
theorem dX11_clear_33 : decode cX11_clear 33 = .ok (.istore 4, 2) := by decide +kernel
theorem dX11_clear_35 : decode cX11_clear 35 = .ok (.iload 4, 2) := by decide +kernel
theorem dX11_clear_37 : decode cX11_clear 37 = .ok (.iload_n 3, 1) := by decide +kernel
theorem dX11_clear_38 : decode cX11_clear 38 = .ok (.if_icmp .ge 65, 3) := by decide +kernel
theorem dX11_clear_41 : decode cX11_clear 41 = .ok (.aload_n 0, 1) := by decide +kernel
theorem dX11_clear_42 : decode cX11_clear 42 = .ok (.iload_n 1, 1) := by decide +kernel
theorem dX11_clear_43 : decode cX11_clear 43 = .ok (.iload_n 3, 1) := by decide +kernel
theorem dX11_clear_44 : decode cX11_clear 44 = .ok (.invokevirtual 189, 3) := by decide +kernel
theorem dX11_clear_47 : decode cX11_clear 47 = .ok (.ifCond .eq 50, 3) := by decide +kernel
theorem dX11_clear_50 : decode cX11_clear 50 = .ok (.aload_n 0, 1) := by decide +kernel
theorem dX11_clear_51 : decode cX11_clear 51 = .ok (.iload_n 1, 1) := by decide +kernel
theorem dX11_clear_52 : decode cX11_clear 52 = .ok (.iload 4, 2) := by decide +kernel
theorem dX11_clear_54 : decode cX11_clear 54 = .ok (.invokevirtual 189, 3) := by decide +kernel
theorem dX11_clear_57 : decode cX11_clear 57 = .ok (.ifCond .eq 40, 3) := by decide +kernel
theorem dX11_clear_60 : decode cX11_clear 60 = .ok (.aload_n 0, 1) := by decide +kernel
theorem dX11_clear_61 : decode cX11_clear 61 = .ok (.aload_n 0, 1) := by decide +kernel
theorem dX11_clear_62 : decode cX11_clear 62 = .ok (.getfield 53, 3) := by decide +kernel
theorem dX11_clear_65 : decode cX11_clear 65 = .ok (.iload_n 3, 1) := by decide +kernel
theorem dX11_clear_66 : decode cX11_clear 66 = .ok (.iaload, 1) := by decide +kernel
theorem dX11_clear_67 : decode cX11_clear 67 = .ok (.aload_n 0, 1) := by decide +kernel
theorem dX11_clear_68 : decode cX11_clear 68 = .ok (.getfield 53, 3) := by decide +kernel
theorem dX11_clear_71 : decode cX11_clear 71 = .ok (.iload 4, 2) := by decide +kernel
theorem dX11_clear_73 : decode cX11_clear 73 = .ok (.iaload, 1) := by decide +kernel
theorem dX11_clear_74 : decode cX11_clear 74 = .ok (.invokevirtual 186, 3) := by decide +kernel
theorem dX11_clear_77 : decode cX11_clear 77 = .ok (.istore 5, 2) := by decide +kernel
theorem dX11_clear_79 : decode cX11_clear 79 = .ok (.iload_n 2, 1) := by decide +kernel
theorem dX11_clear_80 : decode cX11_clear 80 = .ok (.iconst (-1), 1) := by decide +kernel
theorem dX11_clear_81 : decode cX11_clear 81 = .ok (.if_icmp .eq 9, 3) := by decide +kernel
theorem dX11_clear_84 : decode cX11_clear 84 = .ok (.iload 5, 2) := by decide +kernel
theorem dX11_clear_86 : decode cX11_clear 86 = .ok (.iload_n 2, 1) := by decide +kernel
theorem dX11_clear_87 : decode cX11_clear 87 = .ok (.if_icmp .ge 8, 3) := by decide +kernel
theorem dX11_clear_90 : decode cX11_clear 90 = .ok (.iload 5, 2) := by decide +kernel
theorem dX11_clear_92 : decode cX11_clear 92 = .ok (.goto 4, 3) := by decide +kernel
theorem dX11_clear_95 : decode cX11_clear 95 = .ok (.iload_n 2, 1) := by decide +kernel
theorem dX11_clear_96 : decode cX11_clear 96 = .ok (.istore_n 2, 1) := by decide +kernel
theorem dX11_clear_97 : decode cX11_clear 97 = .ok (.iinc 4 1, 3) := by decide +kernel
theorem dX11_clear_100 : decode cX11_clear 100 = .ok (.goto (-65), 3) := by decide +kernel
theorem dX11_clear_103 : decode cX11_clear 103 = .ok (.iinc 3 1, 3) := by decide +kernel
theorem dX11_clear_106 : decode cX11_clear 106 = .ok (.goto (-80), 3) := by decide +kernel
theorem dX11_clear_109 : decode cX11_clear 109 = .ok (.iload_n 2, 1) := by decide +kernel
theorem dX11_clear_110 : decode cX11_clear 110 = .ok (.ireturn, 1) := by decide +kernel
theorem dX11_errors_0 : decode cX11_errors 0 = .ok (.aload_n 0, 1) := by decide +kernel
theorem dX11_errors_1 : decode cX11_errors 1 = .ok (.aload_n 0, 1) := by decide +kernel
theorem dX11_errors_2 : decode cX11_errors 2 = .ok (.iload_n 1, 1) := by decide +kernel
theorem dX11_errors_3 : decode cX11_errors 3 = .ok (.invokevirtual 146, 3) := by decide +kernel
theorem dX11_errors_6 : decode cX11_errors 6 = .ok (.ifCond .ne 7, 3) := by decide +kernel
theorem dX11_errors_9 : decode cX11_errors 9 = .ok (.iconst 1, 1) := by decide +kernel
theorem dX11_errors_10 : decode cX11_errors 10 = .ok (.goto 17, 3) := by decide +kernel
theorem dX11_errors_13 : decode cX11_errors 13 = .ok (.iload_n 2, 1) := by decide +kernel
theorem dX11_errors_14 : decode cX11_errors 14 = .ok (.iconst 0, 1) := by decide +kernel
theorem dX11_errors_15 : decode cX11_errors 15 = .ok (.iconst 4, 1) := by decide +kernel
theorem dX11_errors_16 : decode cX11_errors 16 = .ok (.invokestatic 103, 3) := by decide +kernel
theorem dX11_errors_19 : decode cX11_errors 19 = .ok (.ifCond .eq 7, 3) := by decide +kernel
theorem dX11_errors_22 : decode cX11_errors 22 = .ok (.iconst 0, 1) := by decide +kernel
theorem dX11_errors_23 : decode cX11_errors 23 = .ok (.goto 4, 3) := by decide +kernel
theorem dX11_errors_26 : decode cX11_errors 26 = .ok (.iconst 2, 1) := by decide +kernel
theorem dX11_errors_27 : decode cX11_errors 27 = .ok (.invokevirtual 113, 3) := by decide +kernel
theorem dX11_errors_30 : decode cX11_errors 30 = .ok (.ifCond .eq 5, 3) := by decide +kernel
theorem dX11_errors_33 : decode cX11_errors 33 = .ok (.iconst 0, 1) := by decide +kernel
theorem dX11_errors_34 : decode cX11_errors 34 = .ok (.ireturn, 1) := by decide +kernel
theorem dX11_errors_35 : decode cX11_errors 35 = .ok (.aload_n 0, 1) := by decide +kernel
theorem dX11_errors_36 : decode cX11_errors 36 = .ok (.iload_n 1, 1) := by decide +kernel
theorem dX11_errors_37 : decode cX11_errors 37 = .ok (.aload_n 0, 1) := by decide +kernel
theorem dX11_errors_38 : decode cX11_errors 38 = .ok (.getfield 41, 3) := by decide +kernel
theorem dX11_errors_41 : decode cX11_errors 41 = .ok (.iload_n 1, 1) := by decide +kernel
theorem dX11_errors_42 : decode cX11_errors 42 = .ok (.iaload, 1) := by decide +kernel
theorem dX11_errors_43 : decode cX11_errors 43 = .ok (.iconst 0, 1) := by decide +kernel
theorem dX11_errors_44 : decode cX11_errors 44 = .ok (.invokevirtual 156, 3) := by decide +kernel
theorem dX11_errors_47 : decode cX11_errors 47 = .ok (.iconst 0, 1) := by decide +kernel
theorem dX11_errors_48 : decode cX11_errors 48 = .ok (.istore_n 3, 1) := by decide +kernel
theorem dX11_errors_49 : decode cX11_errors 49 = .ok (.iconst 0, 1) := by decide +kernel
theorem dX11_errors_50 : decode cX11_errors 50 = .ok (.istore 4, 2) := by decide +kernel
theorem dX11_errors_52 : decode cX11_errors 52 = .ok (.iload 4, 2) := by decide +kernel
theorem dX11_errors_54 : decode cX11_errors 54 = .ok (.bipush 50, 2) := by decide +kernel
theorem dX11_errors_56 : decode cX11_errors 56 = .ok (.if_icmp .ge 169, 3) := by decide +kernel
theorem dX11_errors_59 : decode cX11_errors 59 = .ok (.iconst 0, 1) := by decide +kernel
theorem dX11_errors_60 : decode cX11_errors 60 = .ok (.istore 5, 2) := by decide +kernel
theorem dX11_errors_62 : decode cX11_errors 62 = .ok (.iconst 0, 1) := by decide +kernel
theorem dX11_errors_63 : decode cX11_errors 63 = .ok (.istore 6, 2) := by decide +kernel
theorem dX11_errors_65 : decode cX11_errors 65 = .ok (.iload 6, 2) := by decide +kernel
theorem dX11_errors_67 : decode cX11_errors 67 = .ok (.bipush 50, 2) := by decide +kernel
theorem dX11_errors_69 : decode cX11_errors 69 = .ok (.if_icmp .ge 70, 3) := by decide +kernel
theorem dX11_errors_72 : decode cX11_errors 72 = .ok (.aload_n 0, 1) := by decide +kernel
theorem dX11_errors_73 : decode cX11_errors 73 = .ok (.iload_n 1, 1) := by decide +kernel
theorem dX11_errors_74 : decode cX11_errors 74 = .ok (.iload 4, 2) := by decide +kernel
theorem dX11_errors_76 : decode cX11_errors 76 = .ok (.invokevirtual 189, 3) := by decide +kernel
theorem dX11_errors_79 : decode cX11_errors 79 = .ok (.ifCond .eq 60, 3) := by decide +kernel
theorem dX11_errors_82 : decode cX11_errors 82 = .ok (.iload 5, 2) := by decide +kernel
theorem dX11_errors_84 : decode cX11_errors 84 = .ok (.ifCond .ne 42, 3) := by decide +kernel
theorem dX11_errors_87 : decode cX11_errors 87 = .ok (.iload 6, 2) := by decide +kernel
theorem dX11_errors_89 : decode cX11_errors 89 = .ok (.iload 4, 2) := by decide +kernel
theorem dX11_errors_91 : decode cX11_errors 91 = .ok (.if_icmp .eq 39, 3) := by decide +kernel
theorem dX11_errors_94 : decode cX11_errors 94 = .ok (.aload_n 0, 1) := by decide +kernel
theorem dX11_errors_95 : decode cX11_errors 95 = .ok (.iload_n 1, 1) := by decide +kernel
theorem dX11_errors_96 : decode cX11_errors 96 = .ok (.iload 6, 2) := by decide +kernel
theorem dX11_errors_98 : decode cX11_errors 98 = .ok (.invokevirtual 189, 3) := by decide +kernel
theorem dX11_errors_101 : decode cX11_errors 101 = .ok (.ifCond .eq 29, 3) := by decide +kernel
theorem dX11_errors_104 : decode cX11_errors 104 = .ok (.aload_n 0, 1) := by decide +kernel
theorem dX11_errors_105 : decode cX11_errors 105 = .ok (.aload_n 0, 1) := by decide +kernel
theorem dX11_errors_106 : decode cX11_errors 106 = .ok (.getfield 53, 3) := by decide +kernel
theorem dX11_errors_109 : decode cX11_errors 109 = .ok (.iload 4, 2) := by decide +kernel
theorem dX11_errors_111 : decode cX11_errors 111 = .ok (.iaload, 1) := by decide +kernel
theorem dX11_errors_112 : decode cX11_errors 112 = .ok (.aload_n 0, 1) := by decide +kernel
theorem dX11_errors_113 : decode cX11_errors 113 = .ok (.getfield 53, 3) := by decide +kernel
theorem dX11_errors_116 : decode cX11_errors 116 = .ok (.iload 6, 2) := by decide +kernel
theorem dX11_errors_118 : decode cX11_errors 118 = .ok (.iaload, 1) := by decide +kernel
theorem dX11_errors_119 : decode cX11_errors 119 = .ok (.invokevirtual 186, 3) := by decide +kernel
theorem dX11_errors_122 : decode cX11_errors 122 = .ok (.iload_n 2, 1) := by decide +kernel
theorem dX11_errors_123 : decode cX11_errors 123 = .ok (.if_icmp .gt 7, 3) := by decide +kernel
theorem dX11_errors_126 : decode cX11_errors 126 = .ok (.iconst 1, 1) := by decide +kernel
theorem dX11_errors_127 : decode cX11_errors 127 = .ok (.goto 4, 3) := by decide +kernel
theorem dX11_errors_130 : decode cX11_errors 130 = .ok (.iconst 0, 1) := by decide +kernel
theorem dX11_errors_131 : decode cX11_errors 131 = .ok (.istore 5, 2) := by decide +kernel
theorem dX11_errors_133 : decode cX11_errors 133 = .ok (.iinc 6 1, 3) := by decide +kernel
theorem dX11_errors_136 : decode cX11_errors 136 = .ok (.goto (-71), 3) := by decide +kernel
theorem dX11_errors_139 : decode cX11_errors 139 = .ok (.iconst 0, 1) := by decide +kernel
theorem dX11_errors_140 : decode cX11_errors 140 = .ok (.istore 6, 2) := by decide +kernel
theorem dX11_errors_142 : decode cX11_errors 142 = .ok (.iload 6, 2) := by decide +kernel
theorem dX11_errors_144 : decode cX11_errors 144 = .ok (.aload_n 0, 1) := by decide +kernel
theorem dX11_errors_145 : decode cX11_errors 145 = .ok (.getfield 100, 3) := by decide +kernel
theorem dX11_errors_148 : decode cX11_errors 148 = .ok (.if_icmp .ge 71, 3) := by decide +kernel
theorem dX11_errors_151 : decode cX11_errors 151 = .ok (.iload 5, 2) := by decide +kernel
theorem dX11_errors_153 : decode cX11_errors 153 = .ok (.ifCond .eq 66, 3) := by decide +kernel
theorem dX11_errors_156 : decode cX11_errors 156 = .ok (.bipush 16, 2) := by decide +kernel
theorem dX11_errors_158 : decode cX11_errors 158 = .ok (.iload 6, 2) := by decide +kernel
theorem dX11_errors_160 : decode cX11_errors 160 = .ok (.imul, 1) := by decide +kernel
theorem dX11_errors_161 : decode cX11_errors 161 = .ok (.istore 7, 2) := by decide +kernel
theorem dX11_errors_163 : decode cX11_errors 163 = .ok (.iload 7, 2) := by decide +kernel
theorem dX11_errors_165 : decode cX11_errors 165 = .ok (.bipush 16, 2) := by decide +kernel
theorem dX11_errors_167 : decode cX11_errors 167 = .ok (.iload 6, 2) := by decide +kernel
theorem dX11_errors_169 : decode cX11_errors 169 = .ok (.imul, 1) := by decide +kernel
theorem dX11_errors_170 : decode cX11_errors 170 = .ok (.aload_n 0, 1) := by decide +kernel
theorem dX11_errors_171 : decode cX11_errors 171 = .ok (.getfield 68, 3) := by decide +kernel
theorem dX11_errors_174 : decode cX11_errors 174 = .ok (.iload 6, 2) := by decide +kernel
theorem dX11_errors_176 : decode cX11_errors 176 = .ok (.iaload, 1) := by decide +kernel
theorem dX11_errors_177 : decode cX11_errors 177 = .ok (.iadd, 1) := by decide +kernel
theorem dX11_errors_178 : decode cX11_errors 178 = .ok (.if_icmp .ge 35, 3) := by decide +kernel
theorem dX11_errors_181 : decode cX11_errors 181 = .ok (.iload_n 3, 1) := by decide +kernel
theorem dX11_errors_182 : decode cX11_errors 182 = .ok (.aload_n 0, 1) := by decide +kernel
theorem dX11_errors_183 : decode cX11_errors 183 = .ok (.getfield 65, 3) := by decide +kernel
theorem dX11_errors_186 : decode cX11_errors 186 = .ok (.iload 7, 2) := by decide +kernel
theorem dX11_errors_188 : decode cX11_errors 188 = .ok (.iaload, 1) := by decide +kernel
theorem dX11_errors_189 : decode cX11_errors 189 = .ok (.iload 4, 2) := by decide +kernel
theorem dX11_errors_191 : decode cX11_errors 191 = .ok (.if_icmp .ne 13, 3) := by decide +kernel
theorem dX11_errors_194 : decode cX11_errors 194 = .ok (.aload_n 0, 1) := by decide +kernel
theorem dX11_errors_195 : decode cX11_errors 195 = .ok (.getfield 19, 3) := by decide +kernel
theorem dX11_errors_198 : decode cX11_errors 198 = .ok (.iload 6, 2) := by decide +kernel
theorem dX11_errors_200 : decode cX11_errors 200 = .ok (.iaload, 1) := by decide +kernel
theorem dX11_errors_201 : decode cX11_errors 201 = .ok (.goto 4, 3) := by decide +kernel
theorem dX11_errors_204 : decode cX11_errors 204 = .ok (.iconst 0, 1) := by decide +kernel
theorem dX11_errors_205 : decode cX11_errors 205 = .ok (.iadd, 1) := by decide +kernel
theorem dX11_errors_206 : decode cX11_errors 206 = .ok (.istore_n 3, 1) := by decide +kernel
theorem dX11_errors_207 : decode cX11_errors 207 = .ok (.iinc 7 1, 3) := by decide +kernel
theorem dX11_errors_210 : decode cX11_errors 210 = .ok (.goto (-47), 3) := by decide +kernel
theorem dX11_errors_213 : decode cX11_errors 213 = .ok (.iinc 6 1, 3) := by decide +kernel
theorem dX11_errors_216 : decode cX11_errors 216 = .ok (.goto (-74), 3) := by decide +kernel
theorem dX11_errors_219 : decode cX11_errors 219 = .ok (.iinc 4 1, 3) := by decide +kernel
theorem dX11_errors_222 : decode cX11_errors 222 = .ok (.goto (-170), 3) := by decide +kernel
theorem dX11_errors_225 : decode cX11_errors 225 = .ok (.iload_n 3, 1) := by decide +kernel
theorem dX11_errors_226 : decode cX11_errors 226 = .ok (.ireturn, 1) := by decide +kernel
theorem dX11_uses_0 : decode cX11_uses 0 = .ok (.aload_n 0, 1) := by decide +kernel
theorem dX11_uses_1 : decode cX11_uses 1 = .ok (.iload_n 1, 1) := by decide +kernel
theorem dX11_uses_2 : decode cX11_uses 2 = .ok (.aload_n 0, 1) := by decide +kernel
theorem dX11_uses_3 : decode cX11_uses 3 = .ok (.getfield 41, 3) := by decide +kernel
theorem dX11_uses_6 : decode cX11_uses 6 = .ok (.iload_n 1, 1) := by decide +kernel
theorem dX11_uses_7 : decode cX11_uses 7 = .ok (.iaload, 1) := by decide +kernel
theorem dX11_uses_8 : decode cX11_uses 8 = .ok (.iconst 0, 1) := by decide +kernel
theorem dX11_uses_9 : decode cX11_uses 9 = .ok (.invokevirtual 156, 3) := by decide +kernel
theorem dX11_uses_12 : decode cX11_uses 12 = .ok (.lconst 0, 1) := by decide +kernel
theorem dX11_uses_13 : decode cX11_uses 13 = .ok (.lstore_n 2, 1) := by decide +kernel
theorem dX11_uses_14 : decode cX11_uses 14 = .ok (.iconst 0, 1) := by decide +kernel
theorem dX11_uses_15 : decode cX11_uses 15 = .ok (.istore 4, 2) := by decide +kernel
theorem dX11_uses_17 : decode cX11_uses 17 = .ok (.iload 4, 2) := by decide +kernel
theorem dX11_uses_19 : decode cX11_uses 19 = .ok (.aload_n 0, 1) := by decide +kernel
theorem dX11_uses_20 : decode cX11_uses 20 = .ok (.getfield 100, 3) := by decide +kernel
theorem dX11_uses_23 : decode cX11_uses 23 = .ok (.if_icmp .ge 77, 3) := by decide +kernel
theorem dX11_uses_26 : decode cX11_uses 26 = .ok (.aload_n 0, 1) := by decide +kernel
theorem dX11_uses_27 : decode cX11_uses 27 = .ok (.getfield 87, 3) := by decide +kernel
theorem dX11_uses_30 : decode cX11_uses 30 = .ok (.iload 4, 2) := by decide +kernel
theorem dX11_uses_32 : decode cX11_uses 32 = .ok (.lconst 0, 1) := by decide +kernel
theorem dX11_uses_33 : decode cX11_uses 33 = .ok (.lastore, 1) := by decide +kernel
theorem dX11_uses_34 : decode cX11_uses 34 = .ok (.bipush 16, 2) := by decide +kernel
theorem dX11_uses_36 : decode cX11_uses 36 = .ok (.iload 4, 2) := by decide +kernel
theorem dX11_uses_38 : decode cX11_uses 38 = .ok (.imul, 1) := by decide +kernel
theorem dX11_uses_39 : decode cX11_uses 39 = .ok (.istore 5, 2) := by decide +kernel
theorem dX11_uses_41 : decode cX11_uses 41 = .ok (.iload 5, 2) := by decide +kernel
theorem dX11_uses_43 : decode cX11_uses 43 = .ok (.bipush 16, 2) := by decide +kernel
theorem dX11_uses_45 : decode cX11_uses 45 = .ok (.iload 4, 2) := by decide +kernel
theorem dX11_uses_47 : decode cX11_uses 47 = .ok (.imul, 1) := by decide +kernel
theorem dX11_uses_48 : decode cX11_uses 48 = .ok (.aload_n 0, 1) := by decide +kernel
theorem dX11_uses_49 : decode cX11_uses 49 = .ok (.getfield 68, 3) := by decide +kernel
theorem dX11_uses_52 : decode cX11_uses 52 = .ok (.iload 4, 2) := by decide +kernel
theorem dX11_uses_54 : decode cX11_uses 54 = .ok (.iaload, 1) := by decide +kernel
theorem dX11_uses_55 : decode cX11_uses 55 = .ok (.iadd, 1) := by decide +kernel
theorem dX11_uses_56 : decode cX11_uses 56 = .ok (.if_icmp .ge 28, 3) := by decide +kernel
theorem dX11_uses_59 : decode cX11_uses 59 = .ok (.aload_n 0, 1) := by decide +kernel
theorem dX11_uses_60 : decode cX11_uses 60 = .ok (.getfield 87, 3) := by decide +kernel
theorem dX11_uses_63 : decode cX11_uses 63 = .ok (.iload 4, 2) := by decide +kernel
theorem dX11_uses_65 : decode cX11_uses 65 = .ok (.dup2, 1) := by decide +kernel
theorem dX11_uses_66 : decode cX11_uses 66 = .ok (.laload, 1) := by decide +kernel
theorem dX11_uses_67 : decode cX11_uses 67 = .ok (.lconst 1, 1) := by decide +kernel
theorem dX11_uses_68 : decode cX11_uses 68 = .ok (.aload_n 0, 1) := by decide +kernel
theorem dX11_uses_69 : decode cX11_uses 69 = .ok (.getfield 65, 3) := by decide +kernel
theorem dX11_uses_72 : decode cX11_uses 72 = .ok (.iload 5, 2) := by decide +kernel
theorem dX11_uses_74 : decode cX11_uses 74 = .ok (.iaload, 1) := by decide +kernel
theorem dX11_uses_75 : decode cX11_uses 75 = .ok (.lshl, 1) := by decide +kernel
theorem dX11_uses_76 : decode cX11_uses 76 = .ok (.lor, 1) := by decide +kernel
theorem dX11_uses_77 : decode cX11_uses 77 = .ok (.lastore, 1) := by decide +kernel
theorem dX11_uses_78 : decode cX11_uses 78 = .ok (.iinc 5 1, 3) := by decide +kernel
theorem dX11_uses_81 : decode cX11_uses 81 = .ok (.goto (-40), 3) := by decide +kernel
theorem dX11_uses_84 : decode cX11_uses 84 = .ok (.lload_n 2, 1) := by decide +kernel
theorem dX11_uses_85 : decode cX11_uses 85 = .ok (.aload_n 0, 1) := by decide +kernel
theorem dX11_uses_86 : decode cX11_uses 86 = .ok (.getfield 87, 3) := by decide +kernel
theorem dX11_uses_89 : decode cX11_uses 89 = .ok (.iload 4, 2) := by decide +kernel
theorem dX11_uses_91 : decode cX11_uses 91 = .ok (.laload, 1) := by decide +kernel
theorem dX11_uses_92 : decode cX11_uses 92 = .ok (.lor, 1) := by decide +kernel
theorem dX11_uses_93 : decode cX11_uses 93 = .ok (.lstore_n 2, 1) := by decide +kernel
theorem dX11_uses_94 : decode cX11_uses 94 = .ok (.iinc 4 1, 3) := by decide +kernel
theorem dX11_uses_97 : decode cX11_uses 97 = .ok (.goto (-80), 3) := by decide +kernel
theorem dX11_uses_100 : decode cX11_uses 100 = .ok (.iconst 0, 1) := by decide +kernel
theorem dX11_uses_101 : decode cX11_uses 101 = .ok (.istore 4, 2) := by decide +kernel
theorem dX11_uses_103 : decode cX11_uses 103 = .ok (.iconst 0, 1) := by decide +kernel
theorem dX11_uses_104 : decode cX11_uses 104 = .ok (.istore 5, 2) := by decide +kernel
theorem dX11_uses_106 : decode cX11_uses 106 = .ok (.iload 5, 2) := by decide +kernel
theorem dX11_uses_108 : decode cX11_uses 108 = .ok (.bipush 50, 2) := by decide +kernel
theorem dX11_uses_110 : decode cX11_uses 110 = .ok (.if_icmp .ge 32, 3) := by decide +kernel
theorem dX11_uses_113 : decode cX11_uses 113 = .ok (.lload_n 2, 1) := by decide +kernel
theorem dX11_uses_114 : decode cX11_uses 114 = .ok (.iload 5, 2) := by decide +kernel
theorem dX11_uses_116 : decode cX11_uses 116 = .ok (.lshr, 1) := by decide +kernel
theorem dX11_uses_117 : decode cX11_uses 117 = .ok (.lconst 1, 1) := by decide +kernel
theorem dX11_uses_118 : decode cX11_uses 118 = .ok (.land, 1) := by decide +kernel
theorem dX11_uses_119 : decode cX11_uses 119 = .ok (.lconst 1, 1) := by decide +kernel
theorem dX11_uses_120 : decode cX11_uses 120 = .ok (.lcmp, 1) := by decide +kernel
theorem dX11_uses_121 : decode cX11_uses 121 = .ok (.ifCond .ne 15, 3) := by decide +kernel
theorem dX11_uses_124 : decode cX11_uses 124 = .ok (.aload_n 0, 1) := by decide +kernel
theorem dX11_uses_125 : decode cX11_uses 125 = .ok (.getfield 81, 3) := by decide +kernel
theorem dX11_uses_128 : decode cX11_uses 128 = .ok (.iload 4, 2) := by decide +kernel
theorem dX11_uses_130 : decode cX11_uses 130 = .ok (.iload 5, 2) := by decide +kernel
theorem dX11_uses_132 : decode cX11_uses 132 = .ok (.iastore, 1) := by decide +kernel
theorem dX11_uses_133 : decode cX11_uses 133 = .ok (.iinc 4 1, 3) := by decide +kernel
theorem dX11_uses_136 : decode cX11_uses 136 = .ok (.iinc 5 1, 3) := by decide +kernel
theorem dX11_uses_139 : decode cX11_uses 139 = .ok (.goto (-33), 3) := by decide +kernel
theorem dX11_uses_142 : decode cX11_uses 142 = .ok (.iload 4, 2) := by decide +kernel
theorem dX11_uses_144 : decode cX11_uses 144 = .ok (.ireturn, 1) := by decide +kernel
theorem dX11_read_0 : decode cX11_read 0 = .ok (.iconst 0, 1) := by decide +kernel
theorem dX11_read_1 : decode cX11_read 1 = .ok (.istore_n 3, 1) := by decide +kernel
theorem dX11_read_2 : decode cX11_read 2 = .ok (.iconst 0, 1) := by decide +kernel
theorem dX11_read_3 : decode cX11_read 3 = .ok (.istore 4, 2) := by decide +kernel
theorem dX11_read_5 : decode cX11_read 5 = .ok (.iload 4, 2) := by decide +kernel
theorem dX11_read_7 : decode cX11_read 7 = .ok (.aload_n 0, 1) := by decide +kernel
theorem dX11_read_8 : decode cX11_read 8 = .ok (.getfield 100, 3) := by decide +kernel
theorem dX11_read_11 : decode cX11_read 11 = .ok (.if_icmp .ge 41, 3) := by decide +kernel
theorem dX11_read_14 : decode cX11_read 14 = .ok (.iload_n 3, 1) := by decide +kernel
theorem dX11_read_15 : decode cX11_read 15 = .ok (.aload_n 0, 1) := by decide +kernel
theorem dX11_read_16 : decode cX11_read 16 = .ok (.getfield 87, 3) := by decide +kernel
theorem dX11_read_19 : decode cX11_read 19 = .ok (.iload 4, 2) := by decide +kernel
theorem dX11_read_21 : decode cX11_read 21 = .ok (.laload, 1) := by decide +kernel
theorem dX11_read_22 : decode cX11_read 22 = .ok (.lload_n 1, 1) := by decide +kernel
theorem dX11_read_23 : decode cX11_read 23 = .ok (.ldc2_w 192, 3) := by decide +kernel
theorem dX11_read_26 : decode cX11_read 26 = .ok (.lxor, 1) := by decide +kernel
theorem dX11_read_27 : decode cX11_read 27 = .ok (.land, 1) := by decide +kernel
theorem dX11_read_28 : decode cX11_read 28 = .ok (.lconst 0, 1) := by decide +kernel
theorem dX11_read_29 : decode cX11_read 29 = .ok (.lcmp, 1) := by decide +kernel
theorem dX11_read_30 : decode cX11_read 30 = .ok (.ifCond .ne 13, 3) := by decide +kernel
theorem dX11_read_33 : decode cX11_read 33 = .ok (.aload_n 0, 1) := by decide +kernel
theorem dX11_read_34 : decode cX11_read 34 = .ok (.getfield 19, 3) := by decide +kernel
theorem dX11_read_37 : decode cX11_read 37 = .ok (.iload 4, 2) := by decide +kernel
theorem dX11_read_39 : decode cX11_read 39 = .ok (.iaload, 1) := by decide +kernel
theorem dX11_read_40 : decode cX11_read 40 = .ok (.goto 4, 3) := by decide +kernel
theorem dX11_read_43 : decode cX11_read 43 = .ok (.iconst 0, 1) := by decide +kernel
theorem dX11_read_44 : decode cX11_read 44 = .ok (.iadd, 1) := by decide +kernel
theorem dX11_read_45 : decode cX11_read 45 = .ok (.istore_n 3, 1) := by decide +kernel
theorem dX11_read_46 : decode cX11_read 46 = .ok (.iinc 4 1, 3) := by decide +kernel
theorem dX11_read_49 : decode cX11_read 49 = .ok (.goto (-44), 3) := by decide +kernel
theorem dX11_read_52 : decode cX11_read 52 = .ok (.iload_n 3, 1) := by decide +kernel
theorem dX11_read_53 : decode cX11_read 53 = .ok (.ireturn, 1) := by decide +kernel
theorem dX11_primes_0 : decode cX11_primes 0 = .ok (.aload_n 0, 1) := by decide +kernel
theorem dX11_primes_1 : decode cX11_primes 1 = .ok (.iload_n 1, 1) := by decide +kernel
theorem dX11_primes_2 : decode cX11_primes 2 = .ok (.invokevirtual 194, 3) := by decide +kernel
theorem dX11_primes_5 : decode cX11_primes 5 = .ok (.istore_n 2, 1) := by decide +kernel
theorem dX11_primes_6 : decode cX11_primes 6 = .ok (.lconst 0, 1) := by decide +kernel
theorem dX11_primes_7 : decode cX11_primes 7 = .ok (.lstore_n 3, 1) := by decide +kernel
theorem dX11_primes_8 : decode cX11_primes 8 = .ok (.iconst 0, 1) := by decide +kernel
theorem dX11_primes_9 : decode cX11_primes 9 = .ok (.istore 5, 2) := by decide +kernel
theorem dX11_primes_11 : decode cX11_primes 11 = .ok (.iconst 0, 1) := by decide +kernel
theorem dX11_primes_12 : decode cX11_primes 12 = .ok (.istore 6, 2) := by decide +kernel
theorem dX11_primes_14 : decode cX11_primes 14 = .ok (.iload 6, 2) := by decide +kernel
theorem dX11_primes_16 : decode cX11_primes 16 = .ok (.iload_n 2, 1) := by decide +kernel
theorem dX11_primes_17 : decode cX11_primes 17 = .ok (.if_icmp .ge 248, 3) := by decide +kernel
theorem dX11_primes_20 : decode cX11_primes 20 = .ok (.iconst (-1), 1) := by decide +kernel
theorem dX11_primes_21 : decode cX11_primes 21 = .ok (.istore 7, 2) := by decide +kernel
theorem dX11_primes_23 : decode cX11_primes 23 = .ok (.iconst 0, 1) := by decide +kernel
theorem dX11_primes_24 : decode cX11_primes 24 = .ok (.istore 8, 2) := by decide +kernel
theorem dX11_primes_26 : decode cX11_primes 26 = .ok (.iconst 0, 1) := by decide +kernel
theorem dX11_primes_27 : decode cX11_primes 27 = .ok (.istore 9, 2) := by decide +kernel
theorem dX11_primes_29 : decode cX11_primes 29 = .ok (.iconst 0, 1) := by decide +kernel
theorem dX11_primes_30 : decode cX11_primes 30 = .ok (.istore 10, 2) := by decide +kernel
theorem dX11_primes_32 : decode cX11_primes 32 = .ok (.iload 10, 2) := by decide +kernel
theorem dX11_primes_34 : decode cX11_primes 34 = .ok (.iload_n 2, 1) := by decide +kernel
theorem dX11_primes_35 : decode cX11_primes 35 = .ok (.if_icmp .ge 190, 3) := by decide +kernel
theorem dX11_primes_38 : decode cX11_primes 38 = .ok (.lconst 1, 1) := by decide +kernel
theorem dX11_primes_39 : decode cX11_primes 39 = .ok (.aload_n 0, 1) := by decide +kernel
theorem dX11_primes_40 : decode cX11_primes 40 = .ok (.getfield 81, 3) := by decide +kernel
theorem dX11_primes_43 : decode cX11_primes 43 = .ok (.iload 10, 2) := by decide +kernel
theorem dX11_primes_45 : decode cX11_primes 45 = .ok (.iaload, 1) := by decide +kernel
theorem dX11_primes_46 : decode cX11_primes 46 = .ok (.lshl, 1) := by decide +kernel
theorem dX11_primes_47 : decode cX11_primes 47 = .ok (.lstore 11, 2) := by decide +kernel
theorem dX11_primes_49 : decode cX11_primes 49 = .ok (.aload_n 0, 1) := by decide +kernel
theorem dX11_primes_50 : decode cX11_primes 50 = .ok (.lload_n 3, 1) := by decide +kernel
theorem dX11_primes_51 : decode cX11_primes 51 = .ok (.lload 11, 2) := by decide +kernel
theorem dX11_primes_53 : decode cX11_primes 53 = .ok (.lor, 1) := by decide +kernel
theorem dX11_primes_54 : decode cX11_primes 54 = .ok (.invokevirtual 197, 3) := by decide +kernel
theorem dX11_primes_57 : decode cX11_primes 57 = .ok (.istore 13, 2) := by decide +kernel
theorem dX11_primes_59 : decode cX11_primes 59 = .ok (.iconst 0, 1) := by decide +kernel
theorem dX11_primes_60 : decode cX11_primes 60 = .ok (.istore 14, 2) := by decide +kernel
theorem dX11_primes_62 : decode cX11_primes 62 = .ok (.iconst 0, 1) := by decide +kernel
theorem dX11_primes_63 : decode cX11_primes 63 = .ok (.istore 15, 2) := by decide +kernel
theorem dX11_primes_65 : decode cX11_primes 65 = .ok (.iload 15, 2) := by decide +kernel
theorem dX11_primes_67 : decode cX11_primes 67 = .ok (.aload_n 0, 1) := by decide +kernel
theorem dX11_primes_68 : decode cX11_primes 68 = .ok (.getfield 100, 3) := by decide +kernel
theorem dX11_primes_71 : decode cX11_primes 71 = .ok (.if_icmp .ge 58, 3) := by decide +kernel
theorem dX11_primes_74 : decode cX11_primes 74 = .ok (.iload 14, 2) := by decide +kernel
theorem dX11_primes_76 : decode cX11_primes 76 = .ok (.aload_n 0, 1) := by decide +kernel
theorem dX11_primes_77 : decode cX11_primes 77 = .ok (.getfield 87, 3) := by decide +kernel
theorem dX11_primes_80 : decode cX11_primes 80 = .ok (.iload 15, 2) := by decide +kernel
theorem dX11_primes_82 : decode cX11_primes 82 = .ok (.laload, 1) := by decide +kernel
theorem dX11_primes_83 : decode cX11_primes 83 = .ok (.lload 11, 2) := by decide +kernel
theorem dX11_primes_85 : decode cX11_primes 85 = .ok (.land, 1) := by decide +kernel
theorem dX11_primes_86 : decode cX11_primes 86 = .ok (.lconst 0, 1) := by decide +kernel
theorem dX11_primes_87 : decode cX11_primes 87 = .ok (.lcmp, 1) := by decide +kernel
theorem dX11_primes_88 : decode cX11_primes 88 = .ok (.ifCond .eq 31, 3) := by decide +kernel
theorem dX11_primes_91 : decode cX11_primes 91 = .ok (.aload_n 0, 1) := by decide +kernel
theorem dX11_primes_92 : decode cX11_primes 92 = .ok (.getfield 87, 3) := by decide +kernel
theorem dX11_primes_95 : decode cX11_primes 95 = .ok (.iload 15, 2) := by decide +kernel
theorem dX11_primes_97 : decode cX11_primes 97 = .ok (.laload, 1) := by decide +kernel
theorem dX11_primes_98 : decode cX11_primes 98 = .ok (.lload_n 3, 1) := by decide +kernel
theorem dX11_primes_99 : decode cX11_primes 99 = .ok (.ldc2_w 192, 3) := by decide +kernel
theorem dX11_primes_102 : decode cX11_primes 102 = .ok (.lxor, 1) := by decide +kernel
theorem dX11_primes_103 : decode cX11_primes 103 = .ok (.land, 1) := by decide +kernel
theorem dX11_primes_104 : decode cX11_primes 104 = .ok (.lconst 0, 1) := by decide +kernel
theorem dX11_primes_105 : decode cX11_primes 105 = .ok (.lcmp, 1) := by decide +kernel
theorem dX11_primes_106 : decode cX11_primes 106 = .ok (.ifCond .eq 13, 3) := by decide +kernel
theorem dX11_primes_109 : decode cX11_primes 109 = .ok (.aload_n 0, 1) := by decide +kernel
theorem dX11_primes_110 : decode cX11_primes 110 = .ok (.getfield 19, 3) := by decide +kernel
theorem dX11_primes_113 : decode cX11_primes 113 = .ok (.iload 15, 2) := by decide +kernel
theorem dX11_primes_115 : decode cX11_primes 115 = .ok (.iaload, 1) := by decide +kernel
theorem dX11_primes_116 : decode cX11_primes 116 = .ok (.goto 4, 3) := by decide +kernel
theorem dX11_primes_119 : decode cX11_primes 119 = .ok (.iconst 0, 1) := by decide +kernel
theorem dX11_primes_120 : decode cX11_primes 120 = .ok (.iadd, 1) := by decide +kernel
theorem dX11_primes_121 : decode cX11_primes 121 = .ok (.istore 14, 2) := by decide +kernel
theorem dX11_primes_123 : decode cX11_primes 123 = .ok (.iinc 15 1, 3) := by decide +kernel
theorem dX11_primes_126 : decode cX11_primes 126 = .ok (.goto (-61), 3) := by decide +kernel
theorem dX11_primes_129 : decode cX11_primes 129 = .ok (.lload_n 3, 1) := by decide +kernel
theorem dX11_primes_130 : decode cX11_primes 130 = .ok (.lload 11, 2) := by decide +kernel
theorem dX11_primes_132 : decode cX11_primes 132 = .ok (.land, 1) := by decide +kernel
theorem dX11_primes_133 : decode cX11_primes 133 = .ok (.lconst 0, 1) := by decide +kernel
theorem dX11_primes_134 : decode cX11_primes 134 = .ok (.lcmp, 1) := by decide +kernel
theorem dX11_primes_135 : decode cX11_primes 135 = .ok (.ifCond .ne 34, 3) := by decide +kernel
theorem dX11_primes_138 : decode cX11_primes 138 = .ok (.iload 7, 2) := by decide +kernel
theorem dX11_primes_140 : decode cX11_primes 140 = .ok (.iconst (-1), 1) := by decide +kernel
theorem dX11_primes_141 : decode cX11_primes 141 = .ok (.if_icmp .eq 24, 3) := by decide +kernel
theorem dX11_primes_144 : decode cX11_primes 144 = .ok (.iload 13, 2) := by decide +kernel
theorem dX11_primes_146 : decode cX11_primes 146 = .ok (.iload 8, 2) := by decide +kernel
theorem dX11_primes_148 : decode cX11_primes 148 = .ok (.if_icmp .gt 17, 3) := by decide +kernel
theorem dX11_primes_151 : decode cX11_primes 151 = .ok (.iload 13, 2) := by decide +kernel
theorem dX11_primes_153 : decode cX11_primes 153 = .ok (.iload 8, 2) := by decide +kernel
theorem dX11_primes_155 : decode cX11_primes 155 = .ok (.if_icmp .ne 14, 3) := by decide +kernel
theorem dX11_primes_158 : decode cX11_primes 158 = .ok (.iload 14, 2) := by decide +kernel
theorem dX11_primes_160 : decode cX11_primes 160 = .ok (.iload 9, 2) := by decide +kernel
theorem dX11_primes_162 : decode cX11_primes 162 = .ok (.if_icmp .le 7, 3) := by decide +kernel
theorem dX11_primes_165 : decode cX11_primes 165 = .ok (.iconst 1, 1) := by decide +kernel
theorem dX11_primes_166 : decode cX11_primes 166 = .ok (.goto 4, 3) := by decide +kernel
theorem dX11_primes_169 : decode cX11_primes 169 = .ok (.iconst 0, 1) := by decide +kernel
theorem dX11_primes_170 : decode cX11_primes 170 = .ok (.istore 15, 2) := by decide +kernel
theorem dX11_primes_172 : decode cX11_primes 172 = .ok (.iload 15, 2) := by decide +kernel
theorem dX11_primes_174 : decode cX11_primes 174 = .ok (.ifCond .eq 13, 3) := by decide +kernel
theorem dX11_primes_177 : decode cX11_primes 177 = .ok (.aload_n 0, 1) := by decide +kernel
theorem dX11_primes_178 : decode cX11_primes 178 = .ok (.getfield 81, 3) := by decide +kernel
theorem dX11_primes_181 : decode cX11_primes 181 = .ok (.iload 10, 2) := by decide +kernel
theorem dX11_primes_183 : decode cX11_primes 183 = .ok (.iaload, 1) := by decide +kernel
theorem dX11_primes_184 : decode cX11_primes 184 = .ok (.goto 5, 3) := by decide +kernel
theorem dX11_primes_187 : decode cX11_primes 187 = .ok (.iload 7, 2) := by decide +kernel
theorem dX11_primes_189 : decode cX11_primes 189 = .ok (.istore 7, 2) := by decide +kernel
theorem dX11_primes_191 : decode cX11_primes 191 = .ok (.iload 15, 2) := by decide +kernel
theorem dX11_primes_193 : decode cX11_primes 193 = .ok (.ifCond .eq 8, 3) := by decide +kernel
theorem dX11_primes_196 : decode cX11_primes 196 = .ok (.iload 13, 2) := by decide +kernel
theorem dX11_primes_198 : decode cX11_primes 198 = .ok (.goto 5, 3) := by decide +kernel
theorem dX11_primes_201 : decode cX11_primes 201 = .ok (.iload 8, 2) := by decide +kernel
theorem dX11_primes_203 : decode cX11_primes 203 = .ok (.istore 8, 2) := by decide +kernel
theorem dX11_primes_205 : decode cX11_primes 205 = .ok (.iload 15, 2) := by decide +kernel
theorem dX11_primes_207 : decode cX11_primes 207 = .ok (.ifCond .eq 8, 3) := by decide +kernel
theorem dX11_primes_210 : decode cX11_primes 210 = .ok (.iload 14, 2) := by decide +kernel
theorem dX11_primes_212 : decode cX11_primes 212 = .ok (.goto 5, 3) := by decide +kernel
theorem dX11_primes_215 : decode cX11_primes 215 = .ok (.iload 9, 2) := by decide +kernel
theorem dX11_primes_217 : decode cX11_primes 217 = .ok (.istore 9, 2) := by decide +kernel
theorem dX11_primes_219 : decode cX11_primes 219 = .ok (.iinc 10 1, 3) := by decide +kernel
theorem dX11_primes_222 : decode cX11_primes 222 = .ok (.goto (-190), 3) := by decide +kernel
theorem dX11_primes_225 : decode cX11_primes 225 = .ok (.iload 5, 2) := by decide +kernel
theorem dX11_primes_227 : decode cX11_primes 227 = .ok (.iload 6, 2) := by decide +kernel
theorem dX11_primes_229 : decode cX11_primes 229 = .ok (.iconst 1, 1) := by decide +kernel
theorem dX11_primes_230 : decode cX11_primes 230 = .ok (.iadd, 1) := by decide +kernel
theorem dX11_primes_231 : decode cX11_primes 231 = .ok (.iload 8, 2) := by decide +kernel
theorem dX11_primes_233 : decode cX11_primes 233 = .ok (.aload_n 0, 1) := by decide +kernel
theorem dX11_primes_234 : decode cX11_primes 234 = .ok (.lload_n 3, 1) := by decide +kernel
theorem dX11_primes_235 : decode cX11_primes 235 = .ok (.invokevirtual 197, 3) := by decide +kernel
theorem dX11_primes_238 : decode cX11_primes 238 = .ok (.isub, 1) := by decide +kernel
theorem dX11_primes_239 : decode cX11_primes 239 = .ok (.imul, 1) := by decide +kernel
theorem dX11_primes_240 : decode cX11_primes 240 = .ok (.iadd, 1) := by decide +kernel
theorem dX11_primes_241 : decode cX11_primes 241 = .ok (.istore 5, 2) := by decide +kernel
theorem dX11_primes_243 : decode cX11_primes 243 = .ok (.lload_n 3, 1) := by decide +kernel
theorem dX11_primes_244 : decode cX11_primes 244 = .ok (.lconst 1, 1) := by decide +kernel
theorem dX11_primes_245 : decode cX11_primes 245 = .ok (.iload 7, 2) := by decide +kernel
theorem dX11_primes_247 : decode cX11_primes 247 = .ok (.lshl, 1) := by decide +kernel
theorem dX11_primes_248 : decode cX11_primes 248 = .ok (.lor, 1) := by decide +kernel
theorem dX11_primes_249 : decode cX11_primes 249 = .ok (.lstore_n 3, 1) := by decide +kernel
theorem dX11_primes_250 : decode cX11_primes 250 = .ok (.aload_n 0, 1) := by decide +kernel
theorem dX11_primes_251 : decode cX11_primes 251 = .ok (.getfield 84, 3) := by decide +kernel
theorem dX11_primes_254 : decode cX11_primes 254 = .ok (.iload 6, 2) := by decide +kernel
theorem dX11_primes_256 : decode cX11_primes 256 = .ok (.iload 7, 2) := by decide +kernel
theorem dX11_primes_258 : decode cX11_primes 258 = .ok (.iastore, 1) := by decide +kernel
theorem dX11_primes_259 : decode cX11_primes 259 = .ok (.iinc 6 1, 3) := by decide +kernel
theorem dX11_primes_262 : decode cX11_primes 262 = .ok (.goto (-248), 3) := by decide +kernel
theorem dX11_primes_265 : decode cX11_primes 265 = .ok (.iload 5, 2) := by decide +kernel
theorem dX11_primes_267 : decode cX11_primes 267 = .ok (.ireturn, 1) := by decide +kernel
theorem dX11_primer_0 : decode cX11_primer 0 = .ok (.aload_n 0, 1) := by decide +kernel
theorem dX11_primer_1 : decode cX11_primer 1 = .ok (.aload_n 0, 1) := by decide +kernel
theorem dX11_primer_2 : decode cX11_primer 2 = .ok (.iload_n 1, 1) := by decide +kernel
theorem dX11_primer_3 : decode cX11_primer 3 = .ok (.invokevirtual 146, 3) := by decide +kernel
theorem dX11_primer_6 : decode cX11_primer 6 = .ok (.ifCond .eq 11, 3) := by decide +kernel
theorem dX11_primer_9 : decode cX11_primer 9 = .ok (.iload_n 2, 1) := by decide +kernel
theorem dX11_primer_10 : decode cX11_primer 10 = .ok (.ifCond .lt 7, 3) := by decide +kernel
theorem dX11_primer_13 : decode cX11_primer 13 = .ok (.iconst 0, 1) := by decide +kernel
theorem dX11_primer_14 : decode cX11_primer 14 = .ok (.goto 4, 3) := by decide +kernel
theorem dX11_primer_17 : decode cX11_primer 17 = .ok (.iconst 1, 1) := by decide +kernel
theorem dX11_primer_18 : decode cX11_primer 18 = .ok (.invokevirtual 113, 3) := by decide +kernel
theorem dX11_primer_21 : decode cX11_primer 21 = .ok (.ifCond .eq 5, 3) := by decide +kernel
theorem dX11_primer_24 : decode cX11_primer 24 = .ok (.iconst 0, 1) := by decide +kernel
theorem dX11_primer_25 : decode cX11_primer 25 = .ok (.ireturn, 1) := by decide +kernel
theorem dX11_primer_26 : decode cX11_primer 26 = .ok (.aload_n 0, 1) := by decide +kernel
theorem dX11_primer_27 : decode cX11_primer 27 = .ok (.iload_n 1, 1) := by decide +kernel
theorem dX11_primer_28 : decode cX11_primer 28 = .ok (.invokevirtual 201, 3) := by decide +kernel
theorem dX11_primer_31 : decode cX11_primer 31 = .ok (.istore_n 3, 1) := by decide +kernel
theorem dX11_primer_32 : decode cX11_primer 32 = .ok (.iload_n 2, 1) := by decide +kernel
theorem dX11_primer_33 : decode cX11_primer 33 = .ok (.aload_n 0, 1) := by decide +kernel
theorem dX11_primer_34 : decode cX11_primer 34 = .ok (.iload_n 1, 1) := by decide +kernel
theorem dX11_primer_35 : decode cX11_primer 35 = .ok (.invokevirtual 194, 3) := by decide +kernel
theorem dX11_primer_38 : decode cX11_primer 38 = .ok (.if_icmp .ge 12, 3) := by decide +kernel
theorem dX11_primer_41 : decode cX11_primer 41 = .ok (.aload_n 0, 1) := by decide +kernel
theorem dX11_primer_42 : decode cX11_primer 42 = .ok (.getfield 84, 3) := by decide +kernel
theorem dX11_primer_45 : decode cX11_primer 45 = .ok (.iload_n 2, 1) := by decide +kernel
theorem dX11_primer_46 : decode cX11_primer 46 = .ok (.iaload, 1) := by decide +kernel
theorem dX11_primer_47 : decode cX11_primer 47 = .ok (.goto 4, 3) := by decide +kernel
theorem dX11_primer_50 : decode cX11_primer 50 = .ok (.iconst (-1), 1) := by decide +kernel
theorem dX11_primer_51 : decode cX11_primer 51 = .ok (.ireturn, 1) := by decide +kernel
theorem dX11_cost_0 : decode cX11_cost 0 = .ok (.aload_n 0, 1) := by decide +kernel
theorem dX11_cost_1 : decode cX11_cost 1 = .ok (.aload_n 0, 1) := by decide +kernel
theorem dX11_cost_2 : decode cX11_cost 2 = .ok (.iload_n 1, 1) := by decide +kernel
theorem dX11_cost_3 : decode cX11_cost 3 = .ok (.invokevirtual 146, 3) := by decide +kernel
theorem dX11_cost_6 : decode cX11_cost 6 = .ok (.ifCond .eq 7, 3) := by decide +kernel
theorem dX11_cost_9 : decode cX11_cost 9 = .ok (.iconst 0, 1) := by decide +kernel
theorem dX11_cost_10 : decode cX11_cost 10 = .ok (.goto 4, 3) := by decide +kernel
theorem dX11_cost_13 : decode cX11_cost 13 = .ok (.iconst 1, 1) := by decide +kernel
theorem dX11_cost_14 : decode cX11_cost 14 = .ok (.invokevirtual 113, 3) := by decide +kernel
theorem dX11_cost_17 : decode cX11_cost 17 = .ok (.ifCond .eq 7, 3) := by decide +kernel
theorem dX11_cost_20 : decode cX11_cost 20 = .ok (.iconst 0, 1) := by decide +kernel
theorem dX11_cost_21 : decode cX11_cost 21 = .ok (.goto 8, 3) := by decide +kernel
theorem dX11_cost_24 : decode cX11_cost 24 = .ok (.aload_n 0, 1) := by decide +kernel
theorem dX11_cost_25 : decode cX11_cost 25 = .ok (.iload_n 1, 1) := by decide +kernel
theorem dX11_cost_26 : decode cX11_cost 26 = .ok (.invokevirtual 201, 3) := by decide +kernel
theorem dX11_cost_29 : decode cX11_cost 29 = .ok (.ireturn, 1) := by decide +kernel
theorem dX11_leastCost_0 : decode cX11_leastCost 0 = .ok (.aload_n 0, 1) := by decide +kernel
theorem dX11_leastCost_1 : decode cX11_leastCost 1 = .ok (.iload_n 1, 1) := by decide +kernel
theorem dX11_leastCost_2 : decode cX11_leastCost 2 = .ok (.invokevirtual 146, 3) := by decide +kernel
theorem dX11_leastCost_5 : decode cX11_leastCost 5 = .ok (.ifCond .eq 11, 3) := by decide +kernel
theorem dX11_leastCost_8 : decode cX11_leastCost 8 = .ok (.aload_n 0, 1) := by decide +kernel
theorem dX11_leastCost_9 : decode cX11_leastCost 9 = .ok (.iload_n 1, 1) := by decide +kernel
theorem dX11_leastCost_10 : decode cX11_leastCost 10 = .ok (.invokevirtual 194, 3) := by decide +kernel
theorem dX11_leastCost_13 : decode cX11_leastCost 13 = .ok (.goto 4, 3) := by decide +kernel
theorem dX11_leastCost_16 : decode cX11_leastCost 16 = .ok (.iconst 0, 1) := by decide +kernel
theorem dX11_leastCost_17 : decode cX11_leastCost 17 = .ok (.istore_n 2, 1) := by decide +kernel
theorem dX11_leastCost_18 : decode cX11_leastCost 18 = .ok (.aload_n 0, 1) := by decide +kernel
theorem dX11_leastCost_19 : decode cX11_leastCost 19 = .ok (.aload_n 0, 1) := by decide +kernel
theorem dX11_leastCost_20 : decode cX11_leastCost 20 = .ok (.iload_n 1, 1) := by decide +kernel
theorem dX11_leastCost_21 : decode cX11_leastCost 21 = .ok (.invokevirtual 146, 3) := by decide +kernel
theorem dX11_leastCost_24 : decode cX11_leastCost 24 = .ok (.ifCond .ne 7, 3) := by decide +kernel
theorem dX11_leastCost_27 : decode cX11_leastCost 27 = .ok (.iconst 1, 1) := by decide +kernel
theorem dX11_leastCost_28 : decode cX11_leastCost 28 = .ok (.goto 14, 3) := by decide +kernel
theorem dX11_leastCost_31 : decode cX11_leastCost 31 = .ok (.iload_n 2, 1) := by decide +kernel
theorem dX11_leastCost_32 : decode cX11_leastCost 32 = .ok (.bipush 10, 2) := by decide +kernel
theorem dX11_leastCost_34 : decode cX11_leastCost 34 = .ok (.if_icmp .le 7, 3) := by decide +kernel
theorem dX11_leastCost_37 : decode cX11_leastCost 37 = .ok (.iconst 2, 1) := by decide +kernel
theorem dX11_leastCost_38 : decode cX11_leastCost 38 = .ok (.goto 4, 3) := by decide +kernel
theorem dX11_leastCost_41 : decode cX11_leastCost 41 = .ok (.iconst 0, 1) := by decide +kernel
theorem dX11_leastCost_42 : decode cX11_leastCost 42 = .ok (.invokevirtual 113, 3) := by decide +kernel
theorem dX11_leastCost_45 : decode cX11_leastCost 45 = .ok (.ifCond .eq 5, 3) := by decide +kernel
theorem dX11_leastCost_48 : decode cX11_leastCost 48 = .ok (.iconst 0, 1) := by decide +kernel
theorem dX11_leastCost_49 : decode cX11_leastCost 49 = .ok (.ireturn, 1) := by decide +kernel
theorem dX11_leastCost_50 : decode cX11_leastCost 50 = .ok (.iconst 0, 1) := by decide +kernel
theorem dX11_leastCost_51 : decode cX11_leastCost 51 = .ok (.istore_n 3, 1) := by decide +kernel
theorem dX11_leastCost_52 : decode cX11_leastCost 52 = .ok (.iload_n 3, 1) := by decide +kernel
theorem dX11_leastCost_53 : decode cX11_leastCost 53 = .ok (.iconst 1, 1) := by decide +kernel
theorem dX11_leastCost_54 : decode cX11_leastCost 54 = .ok (.iload_n 2, 1) := by decide +kernel
theorem dX11_leastCost_55 : decode cX11_leastCost 55 = .ok (.ishl, 1) := by decide +kernel
theorem dX11_leastCost_56 : decode cX11_leastCost 56 = .ok (.if_icmp .ge 197, 3) := by decide +kernel
theorem dX11_leastCost_59 : decode cX11_leastCost 59 = .ok (.lconst 0, 1) := by decide +kernel
theorem dX11_leastCost_60 : decode cX11_leastCost 60 = .ok (.lstore 4, 2) := by decide +kernel
theorem dX11_leastCost_62 : decode cX11_leastCost 62 = .ok (.iconst 0, 1) := by decide +kernel
theorem dX11_leastCost_63 : decode cX11_leastCost 63 = .ok (.istore 6, 2) := by decide +kernel
theorem dX11_leastCost_65 : decode cX11_leastCost 65 = .ok (.iconst 0, 1) := by decide +kernel
theorem dX11_leastCost_66 : decode cX11_leastCost 66 = .ok (.istore 7, 2) := by decide +kernel
theorem dX11_leastCost_68 : decode cX11_leastCost 68 = .ok (.iload 7, 2) := by decide +kernel
theorem dX11_leastCost_70 : decode cX11_leastCost 70 = .ok (.iload_n 2, 1) := by decide +kernel
theorem dX11_leastCost_71 : decode cX11_leastCost 71 = .ok (.if_icmp .ge 48, 3) := by decide +kernel
theorem dX11_leastCost_74 : decode cX11_leastCost 74 = .ok (.lload 4, 2) := by decide +kernel
theorem dX11_leastCost_76 : decode cX11_leastCost 76 = .ok (.iload_n 3, 1) := by decide +kernel
theorem dX11_leastCost_77 : decode cX11_leastCost 77 = .ok (.iload 7, 2) := by decide +kernel
theorem dX11_leastCost_79 : decode cX11_leastCost 79 = .ok (.ishr, 1) := by decide +kernel
theorem dX11_leastCost_80 : decode cX11_leastCost 80 = .ok (.iconst 1, 1) := by decide +kernel
theorem dX11_leastCost_81 : decode cX11_leastCost 81 = .ok (.iand, 1) := by decide +kernel
theorem dX11_leastCost_82 : decode cX11_leastCost 82 = .ok (.iconst 1, 1) := by decide +kernel
theorem dX11_leastCost_83 : decode cX11_leastCost 83 = .ok (.if_icmp .ne 15, 3) := by decide +kernel
theorem dX11_leastCost_86 : decode cX11_leastCost 86 = .ok (.lconst 1, 1) := by decide +kernel
theorem dX11_leastCost_87 : decode cX11_leastCost 87 = .ok (.aload_n 0, 1) := by decide +kernel
theorem dX11_leastCost_88 : decode cX11_leastCost 88 = .ok (.getfield 81, 3) := by decide +kernel
theorem dX11_leastCost_91 : decode cX11_leastCost 91 = .ok (.iload 7, 2) := by decide +kernel
theorem dX11_leastCost_93 : decode cX11_leastCost 93 = .ok (.iaload, 1) := by decide +kernel
theorem dX11_leastCost_94 : decode cX11_leastCost 94 = .ok (.lshl, 1) := by decide +kernel
theorem dX11_leastCost_95 : decode cX11_leastCost 95 = .ok (.goto 4, 3) := by decide +kernel
theorem dX11_leastCost_98 : decode cX11_leastCost 98 = .ok (.lconst 0, 1) := by decide +kernel
theorem dX11_leastCost_99 : decode cX11_leastCost 99 = .ok (.lor, 1) := by decide +kernel
theorem dX11_leastCost_100 : decode cX11_leastCost 100 = .ok (.lstore 4, 2) := by decide +kernel
theorem dX11_leastCost_102 : decode cX11_leastCost 102 = .ok (.iload 6, 2) := by decide +kernel
theorem dX11_leastCost_104 : decode cX11_leastCost 104 = .ok (.iload_n 3, 1) := by decide +kernel
theorem dX11_leastCost_105 : decode cX11_leastCost 105 = .ok (.iload 7, 2) := by decide +kernel
theorem dX11_leastCost_107 : decode cX11_leastCost 107 = .ok (.ishr, 1) := by decide +kernel
theorem dX11_leastCost_108 : decode cX11_leastCost 108 = .ok (.iconst 1, 1) := by decide +kernel
theorem dX11_leastCost_109 : decode cX11_leastCost 109 = .ok (.iand, 1) := by decide +kernel
theorem dX11_leastCost_110 : decode cX11_leastCost 110 = .ok (.iadd, 1) := by decide +kernel
theorem dX11_leastCost_111 : decode cX11_leastCost 111 = .ok (.istore 6, 2) := by decide +kernel
theorem dX11_leastCost_113 : decode cX11_leastCost 113 = .ok (.iinc 7 1, 3) := by decide +kernel
theorem dX11_leastCost_116 : decode cX11_leastCost 116 = .ok (.goto (-48), 3) := by decide +kernel
theorem dX11_leastCost_119 : decode cX11_leastCost 119 = .ok (.aload_n 0, 1) := by decide +kernel
theorem dX11_leastCost_120 : decode cX11_leastCost 120 = .ok (.lload 4, 2) := by decide +kernel
theorem dX11_leastCost_122 : decode cX11_leastCost 122 = .ok (.invokevirtual 197, 3) := by decide +kernel
theorem dX11_leastCost_125 : decode cX11_leastCost 125 = .ok (.istore 7, 2) := by decide +kernel
theorem dX11_leastCost_127 : decode cX11_leastCost 127 = .ok (.aload_n 0, 1) := by decide +kernel
theorem dX11_leastCost_128 : decode cX11_leastCost 128 = .ok (.getfield 90, 3) := by decide +kernel
theorem dX11_leastCost_131 : decode cX11_leastCost 131 = .ok (.iload_n 3, 1) := by decide +kernel
theorem dX11_leastCost_132 : decode cX11_leastCost 132 = .ok (.iload_n 3, 1) := by decide +kernel
theorem dX11_leastCost_133 : decode cX11_leastCost 133 = .ok (.ifCond .ne 7, 3) := by decide +kernel
theorem dX11_leastCost_136 : decode cX11_leastCost 136 = .ok (.iconst 0, 1) := by decide +kernel
theorem dX11_leastCost_137 : decode cX11_leastCost 137 = .ok (.goto 4, 3) := by decide +kernel
theorem dX11_leastCost_140 : decode cX11_leastCost 140 = .ok (.iconst (-1), 1) := by decide +kernel
theorem dX11_leastCost_141 : decode cX11_leastCost 141 = .ok (.iastore, 1) := by decide +kernel
theorem dX11_leastCost_142 : decode cX11_leastCost 142 = .ok (.iconst 0, 1) := by decide +kernel
theorem dX11_leastCost_143 : decode cX11_leastCost 143 = .ok (.istore 8, 2) := by decide +kernel
theorem dX11_leastCost_145 : decode cX11_leastCost 145 = .ok (.iload 8, 2) := by decide +kernel
theorem dX11_leastCost_147 : decode cX11_leastCost 147 = .ok (.iload_n 2, 1) := by decide +kernel
theorem dX11_leastCost_148 : decode cX11_leastCost 148 = .ok (.if_icmp .ge 99, 3) := by decide +kernel
theorem dX11_leastCost_151 : decode cX11_leastCost 151 = .ok (.iload_n 3, 1) := by decide +kernel
theorem dX11_leastCost_152 : decode cX11_leastCost 152 = .ok (.iload 8, 2) := by decide +kernel
theorem dX11_leastCost_154 : decode cX11_leastCost 154 = .ok (.ishr, 1) := by decide +kernel
theorem dX11_leastCost_155 : decode cX11_leastCost 155 = .ok (.iconst 1, 1) := by decide +kernel
theorem dX11_leastCost_156 : decode cX11_leastCost 156 = .ok (.iand, 1) := by decide +kernel
theorem dX11_leastCost_157 : decode cX11_leastCost 157 = .ok (.iconst 1, 1) := by decide +kernel
theorem dX11_leastCost_158 : decode cX11_leastCost 158 = .ok (.if_icmp .ne 83, 3) := by decide +kernel
theorem dX11_leastCost_161 : decode cX11_leastCost 161 = .ok (.aload_n 0, 1) := by decide +kernel
theorem dX11_leastCost_162 : decode cX11_leastCost 162 = .ok (.getfield 90, 3) := by decide +kernel
theorem dX11_leastCost_165 : decode cX11_leastCost 165 = .ok (.iload_n 3, 1) := by decide +kernel
theorem dX11_leastCost_166 : decode cX11_leastCost 166 = .ok (.iconst 1, 1) := by decide +kernel
theorem dX11_leastCost_167 : decode cX11_leastCost 167 = .ok (.iload 8, 2) := by decide +kernel
theorem dX11_leastCost_169 : decode cX11_leastCost 169 = .ok (.ishl, 1) := by decide +kernel
theorem dX11_leastCost_170 : decode cX11_leastCost 170 = .ok (.iconst (-1), 1) := by decide +kernel
theorem dX11_leastCost_171 : decode cX11_leastCost 171 = .ok (.ixor, 1) := by decide +kernel
theorem dX11_leastCost_172 : decode cX11_leastCost 172 = .ok (.iand, 1) := by decide +kernel
theorem dX11_leastCost_173 : decode cX11_leastCost 173 = .ok (.iaload, 1) := by decide +kernel
theorem dX11_leastCost_174 : decode cX11_leastCost 174 = .ok (.iload 6, 2) := by decide +kernel
theorem dX11_leastCost_176 : decode cX11_leastCost 176 = .ok (.iload 7, 2) := by decide +kernel
theorem dX11_leastCost_178 : decode cX11_leastCost 178 = .ok (.aload_n 0, 1) := by decide +kernel
theorem dX11_leastCost_179 : decode cX11_leastCost 179 = .ok (.lload 4, 2) := by decide +kernel
theorem dX11_leastCost_181 : decode cX11_leastCost 181 = .ok (.lconst 1, 1) := by decide +kernel
theorem dX11_leastCost_182 : decode cX11_leastCost 182 = .ok (.aload_n 0, 1) := by decide +kernel
theorem dX11_leastCost_183 : decode cX11_leastCost 183 = .ok (.getfield 81, 3) := by decide +kernel
theorem dX11_leastCost_186 : decode cX11_leastCost 186 = .ok (.iload 8, 2) := by decide +kernel
theorem dX11_leastCost_188 : decode cX11_leastCost 188 = .ok (.iaload, 1) := by decide +kernel
theorem dX11_leastCost_189 : decode cX11_leastCost 189 = .ok (.lshl, 1) := by decide +kernel
theorem dX11_leastCost_190 : decode cX11_leastCost 190 = .ok (.ldc2_w 192, 3) := by decide +kernel
theorem dX11_leastCost_193 : decode cX11_leastCost 193 = .ok (.lxor, 1) := by decide +kernel
theorem dX11_leastCost_194 : decode cX11_leastCost 194 = .ok (.land, 1) := by decide +kernel
theorem dX11_leastCost_195 : decode cX11_leastCost 195 = .ok (.invokevirtual 197, 3) := by decide +kernel
theorem dX11_leastCost_198 : decode cX11_leastCost 198 = .ok (.isub, 1) := by decide +kernel
theorem dX11_leastCost_199 : decode cX11_leastCost 199 = .ok (.imul, 1) := by decide +kernel
theorem dX11_leastCost_200 : decode cX11_leastCost 200 = .ok (.iadd, 1) := by decide +kernel
theorem dX11_leastCost_201 : decode cX11_leastCost 201 = .ok (.istore 9, 2) := by decide +kernel
theorem dX11_leastCost_203 : decode cX11_leastCost 203 = .ok (.aload_n 0, 1) := by decide +kernel
theorem dX11_leastCost_204 : decode cX11_leastCost 204 = .ok (.getfield 90, 3) := by decide +kernel
theorem dX11_leastCost_207 : decode cX11_leastCost 207 = .ok (.iload_n 3, 1) := by decide +kernel
theorem dX11_leastCost_208 : decode cX11_leastCost 208 = .ok (.aload_n 0, 1) := by decide +kernel
theorem dX11_leastCost_209 : decode cX11_leastCost 209 = .ok (.getfield 90, 3) := by decide +kernel
theorem dX11_leastCost_212 : decode cX11_leastCost 212 = .ok (.iload_n 3, 1) := by decide +kernel
theorem dX11_leastCost_213 : decode cX11_leastCost 213 = .ok (.iaload, 1) := by decide +kernel
theorem dX11_leastCost_214 : decode cX11_leastCost 214 = .ok (.iconst (-1), 1) := by decide +kernel
theorem dX11_leastCost_215 : decode cX11_leastCost 215 = .ok (.if_icmp .eq 14, 3) := by decide +kernel
theorem dX11_leastCost_218 : decode cX11_leastCost 218 = .ok (.iload 9, 2) := by decide +kernel
theorem dX11_leastCost_220 : decode cX11_leastCost 220 = .ok (.aload_n 0, 1) := by decide +kernel
theorem dX11_leastCost_221 : decode cX11_leastCost 221 = .ok (.getfield 90, 3) := by decide +kernel
theorem dX11_leastCost_224 : decode cX11_leastCost 224 = .ok (.iload_n 3, 1) := by decide +kernel
theorem dX11_leastCost_225 : decode cX11_leastCost 225 = .ok (.iaload, 1) := by decide +kernel
theorem dX11_leastCost_226 : decode cX11_leastCost 226 = .ok (.if_icmp .ge 8, 3) := by decide +kernel
theorem dX11_leastCost_229 : decode cX11_leastCost 229 = .ok (.iload 9, 2) := by decide +kernel
theorem dX11_leastCost_231 : decode cX11_leastCost 231 = .ok (.goto 9, 3) := by decide +kernel
theorem dX11_leastCost_234 : decode cX11_leastCost 234 = .ok (.aload_n 0, 1) := by decide +kernel
theorem dX11_leastCost_235 : decode cX11_leastCost 235 = .ok (.getfield 90, 3) := by decide +kernel
theorem dX11_leastCost_238 : decode cX11_leastCost 238 = .ok (.iload_n 3, 1) := by decide +kernel
theorem dX11_leastCost_239 : decode cX11_leastCost 239 = .ok (.iaload, 1) := by decide +kernel
theorem dX11_leastCost_240 : decode cX11_leastCost 240 = .ok (.iastore, 1) := by decide +kernel
theorem dX11_leastCost_241 : decode cX11_leastCost 241 = .ok (.iinc 8 1, 3) := by decide +kernel
theorem dX11_leastCost_244 : decode cX11_leastCost 244 = .ok (.goto (-99), 3) := by decide +kernel
theorem dX11_leastCost_247 : decode cX11_leastCost 247 = .ok (.iinc 3 1, 3) := by decide +kernel
theorem dX11_leastCost_250 : decode cX11_leastCost 250 = .ok (.goto (-198), 3) := by decide +kernel
theorem dX11_leastCost_253 : decode cX11_leastCost 253 = .ok (.aload_n 0, 1) := by decide +kernel
theorem dX11_leastCost_254 : decode cX11_leastCost 254 = .ok (.getfield 90, 3) := by decide +kernel
theorem dX11_leastCost_257 : decode cX11_leastCost 257 = .ok (.iconst 1, 1) := by decide +kernel
theorem dX11_leastCost_258 : decode cX11_leastCost 258 = .ok (.iload_n 2, 1) := by decide +kernel
theorem dX11_leastCost_259 : decode cX11_leastCost 259 = .ok (.ishl, 1) := by decide +kernel
theorem dX11_leastCost_260 : decode cX11_leastCost 260 = .ok (.iconst 1, 1) := by decide +kernel
theorem dX11_leastCost_261 : decode cX11_leastCost 261 = .ok (.isub, 1) := by decide +kernel
theorem dX11_leastCost_262 : decode cX11_leastCost 262 = .ok (.iaload, 1) := by decide +kernel
theorem dX11_leastCost_263 : decode cX11_leastCost 263 = .ok (.ireturn, 1) := by decide +kernel
theorem dX11_key_0 : decode cX11_key 0 = .ok (.aload_n 0, 1) := by decide +kernel
theorem dX11_key_1 : decode cX11_key 1 = .ok (.aload_n 0, 1) := by decide +kernel
theorem dX11_key_2 : decode cX11_key 2 = .ok (.iload_n 1, 1) := by decide +kernel
theorem dX11_key_3 : decode cX11_key 3 = .ok (.invokevirtual 146, 3) := by decide +kernel
theorem dX11_key_6 : decode cX11_key 6 = .ok (.ifCond .eq 21, 3) := by decide +kernel
theorem dX11_key_9 : decode cX11_key 9 = .ok (.iload_n 2, 1) := by decide +kernel
theorem dX11_key_10 : decode cX11_key 10 = .ok (.invokestatic 149, 3) := by decide +kernel
theorem dX11_key_13 : decode cX11_key 13 = .ok (.ifCond .eq 14, 3) := by decide +kernel
theorem dX11_key_16 : decode cX11_key 16 = .ok (.iload_n 3, 1) := by decide +kernel
theorem dX11_key_17 : decode cX11_key 17 = .ok (.invokestatic 149, 3) := by decide +kernel
theorem dX11_key_20 : decode cX11_key 20 = .ok (.ifCond .eq 7, 3) := by decide +kernel
theorem dX11_key_23 : decode cX11_key 23 = .ok (.iconst 0, 1) := by decide +kernel
theorem dX11_key_24 : decode cX11_key 24 = .ok (.goto 4, 3) := by decide +kernel
theorem dX11_key_27 : decode cX11_key 27 = .ok (.iconst 1, 1) := by decide +kernel
theorem dX11_key_28 : decode cX11_key 28 = .ok (.invokevirtual 113, 3) := by decide +kernel
theorem dX11_key_31 : decode cX11_key 31 = .ok (.ifCond .eq 5, 3) := by decide +kernel
theorem dX11_key_34 : decode cX11_key 34 = .ok (.iconst 0, 1) := by decide +kernel
theorem dX11_key_35 : decode cX11_key 35 = .ok (.ireturn, 1) := by decide +kernel
theorem dX11_key_36 : decode cX11_key 36 = .ok (.aload_n 0, 1) := by decide +kernel
theorem dX11_key_37 : decode cX11_key 37 = .ok (.getfield 50, 3) := by decide +kernel
theorem dX11_key_40 : decode cX11_key 40 = .ok (.bipush 50, 2) := by decide +kernel
theorem dX11_key_42 : decode cX11_key 42 = .ok (.iload_n 1, 1) := by decide +kernel
theorem dX11_key_43 : decode cX11_key 43 = .ok (.imul, 1) := by decide +kernel
theorem dX11_key_44 : decode cX11_key 44 = .ok (.iload_n 2, 1) := by decide +kernel
theorem dX11_key_45 : decode cX11_key 45 = .ok (.iadd, 1) := by decide +kernel
theorem dX11_key_46 : decode cX11_key 46 = .ok (.iaload, 1) := by decide +kernel
theorem dX11_key_47 : decode cX11_key 47 = .ok (.istore 4, 2) := by decide +kernel
theorem dX11_key_49 : decode cX11_key 49 = .ok (.bipush 50, 2) := by decide +kernel
theorem dX11_key_51 : decode cX11_key 51 = .ok (.iload_n 1, 1) := by decide +kernel
theorem dX11_key_52 : decode cX11_key 52 = .ok (.imul, 1) := by decide +kernel
theorem dX11_key_53 : decode cX11_key 53 = .ok (.istore 5, 2) := by decide +kernel
theorem dX11_key_55 : decode cX11_key 55 = .ok (.iload 5, 2) := by decide +kernel
theorem dX11_key_57 : decode cX11_key 57 = .ok (.bipush 50, 2) := by decide +kernel
theorem dX11_key_59 : decode cX11_key 59 = .ok (.iload_n 1, 1) := by decide +kernel
theorem dX11_key_60 : decode cX11_key 60 = .ok (.imul, 1) := by decide +kernel
theorem dX11_key_61 : decode cX11_key 61 = .ok (.bipush 50, 2) := by decide +kernel
theorem dX11_key_63 : decode cX11_key 63 = .ok (.iadd, 1) := by decide +kernel
theorem dX11_key_64 : decode cX11_key 64 = .ok (.if_icmp .ge 39, 3) := by decide +kernel
theorem dX11_key_67 : decode cX11_key 67 = .ok (.aload_n 0, 1) := by decide +kernel
theorem dX11_key_68 : decode cX11_key 68 = .ok (.getfield 50, 3) := by decide +kernel
theorem dX11_key_71 : decode cX11_key 71 = .ok (.iload 5, 2) := by decide +kernel
theorem dX11_key_73 : decode cX11_key 73 = .ok (.aload_n 0, 1) := by decide +kernel
theorem dX11_key_74 : decode cX11_key 74 = .ok (.getfield 50, 3) := by decide +kernel
theorem dX11_key_77 : decode cX11_key 77 = .ok (.iload 5, 2) := by decide +kernel
theorem dX11_key_79 : decode cX11_key 79 = .ok (.iaload, 1) := by decide +kernel
theorem dX11_key_80 : decode cX11_key 80 = .ok (.iload_n 3, 1) := by decide +kernel
theorem dX11_key_81 : decode cX11_key 81 = .ok (.if_icmp .ne 8, 3) := by decide +kernel
theorem dX11_key_84 : decode cX11_key 84 = .ok (.iload 4, 2) := by decide +kernel
theorem dX11_key_86 : decode cX11_key 86 = .ok (.goto 10, 3) := by decide +kernel
theorem dX11_key_89 : decode cX11_key 89 = .ok (.aload_n 0, 1) := by decide +kernel
theorem dX11_key_90 : decode cX11_key 90 = .ok (.getfield 50, 3) := by decide +kernel
theorem dX11_key_93 : decode cX11_key 93 = .ok (.iload 5, 2) := by decide +kernel
theorem dX11_key_95 : decode cX11_key 95 = .ok (.iaload, 1) := by decide +kernel
theorem dX11_key_96 : decode cX11_key 96 = .ok (.iastore, 1) := by decide +kernel
theorem dX11_key_97 : decode cX11_key 97 = .ok (.iinc 5 1, 3) := by decide +kernel
theorem dX11_key_100 : decode cX11_key 100 = .ok (.goto (-45), 3) := by decide +kernel
theorem dX11_key_103 : decode cX11_key 103 = .ok (.aload_n 0, 1) := by decide +kernel
theorem dX11_key_104 : decode cX11_key 104 = .ok (.getfield 50, 3) := by decide +kernel
theorem dX11_key_107 : decode cX11_key 107 = .ok (.bipush 50, 2) := by decide +kernel
theorem dX11_key_109 : decode cX11_key 109 = .ok (.iload_n 1, 1) := by decide +kernel
theorem dX11_key_110 : decode cX11_key 110 = .ok (.imul, 1) := by decide +kernel
theorem dX11_key_111 : decode cX11_key 111 = .ok (.iload_n 2, 1) := by decide +kernel
theorem dX11_key_112 : decode cX11_key 112 = .ok (.iadd, 1) := by decide +kernel
theorem dX11_key_113 : decode cX11_key 113 = .ok (.iload_n 3, 1) := by decide +kernel
theorem dX11_key_114 : decode cX11_key 114 = .ok (.iastore, 1) := by decide +kernel
theorem dX11_key_115 : decode cX11_key 115 = .ok (.iload 4, 2) := by decide +kernel
theorem dX11_key_117 : decode cX11_key 117 = .ok (.ireturn, 1) := by decide +kernel
theorem dX11_travels_0 : decode cX11_travels 0 = .ok (.iconst 0, 1) := by decide +kernel
theorem dX11_travels_1 : decode cX11_travels 1 = .ok (.istore_n 2, 1) := by decide +kernel
theorem dX11_travels_2 : decode cX11_travels 2 = .ok (.iconst 0, 1) := by decide +kernel
theorem dX11_travels_3 : decode cX11_travels 3 = .ok (.istore_n 3, 1) := by decide +kernel
theorem dX11_travels_4 : decode cX11_travels 4 = .ok (.iload_n 3, 1) := by decide +kernel
theorem dX11_travels_5 : decode cX11_travels 5 = .ok (.aload_n 0, 1) := by decide +kernel
theorem dX11_travels_6 : decode cX11_travels 6 = .ok (.getfield 100, 3) := by decide +kernel
theorem dX11_travels_9 : decode cX11_travels 9 = .ok (.if_icmp .ge 101, 3) := by decide +kernel
theorem dX11_travels_12 : decode cX11_travels 12 = .ok (.bipush 16, 2) := by decide +kernel
theorem dX11_travels_14 : decode cX11_travels 14 = .ok (.iload_n 3, 1) := by decide +kernel
theorem dX11_travels_15 : decode cX11_travels 15 = .ok (.imul, 1) := by decide +kernel
theorem dX11_travels_16 : decode cX11_travels 16 = .ok (.iconst 1, 1) := by decide +kernel
theorem dX11_travels_17 : decode cX11_travels 17 = .ok (.iadd, 1) := by decide +kernel
theorem dX11_travels_18 : decode cX11_travels 18 = .ok (.istore 4, 2) := by decide +kernel
theorem dX11_travels_20 : decode cX11_travels 20 = .ok (.iload 4, 2) := by decide +kernel
theorem dX11_travels_22 : decode cX11_travels 22 = .ok (.bipush 16, 2) := by decide +kernel
theorem dX11_travels_24 : decode cX11_travels 24 = .ok (.iload_n 3, 1) := by decide +kernel
theorem dX11_travels_25 : decode cX11_travels 25 = .ok (.imul, 1) := by decide +kernel
theorem dX11_travels_26 : decode cX11_travels 26 = .ok (.aload_n 0, 1) := by decide +kernel
theorem dX11_travels_27 : decode cX11_travels 27 = .ok (.getfield 68, 3) := by decide +kernel
theorem dX11_travels_30 : decode cX11_travels 30 = .ok (.iload_n 3, 1) := by decide +kernel
theorem dX11_travels_31 : decode cX11_travels 31 = .ok (.iaload, 1) := by decide +kernel
theorem dX11_travels_32 : decode cX11_travels 32 = .ok (.iadd, 1) := by decide +kernel
theorem dX11_travels_33 : decode cX11_travels 33 = .ok (.if_icmp .ge 71, 3) := by decide +kernel
theorem dX11_travels_36 : decode cX11_travels 36 = .ok (.aload_n 0, 1) := by decide +kernel
theorem dX11_travels_37 : decode cX11_travels 37 = .ok (.getfield 50, 3) := by decide +kernel
theorem dX11_travels_40 : decode cX11_travels 40 = .ok (.bipush 50, 2) := by decide +kernel
theorem dX11_travels_42 : decode cX11_travels 42 = .ok (.iload_n 1, 1) := by decide +kernel
theorem dX11_travels_43 : decode cX11_travels 43 = .ok (.imul, 1) := by decide +kernel
theorem dX11_travels_44 : decode cX11_travels 44 = .ok (.aload_n 0, 1) := by decide +kernel
theorem dX11_travels_45 : decode cX11_travels 45 = .ok (.getfield 65, 3) := by decide +kernel
theorem dX11_travels_48 : decode cX11_travels 48 = .ok (.iload 4, 2) := by decide +kernel
theorem dX11_travels_50 : decode cX11_travels 50 = .ok (.iaload, 1) := by decide +kernel
theorem dX11_travels_51 : decode cX11_travels 51 = .ok (.iadd, 1) := by decide +kernel
theorem dX11_travels_52 : decode cX11_travels 52 = .ok (.iaload, 1) := by decide +kernel
theorem dX11_travels_53 : decode cX11_travels 53 = .ok (.aload_n 0, 1) := by decide +kernel
theorem dX11_travels_54 : decode cX11_travels 54 = .ok (.getfield 50, 3) := by decide +kernel
theorem dX11_travels_57 : decode cX11_travels 57 = .ok (.bipush 50, 2) := by decide +kernel
theorem dX11_travels_59 : decode cX11_travels 59 = .ok (.iload_n 1, 1) := by decide +kernel
theorem dX11_travels_60 : decode cX11_travels 60 = .ok (.imul, 1) := by decide +kernel
theorem dX11_travels_61 : decode cX11_travels 61 = .ok (.aload_n 0, 1) := by decide +kernel
theorem dX11_travels_62 : decode cX11_travels 62 = .ok (.getfield 65, 3) := by decide +kernel
theorem dX11_travels_65 : decode cX11_travels 65 = .ok (.iload 4, 2) := by decide +kernel
theorem dX11_travels_67 : decode cX11_travels 67 = .ok (.iconst 1, 1) := by decide +kernel
theorem dX11_travels_68 : decode cX11_travels 68 = .ok (.isub, 1) := by decide +kernel
theorem dX11_travels_69 : decode cX11_travels 69 = .ok (.iaload, 1) := by decide +kernel
theorem dX11_travels_70 : decode cX11_travels 70 = .ok (.iadd, 1) := by decide +kernel
theorem dX11_travels_71 : decode cX11_travels 71 = .ok (.iaload, 1) := by decide +kernel
theorem dX11_travels_72 : decode cX11_travels 72 = .ok (.isub, 1) := by decide +kernel
theorem dX11_travels_73 : decode cX11_travels 73 = .ok (.istore 5, 2) := by decide +kernel
theorem dX11_travels_75 : decode cX11_travels 75 = .ok (.iload_n 2, 1) := by decide +kernel
theorem dX11_travels_76 : decode cX11_travels 76 = .ok (.aload_n 0, 1) := by decide +kernel
theorem dX11_travels_77 : decode cX11_travels 77 = .ok (.getfield 19, 3) := by decide +kernel
theorem dX11_travels_80 : decode cX11_travels 80 = .ok (.iload_n 3, 1) := by decide +kernel
theorem dX11_travels_81 : decode cX11_travels 81 = .ok (.iaload, 1) := by decide +kernel
theorem dX11_travels_82 : decode cX11_travels 82 = .ok (.iload 5, 2) := by decide +kernel
theorem dX11_travels_84 : decode cX11_travels 84 = .ok (.ifCond .ge 9, 3) := by decide +kernel
theorem dX11_travels_87 : decode cX11_travels 87 = .ok (.iload 5, 2) := by decide +kernel
theorem dX11_travels_89 : decode cX11_travels 89 = .ok (.ineg, 1) := by decide +kernel
theorem dX11_travels_90 : decode cX11_travels 90 = .ok (.goto 5, 3) := by decide +kernel
theorem dX11_travels_93 : decode cX11_travels 93 = .ok (.iload 5, 2) := by decide +kernel
theorem dX11_travels_95 : decode cX11_travels 95 = .ok (.imul, 1) := by decide +kernel
theorem dX11_travels_96 : decode cX11_travels 96 = .ok (.iadd, 1) := by decide +kernel
theorem dX11_travels_97 : decode cX11_travels 97 = .ok (.istore_n 2, 1) := by decide +kernel
theorem dX11_travels_98 : decode cX11_travels 98 = .ok (.iinc 4 1, 3) := by decide +kernel
theorem dX11_travels_101 : decode cX11_travels 101 = .ok (.goto (-81), 3) := by decide +kernel
theorem dX11_travels_104 : decode cX11_travels 104 = .ok (.iinc 3 1, 3) := by decide +kernel
theorem dX11_travels_107 : decode cX11_travels 107 = .ok (.goto (-103), 3) := by decide +kernel
theorem dX11_travels_110 : decode cX11_travels 110 = .ok (.iload_n 2, 1) := by decide +kernel
theorem dX11_travels_111 : decode cX11_travels 111 = .ok (.ireturn, 1) := by decide +kernel
theorem dX11_travel_0 : decode cX11_travel 0 = .ok (.aload_n 0, 1) := by decide +kernel
theorem dX11_travel_1 : decode cX11_travel 1 = .ok (.aload_n 0, 1) := by decide +kernel
theorem dX11_travel_2 : decode cX11_travel 2 = .ok (.iload_n 1, 1) := by decide +kernel
theorem dX11_travel_3 : decode cX11_travel 3 = .ok (.invokevirtual 146, 3) := by decide +kernel
theorem dX11_travel_6 : decode cX11_travel 6 = .ok (.ifCond .eq 7, 3) := by decide +kernel
theorem dX11_travel_9 : decode cX11_travel 9 = .ok (.iconst 0, 1) := by decide +kernel
theorem dX11_travel_10 : decode cX11_travel 10 = .ok (.goto 4, 3) := by decide +kernel
theorem dX11_travel_13 : decode cX11_travel 13 = .ok (.iconst 1, 1) := by decide +kernel
theorem dX11_travel_14 : decode cX11_travel 14 = .ok (.invokevirtual 113, 3) := by decide +kernel
theorem dX11_travel_17 : decode cX11_travel 17 = .ok (.ifCond .eq 5, 3) := by decide +kernel
theorem dX11_travel_20 : decode cX11_travel 20 = .ok (.iconst 0, 1) := by decide +kernel
theorem dX11_travel_21 : decode cX11_travel 21 = .ok (.ireturn, 1) := by decide +kernel
theorem dX11_travel_22 : decode cX11_travel 22 = .ok (.aload_n 0, 1) := by decide +kernel
theorem dX11_travel_23 : decode cX11_travel 23 = .ok (.iload_n 1, 1) := by decide +kernel
theorem dX11_travel_24 : decode cX11_travel 24 = .ok (.aload_n 0, 1) := by decide +kernel
theorem dX11_travel_25 : decode cX11_travel 25 = .ok (.getfield 41, 3) := by decide +kernel
theorem dX11_travel_28 : decode cX11_travel 28 = .ok (.iload_n 1, 1) := by decide +kernel
theorem dX11_travel_29 : decode cX11_travel 29 = .ok (.iaload, 1) := by decide +kernel
theorem dX11_travel_30 : decode cX11_travel 30 = .ok (.iconst 0, 1) := by decide +kernel
theorem dX11_travel_31 : decode cX11_travel 31 = .ok (.invokevirtual 156, 3) := by decide +kernel
theorem dX11_travel_34 : decode cX11_travel 34 = .ok (.aload_n 0, 1) := by decide +kernel
theorem dX11_travel_35 : decode cX11_travel 35 = .ok (.iload_n 1, 1) := by decide +kernel
theorem dX11_travel_36 : decode cX11_travel 36 = .ok (.invokevirtual 204, 3) := by decide +kernel
theorem dX11_travel_39 : decode cX11_travel 39 = .ok (.ireturn, 1) := by decide +kernel
theorem dX11_swaps_0 : decode cX11_swaps 0 = .ok (.aload_n 0, 1) := by decide +kernel
theorem dX11_swaps_1 : decode cX11_swaps 1 = .ok (.getfield 50, 3) := by decide +kernel
theorem dX11_swaps_4 : decode cX11_swaps 4 = .ok (.iload_n 1, 1) := by decide +kernel
theorem dX11_swaps_5 : decode cX11_swaps 5 = .ok (.iaload, 1) := by decide +kernel
theorem dX11_swaps_6 : decode cX11_swaps 6 = .ok (.istore_n 3, 1) := by decide +kernel
theorem dX11_swaps_7 : decode cX11_swaps 7 = .ok (.aload_n 0, 1) := by decide +kernel
theorem dX11_swaps_8 : decode cX11_swaps 8 = .ok (.getfield 50, 3) := by decide +kernel
theorem dX11_swaps_11 : decode cX11_swaps 11 = .ok (.iload_n 1, 1) := by decide +kernel
theorem dX11_swaps_12 : decode cX11_swaps 12 = .ok (.aload_n 0, 1) := by decide +kernel
theorem dX11_swaps_13 : decode cX11_swaps 13 = .ok (.getfield 50, 3) := by decide +kernel
theorem dX11_swaps_16 : decode cX11_swaps 16 = .ok (.iload_n 2, 1) := by decide +kernel
theorem dX11_swaps_17 : decode cX11_swaps 17 = .ok (.iaload, 1) := by decide +kernel
theorem dX11_swaps_18 : decode cX11_swaps 18 = .ok (.iastore, 1) := by decide +kernel
theorem dX11_swaps_19 : decode cX11_swaps 19 = .ok (.aload_n 0, 1) := by decide +kernel
theorem dX11_swaps_20 : decode cX11_swaps 20 = .ok (.getfield 50, 3) := by decide +kernel
theorem dX11_swaps_23 : decode cX11_swaps 23 = .ok (.iload_n 2, 1) := by decide +kernel
theorem dX11_swaps_24 : decode cX11_swaps 24 = .ok (.iload_n 3, 1) := by decide +kernel
theorem dX11_swaps_25 : decode cX11_swaps 25 = .ok (.iastore, 1) := by decide +kernel
theorem dX11_swaps_26 : decode cX11_swaps 26 = .ok (.return_, 1) := by decide +kernel
theorem dX11_exchange_0 : decode cX11_exchange 0 = .ok (.aload_n 0, 1) := by decide +kernel
theorem dX11_exchange_1 : decode cX11_exchange 1 = .ok (.aload_n 0, 1) := by decide +kernel
theorem dX11_exchange_2 : decode cX11_exchange 2 = .ok (.iload_n 1, 1) := by decide +kernel
theorem dX11_exchange_3 : decode cX11_exchange 3 = .ok (.invokevirtual 146, 3) := by decide +kernel
theorem dX11_exchange_6 : decode cX11_exchange 6 = .ok (.ifCond .eq 7, 3) := by decide +kernel
theorem dX11_exchange_9 : decode cX11_exchange 9 = .ok (.iconst 0, 1) := by decide +kernel
theorem dX11_exchange_10 : decode cX11_exchange 10 = .ok (.goto 4, 3) := by decide +kernel
theorem dX11_exchange_13 : decode cX11_exchange 13 = .ok (.iconst 1, 1) := by decide +kernel
theorem dX11_exchange_14 : decode cX11_exchange 14 = .ok (.invokevirtual 113, 3) := by decide +kernel
theorem dX11_exchange_17 : decode cX11_exchange 17 = .ok (.ifCond .eq 5, 3) := by decide +kernel
theorem dX11_exchange_20 : decode cX11_exchange 20 = .ok (.iconst 0, 1) := by decide +kernel
theorem dX11_exchange_21 : decode cX11_exchange 21 = .ok (.ireturn, 1) := by decide +kernel
theorem dX11_exchange_22 : decode cX11_exchange 22 = .ok (.aload_n 0, 1) := by decide +kernel
theorem dX11_exchange_23 : decode cX11_exchange 23 = .ok (.iload_n 1, 1) := by decide +kernel
theorem dX11_exchange_24 : decode cX11_exchange 24 = .ok (.invokevirtual 194, 3) := by decide +kernel
theorem dX11_exchange_27 : decode cX11_exchange 27 = .ok (.istore_n 2, 1) := by decide +kernel
theorem dX11_exchange_28 : decode cX11_exchange 28 = .ok (.aload_n 0, 1) := by decide +kernel
theorem dX11_exchange_29 : decode cX11_exchange 29 = .ok (.iload_n 1, 1) := by decide +kernel
theorem dX11_exchange_30 : decode cX11_exchange 30 = .ok (.invokevirtual 204, 3) := by decide +kernel
theorem dX11_exchange_33 : decode cX11_exchange 33 = .ok (.istore_n 3, 1) := by decide +kernel
theorem dX11_exchange_34 : decode cX11_exchange 34 = .ok (.iconst (-1), 1) := by decide +kernel
theorem dX11_exchange_35 : decode cX11_exchange 35 = .ok (.istore 4, 2) := by decide +kernel
theorem dX11_exchange_37 : decode cX11_exchange 37 = .ok (.iconst 0, 1) := by decide +kernel
theorem dX11_exchange_38 : decode cX11_exchange 38 = .ok (.istore 5, 2) := by decide +kernel
theorem dX11_exchange_40 : decode cX11_exchange 40 = .ok (.iload 5, 2) := by decide +kernel
theorem dX11_exchange_42 : decode cX11_exchange 42 = .ok (.iload_n 2, 1) := by decide +kernel
theorem dX11_exchange_43 : decode cX11_exchange 43 = .ok (.if_icmp .ge 134, 3) := by decide +kernel
theorem dX11_exchange_46 : decode cX11_exchange 46 = .ok (.iload 5, 2) := by decide +kernel
theorem dX11_exchange_48 : decode cX11_exchange 48 = .ok (.iconst 1, 1) := by decide +kernel
theorem dX11_exchange_49 : decode cX11_exchange 49 = .ok (.iadd, 1) := by decide +kernel
theorem dX11_exchange_50 : decode cX11_exchange 50 = .ok (.istore 6, 2) := by decide +kernel
theorem dX11_exchange_52 : decode cX11_exchange 52 = .ok (.iload 6, 2) := by decide +kernel
theorem dX11_exchange_54 : decode cX11_exchange 54 = .ok (.iload_n 2, 1) := by decide +kernel
theorem dX11_exchange_55 : decode cX11_exchange 55 = .ok (.if_icmp .ge 116, 3) := by decide +kernel
theorem dX11_exchange_58 : decode cX11_exchange 58 = .ok (.aload_n 0, 1) := by decide +kernel
theorem dX11_exchange_59 : decode cX11_exchange 59 = .ok (.bipush 50, 2) := by decide +kernel
theorem dX11_exchange_61 : decode cX11_exchange 61 = .ok (.iload_n 1, 1) := by decide +kernel
theorem dX11_exchange_62 : decode cX11_exchange 62 = .ok (.imul, 1) := by decide +kernel
theorem dX11_exchange_63 : decode cX11_exchange 63 = .ok (.aload_n 0, 1) := by decide +kernel
theorem dX11_exchange_64 : decode cX11_exchange 64 = .ok (.getfield 81, 3) := by decide +kernel
theorem dX11_exchange_67 : decode cX11_exchange 67 = .ok (.iload 5, 2) := by decide +kernel
theorem dX11_exchange_69 : decode cX11_exchange 69 = .ok (.iaload, 1) := by decide +kernel
theorem dX11_exchange_70 : decode cX11_exchange 70 = .ok (.iadd, 1) := by decide +kernel
theorem dX11_exchange_71 : decode cX11_exchange 71 = .ok (.bipush 50, 2) := by decide +kernel
theorem dX11_exchange_73 : decode cX11_exchange 73 = .ok (.iload_n 1, 1) := by decide +kernel
theorem dX11_exchange_74 : decode cX11_exchange 74 = .ok (.imul, 1) := by decide +kernel
theorem dX11_exchange_75 : decode cX11_exchange 75 = .ok (.aload_n 0, 1) := by decide +kernel
theorem dX11_exchange_76 : decode cX11_exchange 76 = .ok (.getfield 81, 3) := by decide +kernel
theorem dX11_exchange_79 : decode cX11_exchange 79 = .ok (.iload 6, 2) := by decide +kernel
theorem dX11_exchange_81 : decode cX11_exchange 81 = .ok (.iaload, 1) := by decide +kernel
theorem dX11_exchange_82 : decode cX11_exchange 82 = .ok (.iadd, 1) := by decide +kernel
theorem dX11_exchange_83 : decode cX11_exchange 83 = .ok (.invokevirtual 207, 3) := by decide +kernel
theorem dX11_exchange_86 : decode cX11_exchange 86 = .ok (.aload_n 0, 1) := by decide +kernel
theorem dX11_exchange_87 : decode cX11_exchange 87 = .ok (.iload_n 1, 1) := by decide +kernel
theorem dX11_exchange_88 : decode cX11_exchange 88 = .ok (.invokevirtual 204, 3) := by decide +kernel
theorem dX11_exchange_91 : decode cX11_exchange 91 = .ok (.istore 7, 2) := by decide +kernel
theorem dX11_exchange_93 : decode cX11_exchange 93 = .ok (.aload_n 0, 1) := by decide +kernel
theorem dX11_exchange_94 : decode cX11_exchange 94 = .ok (.bipush 50, 2) := by decide +kernel
theorem dX11_exchange_96 : decode cX11_exchange 96 = .ok (.iload_n 1, 1) := by decide +kernel
theorem dX11_exchange_97 : decode cX11_exchange 97 = .ok (.imul, 1) := by decide +kernel
theorem dX11_exchange_98 : decode cX11_exchange 98 = .ok (.aload_n 0, 1) := by decide +kernel
theorem dX11_exchange_99 : decode cX11_exchange 99 = .ok (.getfield 81, 3) := by decide +kernel
theorem dX11_exchange_102 : decode cX11_exchange 102 = .ok (.iload 5, 2) := by decide +kernel
theorem dX11_exchange_104 : decode cX11_exchange 104 = .ok (.iaload, 1) := by decide +kernel
theorem dX11_exchange_105 : decode cX11_exchange 105 = .ok (.iadd, 1) := by decide +kernel
theorem dX11_exchange_106 : decode cX11_exchange 106 = .ok (.bipush 50, 2) := by decide +kernel
theorem dX11_exchange_108 : decode cX11_exchange 108 = .ok (.iload_n 1, 1) := by decide +kernel
theorem dX11_exchange_109 : decode cX11_exchange 109 = .ok (.imul, 1) := by decide +kernel
theorem dX11_exchange_110 : decode cX11_exchange 110 = .ok (.aload_n 0, 1) := by decide +kernel
theorem dX11_exchange_111 : decode cX11_exchange 111 = .ok (.getfield 81, 3) := by decide +kernel
theorem dX11_exchange_114 : decode cX11_exchange 114 = .ok (.iload 6, 2) := by decide +kernel
theorem dX11_exchange_116 : decode cX11_exchange 116 = .ok (.iaload, 1) := by decide +kernel
theorem dX11_exchange_117 : decode cX11_exchange 117 = .ok (.iadd, 1) := by decide +kernel
theorem dX11_exchange_118 : decode cX11_exchange 118 = .ok (.invokevirtual 207, 3) := by decide +kernel
theorem dX11_exchange_121 : decode cX11_exchange 121 = .ok (.iload 7, 2) := by decide +kernel
theorem dX11_exchange_123 : decode cX11_exchange 123 = .ok (.iload_n 3, 1) := by decide +kernel
theorem dX11_exchange_124 : decode cX11_exchange 124 = .ok (.if_icmp .ge 24, 3) := by decide +kernel
theorem dX11_exchange_127 : decode cX11_exchange 127 = .ok (.bipush 100, 2) := by decide +kernel
theorem dX11_exchange_129 : decode cX11_exchange 129 = .ok (.aload_n 0, 1) := by decide +kernel
theorem dX11_exchange_130 : decode cX11_exchange 130 = .ok (.getfield 81, 3) := by decide +kernel
theorem dX11_exchange_133 : decode cX11_exchange 133 = .ok (.iload 5, 2) := by decide +kernel
theorem dX11_exchange_135 : decode cX11_exchange 135 = .ok (.iaload, 1) := by decide +kernel
theorem dX11_exchange_136 : decode cX11_exchange 136 = .ok (.imul, 1) := by decide +kernel
theorem dX11_exchange_137 : decode cX11_exchange 137 = .ok (.aload_n 0, 1) := by decide +kernel
theorem dX11_exchange_138 : decode cX11_exchange 138 = .ok (.getfield 81, 3) := by decide +kernel
theorem dX11_exchange_141 : decode cX11_exchange 141 = .ok (.iload 6, 2) := by decide +kernel
theorem dX11_exchange_143 : decode cX11_exchange 143 = .ok (.iaload, 1) := by decide +kernel
theorem dX11_exchange_144 : decode cX11_exchange 144 = .ok (.iadd, 1) := by decide +kernel
theorem dX11_exchange_145 : decode cX11_exchange 145 = .ok (.goto 5, 3) := by decide +kernel
theorem dX11_exchange_148 : decode cX11_exchange 148 = .ok (.iload 4, 2) := by decide +kernel
theorem dX11_exchange_150 : decode cX11_exchange 150 = .ok (.istore 4, 2) := by decide +kernel
theorem dX11_exchange_152 : decode cX11_exchange 152 = .ok (.iload 7, 2) := by decide +kernel
theorem dX11_exchange_154 : decode cX11_exchange 154 = .ok (.iload_n 3, 1) := by decide +kernel
theorem dX11_exchange_155 : decode cX11_exchange 155 = .ok (.if_icmp .ge 8, 3) := by decide +kernel
theorem dX11_exchange_158 : decode cX11_exchange 158 = .ok (.iload 7, 2) := by decide +kernel
theorem dX11_exchange_160 : decode cX11_exchange 160 = .ok (.goto 4, 3) := by decide +kernel
theorem dX11_exchange_163 : decode cX11_exchange 163 = .ok (.iload_n 3, 1) := by decide +kernel
theorem dX11_exchange_164 : decode cX11_exchange 164 = .ok (.istore_n 3, 1) := by decide +kernel
theorem dX11_exchange_165 : decode cX11_exchange 165 = .ok (.iinc 6 1, 3) := by decide +kernel
theorem dX11_exchange_168 : decode cX11_exchange 168 = .ok (.goto (-116), 3) := by decide +kernel
theorem dX11_exchange_171 : decode cX11_exchange 171 = .ok (.iinc 5 1, 3) := by decide +kernel
theorem dX11_exchange_174 : decode cX11_exchange 174 = .ok (.goto (-134), 3) := by decide +kernel
theorem dX11_exchange_177 : decode cX11_exchange 177 = .ok (.iload 4, 2) := by decide +kernel
theorem dX11_exchange_179 : decode cX11_exchange 179 = .ok (.ireturn, 1) := by decide +kernel
theorem dX11_group_0 : decode cX11_group 0 = .ok (.iload_n 1, 1) := by decide +kernel
theorem dX11_group_1 : decode cX11_group 1 = .ok (.iconst 0, 1) := by decide +kernel
theorem dX11_group_2 : decode cX11_group 2 = .ok (.iconst 3, 1) := by decide +kernel
theorem dX11_group_3 : decode cX11_group 3 = .ok (.invokestatic 103, 3) := by decide +kernel
theorem dX11_group_6 : decode cX11_group 6 = .ok (.ifCond .eq 15, 3) := by decide +kernel
theorem dX11_group_9 : decode cX11_group 9 = .ok (.iload 4, 2) := by decide +kernel
theorem dX11_group_11 : decode cX11_group 11 = .ok (.invokestatic 117, 3) := by decide +kernel
theorem dX11_group_14 : decode cX11_group 14 = .ok (.ifCond .eq 7, 3) := by decide +kernel
theorem dX11_group_17 : decode cX11_group 17 = .ok (.iconst 1, 1) := by decide +kernel
theorem dX11_group_18 : decode cX11_group 18 = .ok (.goto 4, 3) := by decide +kernel
theorem dX11_group_21 : decode cX11_group 21 = .ok (.iconst 0, 1) := by decide +kernel
theorem dX11_group_22 : decode cX11_group 22 = .ok (.istore 5, 2) := by decide +kernel
theorem dX11_group_24 : decode cX11_group 24 = .ok (.iload_n 2, 1) := by decide +kernel
theorem dX11_group_25 : decode cX11_group 25 = .ok (.iconst 0, 1) := by decide +kernel
theorem dX11_group_26 : decode cX11_group 26 = .ok (.sipush 999, 3) := by decide +kernel
theorem dX11_group_29 : decode cX11_group 29 = .ok (.invokestatic 103, 3) := by decide +kernel
theorem dX11_group_32 : decode cX11_group 32 = .ok (.ifCond .eq 18, 3) := by decide +kernel
theorem dX11_group_35 : decode cX11_group 35 = .ok (.iload_n 3, 1) := by decide +kernel
theorem dX11_group_36 : decode cX11_group 36 = .ok (.iconst 0, 1) := by decide +kernel
theorem dX11_group_37 : decode cX11_group 37 = .ok (.sipush 999, 3) := by decide +kernel
theorem dX11_group_40 : decode cX11_group 40 = .ok (.invokestatic 103, 3) := by decide +kernel
theorem dX11_group_43 : decode cX11_group 43 = .ok (.ifCond .eq 7, 3) := by decide +kernel
theorem dX11_group_46 : decode cX11_group 46 = .ok (.iconst 1, 1) := by decide +kernel
theorem dX11_group_47 : decode cX11_group 47 = .ok (.goto 4, 3) := by decide +kernel
theorem dX11_group_50 : decode cX11_group 50 = .ok (.iconst 0, 1) := by decide +kernel
theorem dX11_group_51 : decode cX11_group 51 = .ok (.istore 6, 2) := by decide +kernel
theorem dX11_group_53 : decode cX11_group 53 = .ok (.aload_n 0, 1) := by decide +kernel
theorem dX11_group_54 : decode cX11_group 54 = .ok (.iload 5, 2) := by decide +kernel
theorem dX11_group_56 : decode cX11_group 56 = .ok (.ifCond .ne 7, 3) := by decide +kernel
theorem dX11_group_59 : decode cX11_group 59 = .ok (.iconst 1, 1) := by decide +kernel
theorem dX11_group_60 : decode cX11_group 60 = .ok (.goto 13, 3) := by decide +kernel
theorem dX11_group_63 : decode cX11_group 63 = .ok (.iload 6, 2) := by decide +kernel
theorem dX11_group_65 : decode cX11_group 65 = .ok (.ifCond .eq 7, 3) := by decide +kernel
theorem dX11_group_68 : decode cX11_group 68 = .ok (.iconst 0, 1) := by decide +kernel
theorem dX11_group_69 : decode cX11_group 69 = .ok (.goto 4, 3) := by decide +kernel
theorem dX11_group_72 : decode cX11_group 72 = .ok (.iconst 2, 1) := by decide +kernel
theorem dX11_group_73 : decode cX11_group 73 = .ok (.invokevirtual 113, 3) := by decide +kernel
theorem dX11_group_76 : decode cX11_group 76 = .ok (.ifCond .eq 5, 3) := by decide +kernel
theorem dX11_group_79 : decode cX11_group 79 = .ok (.iconst 0, 1) := by decide +kernel
theorem dX11_group_80 : decode cX11_group 80 = .ok (.ireturn, 1) := by decide +kernel
theorem dX11_group_81 : decode cX11_group 81 = .ok (.aload_n 0, 1) := by decide +kernel
theorem dX11_group_82 : decode cX11_group 82 = .ok (.getfield 56, 3) := by decide +kernel
theorem dX11_group_85 : decode cX11_group 85 = .ok (.iload_n 1, 1) := by decide +kernel
theorem dX11_group_86 : decode cX11_group 86 = .ok (.iaload, 1) := by decide +kernel
theorem dX11_group_87 : decode cX11_group 87 = .ok (.istore 7, 2) := by decide +kernel
theorem dX11_group_89 : decode cX11_group 89 = .ok (.aload_n 0, 1) := by decide +kernel
theorem dX11_group_90 : decode cX11_group 90 = .ok (.getfield 56, 3) := by decide +kernel
theorem dX11_group_93 : decode cX11_group 93 = .ok (.iload_n 1, 1) := by decide +kernel
theorem dX11_group_94 : decode cX11_group 94 = .ok (.iload_n 2, 1) := by decide +kernel
theorem dX11_group_95 : decode cX11_group 95 = .ok (.iastore, 1) := by decide +kernel
theorem dX11_group_96 : decode cX11_group 96 = .ok (.aload_n 0, 1) := by decide +kernel
theorem dX11_group_97 : decode cX11_group 97 = .ok (.getfield 59, 3) := by decide +kernel
theorem dX11_group_100 : decode cX11_group 100 = .ok (.iload_n 1, 1) := by decide +kernel
theorem dX11_group_101 : decode cX11_group 101 = .ok (.iload_n 3, 1) := by decide +kernel
theorem dX11_group_102 : decode cX11_group 102 = .ok (.iastore, 1) := by decide +kernel
theorem dX11_group_103 : decode cX11_group 103 = .ok (.aload_n 0, 1) := by decide +kernel
theorem dX11_group_104 : decode cX11_group 104 = .ok (.getfield 62, 3) := by decide +kernel
theorem dX11_group_107 : decode cX11_group 107 = .ok (.iload_n 1, 1) := by decide +kernel
theorem dX11_group_108 : decode cX11_group 108 = .ok (.iload 4, 2) := by decide +kernel
theorem dX11_group_110 : decode cX11_group 110 = .ok (.iastore, 1) := by decide +kernel
theorem dX11_group_111 : decode cX11_group 111 = .ok (.iload 7, 2) := by decide +kernel
theorem dX11_group_113 : decode cX11_group 113 = .ok (.ireturn, 1) := by decide +kernel
theorem dX11_scoreOf_0 : decode cX11_scoreOf 0 = .ok (.aload_n 0, 1) := by decide +kernel
theorem dX11_scoreOf_1 : decode cX11_scoreOf 1 = .ok (.iload_n 2, 1) := by decide +kernel
theorem dX11_scoreOf_2 : decode cX11_scoreOf 2 = .ok (.invokevirtual 163, 3) := by decide +kernel
theorem dX11_scoreOf_5 : decode cX11_scoreOf 5 = .ok (.istore_n 3, 1) := by decide +kernel
theorem dX11_scoreOf_6 : decode cX11_scoreOf 6 = .ok (.iconst 0, 1) := by decide +kernel
theorem dX11_scoreOf_7 : decode cX11_scoreOf 7 = .ok (.istore 4, 2) := by decide +kernel
theorem dX11_scoreOf_9 : decode cX11_scoreOf 9 = .ok (.iconst 0, 1) := by decide +kernel
theorem dX11_scoreOf_10 : decode cX11_scoreOf 10 = .ok (.istore 5, 2) := by decide +kernel
theorem dX11_scoreOf_12 : decode cX11_scoreOf 12 = .ok (.iconst 0, 1) := by decide +kernel
theorem dX11_scoreOf_13 : decode cX11_scoreOf 13 = .ok (.istore 6, 2) := by decide +kernel
theorem dX11_scoreOf_15 : decode cX11_scoreOf 15 = .ok (.iload 6, 2) := by decide +kernel
theorem dX11_scoreOf_17 : decode cX11_scoreOf 17 = .ok (.aload_n 0, 1) := by decide +kernel
theorem dX11_scoreOf_18 : decode cX11_scoreOf 18 = .ok (.getfield 100, 3) := by decide +kernel
theorem dX11_scoreOf_21 : decode cX11_scoreOf 21 = .ok (.if_icmp .ge 80, 3) := by decide +kernel
theorem dX11_scoreOf_24 : decode cX11_scoreOf 24 = .ok (.iload 4, 2) := by decide +kernel
theorem dX11_scoreOf_26 : decode cX11_scoreOf 26 = .ok (.aload_n 0, 1) := by decide +kernel
theorem dX11_scoreOf_27 : decode cX11_scoreOf 27 = .ok (.getfield 19, 3) := by decide +kernel
theorem dX11_scoreOf_30 : decode cX11_scoreOf 30 = .ok (.iload 6, 2) := by decide +kernel
theorem dX11_scoreOf_32 : decode cX11_scoreOf 32 = .ok (.iaload, 1) := by decide +kernel
theorem dX11_scoreOf_33 : decode cX11_scoreOf 33 = .ok (.iadd, 1) := by decide +kernel
theorem dX11_scoreOf_34 : decode cX11_scoreOf 34 = .ok (.istore 4, 2) := by decide +kernel
theorem dX11_scoreOf_36 : decode cX11_scoreOf 36 = .ok (.bipush 16, 2) := by decide +kernel
theorem dX11_scoreOf_38 : decode cX11_scoreOf 38 = .ok (.iload 6, 2) := by decide +kernel
theorem dX11_scoreOf_40 : decode cX11_scoreOf 40 = .ok (.imul, 1) := by decide +kernel
theorem dX11_scoreOf_41 : decode cX11_scoreOf 41 = .ok (.istore 7, 2) := by decide +kernel
theorem dX11_scoreOf_43 : decode cX11_scoreOf 43 = .ok (.iload 7, 2) := by decide +kernel
theorem dX11_scoreOf_45 : decode cX11_scoreOf 45 = .ok (.bipush 16, 2) := by decide +kernel
theorem dX11_scoreOf_47 : decode cX11_scoreOf 47 = .ok (.iload 6, 2) := by decide +kernel
theorem dX11_scoreOf_49 : decode cX11_scoreOf 49 = .ok (.imul, 1) := by decide +kernel
theorem dX11_scoreOf_50 : decode cX11_scoreOf 50 = .ok (.aload_n 0, 1) := by decide +kernel
theorem dX11_scoreOf_51 : decode cX11_scoreOf 51 = .ok (.getfield 68, 3) := by decide +kernel
theorem dX11_scoreOf_54 : decode cX11_scoreOf 54 = .ok (.iload 6, 2) := by decide +kernel
theorem dX11_scoreOf_56 : decode cX11_scoreOf 56 = .ok (.iaload, 1) := by decide +kernel
theorem dX11_scoreOf_57 : decode cX11_scoreOf 57 = .ok (.iadd, 1) := by decide +kernel
theorem dX11_scoreOf_58 : decode cX11_scoreOf 58 = .ok (.if_icmp .ge 37, 3) := by decide +kernel
theorem dX11_scoreOf_61 : decode cX11_scoreOf 61 = .ok (.iload 5, 2) := by decide +kernel
theorem dX11_scoreOf_63 : decode cX11_scoreOf 63 = .ok (.aload_n 0, 1) := by decide +kernel
theorem dX11_scoreOf_64 : decode cX11_scoreOf 64 = .ok (.getfield 19, 3) := by decide +kernel
theorem dX11_scoreOf_67 : decode cX11_scoreOf 67 = .ok (.iload 6, 2) := by decide +kernel
theorem dX11_scoreOf_69 : decode cX11_scoreOf 69 = .ok (.iaload, 1) := by decide +kernel
theorem dX11_scoreOf_70 : decode cX11_scoreOf 70 = .ok (.aload_n 0, 1) := by decide +kernel
theorem dX11_scoreOf_71 : decode cX11_scoreOf 71 = .ok (.getfield 53, 3) := by decide +kernel
theorem dX11_scoreOf_74 : decode cX11_scoreOf 74 = .ok (.aload_n 0, 1) := by decide +kernel
theorem dX11_scoreOf_75 : decode cX11_scoreOf 75 = .ok (.getfield 65, 3) := by decide +kernel
theorem dX11_scoreOf_78 : decode cX11_scoreOf 78 = .ok (.iload 7, 2) := by decide +kernel
theorem dX11_scoreOf_80 : decode cX11_scoreOf 80 = .ok (.iaload, 1) := by decide +kernel
theorem dX11_scoreOf_81 : decode cX11_scoreOf 81 = .ok (.iaload, 1) := by decide +kernel
theorem dX11_scoreOf_82 : decode cX11_scoreOf 82 = .ok (.invokestatic 180, 3) := by decide +kernel
theorem dX11_scoreOf_85 : decode cX11_scoreOf 85 = .ok (.imul, 1) := by decide +kernel
theorem dX11_scoreOf_86 : decode cX11_scoreOf 86 = .ok (.iadd, 1) := by decide +kernel
theorem dX11_scoreOf_87 : decode cX11_scoreOf 87 = .ok (.istore 5, 2) := by decide +kernel
theorem dX11_scoreOf_89 : decode cX11_scoreOf 89 = .ok (.iinc 7 1, 3) := by decide +kernel
theorem dX11_scoreOf_92 : decode cX11_scoreOf 92 = .ok (.goto (-49), 3) := by decide +kernel
theorem dX11_scoreOf_95 : decode cX11_scoreOf 95 = .ok (.iinc 6 1, 3) := by decide +kernel
theorem dX11_scoreOf_98 : decode cX11_scoreOf 98 = .ok (.goto (-83), 3) := by decide +kernel
theorem dX11_scoreOf_101 : decode cX11_scoreOf 101 = .ok (.iload_n 3, 1) := by decide +kernel
theorem dX11_scoreOf_102 : decode cX11_scoreOf 102 = .ok (.aload_n 0, 1) := by decide +kernel
theorem dX11_scoreOf_103 : decode cX11_scoreOf 103 = .ok (.getfield 59, 3) := by decide +kernel
theorem dX11_scoreOf_106 : decode cX11_scoreOf 106 = .ok (.iload_n 1, 1) := by decide +kernel
theorem dX11_scoreOf_107 : decode cX11_scoreOf 107 = .ok (.iaload, 1) := by decide +kernel
theorem dX11_scoreOf_108 : decode cX11_scoreOf 108 = .ok (.bipush 100, 2) := by decide +kernel
theorem dX11_scoreOf_110 : decode cX11_scoreOf 110 = .ok (.idiv, 1) := by decide +kernel
theorem dX11_scoreOf_111 : decode cX11_scoreOf 111 = .ok (.imul, 1) := by decide +kernel
theorem dX11_scoreOf_112 : decode cX11_scoreOf 112 = .ok (.iload 5, 2) := by decide +kernel
theorem dX11_scoreOf_114 : decode cX11_scoreOf 114 = .ok (.bipush 100, 2) := by decide +kernel
theorem dX11_scoreOf_116 : decode cX11_scoreOf 116 = .ok (.idiv, 1) := by decide +kernel
theorem dX11_scoreOf_117 : decode cX11_scoreOf 117 = .ok (.aload_n 0, 1) := by decide +kernel
theorem dX11_scoreOf_118 : decode cX11_scoreOf 118 = .ok (.getfield 59, 3) := by decide +kernel
theorem dX11_scoreOf_121 : decode cX11_scoreOf 121 = .ok (.iload_n 1, 1) := by decide +kernel
theorem dX11_scoreOf_122 : decode cX11_scoreOf 122 = .ok (.iaload, 1) := by decide +kernel
theorem dX11_scoreOf_123 : decode cX11_scoreOf 123 = .ok (.bipush 10, 2) := by decide +kernel
theorem dX11_scoreOf_125 : decode cX11_scoreOf 125 = .ok (.idiv, 1) := by decide +kernel
theorem dX11_scoreOf_126 : decode cX11_scoreOf 126 = .ok (.bipush 10, 2) := by decide +kernel
theorem dX11_scoreOf_128 : decode cX11_scoreOf 128 = .ok (.irem, 1) := by decide +kernel
theorem dX11_scoreOf_129 : decode cX11_scoreOf 129 = .ok (.imul, 1) := by decide +kernel
theorem dX11_scoreOf_130 : decode cX11_scoreOf 130 = .ok (.iadd, 1) := by decide +kernel
theorem dX11_scoreOf_131 : decode cX11_scoreOf 131 = .ok (.iload 4, 2) := by decide +kernel
theorem dX11_scoreOf_133 : decode cX11_scoreOf 133 = .ok (.aload_n 0, 1) := by decide +kernel
theorem dX11_scoreOf_134 : decode cX11_scoreOf 134 = .ok (.iload_n 2, 1) := by decide +kernel
theorem dX11_scoreOf_135 : decode cX11_scoreOf 135 = .ok (.aload_n 0, 1) := by decide +kernel
theorem dX11_scoreOf_136 : decode cX11_scoreOf 136 = .ok (.getfield 62, 3) := by decide +kernel
theorem dX11_scoreOf_139 : decode cX11_scoreOf 139 = .ok (.iload_n 1, 1) := by decide +kernel
theorem dX11_scoreOf_140 : decode cX11_scoreOf 140 = .ok (.iaload, 1) := by decide +kernel
theorem dX11_scoreOf_141 : decode cX11_scoreOf 141 = .ok (.invokevirtual 177, 3) := by decide +kernel
theorem dX11_scoreOf_144 : decode cX11_scoreOf 144 = .ok (.isub, 1) := by decide +kernel
theorem dX11_scoreOf_145 : decode cX11_scoreOf 145 = .ok (.aload_n 0, 1) := by decide +kernel
theorem dX11_scoreOf_146 : decode cX11_scoreOf 146 = .ok (.getfield 59, 3) := by decide +kernel
theorem dX11_scoreOf_149 : decode cX11_scoreOf 149 = .ok (.iload_n 1, 1) := by decide +kernel
theorem dX11_scoreOf_150 : decode cX11_scoreOf 150 = .ok (.iaload, 1) := by decide +kernel
theorem dX11_scoreOf_151 : decode cX11_scoreOf 151 = .ok (.bipush 10, 2) := by decide +kernel
theorem dX11_scoreOf_153 : decode cX11_scoreOf 153 = .ok (.irem, 1) := by decide +kernel
theorem dX11_scoreOf_154 : decode cX11_scoreOf 154 = .ok (.imul, 1) := by decide +kernel
theorem dX11_scoreOf_155 : decode cX11_scoreOf 155 = .ok (.iadd, 1) := by decide +kernel
theorem dX11_scoreOf_156 : decode cX11_scoreOf 156 = .ok (.ireturn, 1) := by decide +kernel
theorem dX11_score_0 : decode cX11_score 0 = .ok (.aload_n 0, 1) := by decide +kernel
theorem dX11_score_1 : decode cX11_score 1 = .ok (.iload_n 1, 1) := by decide +kernel
theorem dX11_score_2 : decode cX11_score 2 = .ok (.iconst 0, 1) := by decide +kernel
theorem dX11_score_3 : decode cX11_score 3 = .ok (.iconst 3, 1) := by decide +kernel
theorem dX11_score_4 : decode cX11_score 4 = .ok (.invokestatic 103, 3) := by decide +kernel
theorem dX11_score_7 : decode cX11_score 7 = .ok (.ifCond .eq 15, 3) := by decide +kernel
theorem dX11_score_10 : decode cX11_score 10 = .ok (.aload_n 0, 1) := by decide +kernel
theorem dX11_score_11 : decode cX11_score 11 = .ok (.iload_n 2, 1) := by decide +kernel
theorem dX11_score_12 : decode cX11_score 12 = .ok (.invokevirtual 146, 3) := by decide +kernel
theorem dX11_score_15 : decode cX11_score 15 = .ok (.ifCond .eq 7, 3) := by decide +kernel
theorem dX11_score_18 : decode cX11_score 18 = .ok (.iconst 0, 1) := by decide +kernel
theorem dX11_score_19 : decode cX11_score 19 = .ok (.goto 4, 3) := by decide +kernel
theorem dX11_score_22 : decode cX11_score 22 = .ok (.iconst 1, 1) := by decide +kernel
theorem dX11_score_23 : decode cX11_score 23 = .ok (.invokevirtual 113, 3) := by decide +kernel
theorem dX11_score_26 : decode cX11_score 26 = .ok (.ifCond .eq 7, 3) := by decide +kernel
theorem dX11_score_29 : decode cX11_score 29 = .ok (.iconst 0, 1) := by decide +kernel
theorem dX11_score_30 : decode cX11_score 30 = .ok (.goto 9, 3) := by decide +kernel
theorem dX11_score_33 : decode cX11_score 33 = .ok (.aload_n 0, 1) := by decide +kernel
theorem dX11_score_34 : decode cX11_score 34 = .ok (.iload_n 1, 1) := by decide +kernel
theorem dX11_score_35 : decode cX11_score 35 = .ok (.iload_n 2, 1) := by decide +kernel
theorem dX11_score_36 : decode cX11_score 36 = .ok (.invokevirtual 210, 3) := by decide +kernel
theorem dX11_score_39 : decode cX11_score 39 = .ok (.ireturn, 1) := by decide +kernel
theorem dX11_isFor_0 : decode cX11_isFor 0 = .ok (.iconst (-1), 1) := by decide +kernel
theorem dX11_isFor_1 : decode cX11_isFor 1 = .ok (.istore_n 3, 1) := by decide +kernel
theorem dX11_isFor_2 : decode cX11_isFor 2 = .ok (.iconst 0, 1) := by decide +kernel
theorem dX11_isFor_3 : decode cX11_isFor 3 = .ok (.istore 4, 2) := by decide +kernel
theorem dX11_isFor_5 : decode cX11_isFor 5 = .ok (.iconst 0, 1) := by decide +kernel
theorem dX11_isFor_6 : decode cX11_isFor 6 = .ok (.istore 5, 2) := by decide +kernel
theorem dX11_isFor_8 : decode cX11_isFor 8 = .ok (.iload 5, 2) := by decide +kernel
theorem dX11_isFor_10 : decode cX11_isFor 10 = .ok (.aload_n 0, 1) := by decide +kernel
theorem dX11_isFor_11 : decode cX11_isFor 11 = .ok (.getfield 107, 3) := by decide +kernel
theorem dX11_isFor_14 : decode cX11_isFor 14 = .ok (.if_icmp .ge 73, 3) := by decide +kernel
theorem dX11_isFor_17 : decode cX11_isFor 17 = .ok (.aload_n 0, 1) := by decide +kernel
theorem dX11_isFor_18 : decode cX11_isFor 18 = .ok (.iload_n 1, 1) := by decide +kernel
theorem dX11_isFor_19 : decode cX11_isFor 19 = .ok (.iload 5, 2) := by decide +kernel
theorem dX11_isFor_21 : decode cX11_isFor 21 = .ok (.invokevirtual 210, 3) := by decide +kernel
theorem dX11_isFor_24 : decode cX11_isFor 24 = .ok (.istore 6, 2) := by decide +kernel
theorem dX11_isFor_26 : decode cX11_isFor 26 = .ok (.iload_n 2, 1) := by decide +kernel
theorem dX11_isFor_27 : decode cX11_isFor 27 = .ok (.iload 5, 2) := by decide +kernel
theorem dX11_isFor_29 : decode cX11_isFor 29 = .ok (.ishr, 1) := by decide +kernel
theorem dX11_isFor_30 : decode cX11_isFor 30 = .ok (.iconst 1, 1) := by decide +kernel
theorem dX11_isFor_31 : decode cX11_isFor 31 = .ok (.iand, 1) := by decide +kernel
theorem dX11_isFor_32 : decode cX11_isFor 32 = .ok (.iconst 1, 1) := by decide +kernel
theorem dX11_isFor_33 : decode cX11_isFor 33 = .ok (.if_icmp .ne 19, 3) := by decide +kernel
theorem dX11_isFor_36 : decode cX11_isFor 36 = .ok (.iload_n 3, 1) := by decide +kernel
theorem dX11_isFor_37 : decode cX11_isFor 37 = .ok (.iconst (-1), 1) := by decide +kernel
theorem dX11_isFor_38 : decode cX11_isFor 38 = .ok (.if_icmp .eq 10, 3) := by decide +kernel
theorem dX11_isFor_41 : decode cX11_isFor 41 = .ok (.iload 6, 2) := by decide +kernel
theorem dX11_isFor_43 : decode cX11_isFor 43 = .ok (.iload 4, 2) := by decide +kernel
theorem dX11_isFor_45 : decode cX11_isFor 45 = .ok (.if_icmp .ge 7, 3) := by decide +kernel
theorem dX11_isFor_48 : decode cX11_isFor 48 = .ok (.iconst 1, 1) := by decide +kernel
theorem dX11_isFor_49 : decode cX11_isFor 49 = .ok (.goto 4, 3) := by decide +kernel
theorem dX11_isFor_52 : decode cX11_isFor 52 = .ok (.iconst 0, 1) := by decide +kernel
theorem dX11_isFor_53 : decode cX11_isFor 53 = .ok (.istore 7, 2) := by decide +kernel
theorem dX11_isFor_55 : decode cX11_isFor 55 = .ok (.iload 7, 2) := by decide +kernel
theorem dX11_isFor_57 : decode cX11_isFor 57 = .ok (.ifCond .eq 8, 3) := by decide +kernel
theorem dX11_isFor_60 : decode cX11_isFor 60 = .ok (.iload 5, 2) := by decide +kernel
theorem dX11_isFor_62 : decode cX11_isFor 62 = .ok (.goto 4, 3) := by decide +kernel
theorem dX11_isFor_65 : decode cX11_isFor 65 = .ok (.iload_n 3, 1) := by decide +kernel
theorem dX11_isFor_66 : decode cX11_isFor 66 = .ok (.istore_n 3, 1) := by decide +kernel
theorem dX11_isFor_67 : decode cX11_isFor 67 = .ok (.iload 7, 2) := by decide +kernel
theorem dX11_isFor_69 : decode cX11_isFor 69 = .ok (.ifCond .eq 8, 3) := by decide +kernel
theorem dX11_isFor_72 : decode cX11_isFor 72 = .ok (.iload 6, 2) := by decide +kernel
theorem dX11_isFor_74 : decode cX11_isFor 74 = .ok (.goto 5, 3) := by decide +kernel
theorem dX11_isFor_77 : decode cX11_isFor 77 = .ok (.iload 4, 2) := by decide +kernel
theorem dX11_isFor_79 : decode cX11_isFor 79 = .ok (.istore 4, 2) := by decide +kernel
theorem dX11_isFor_81 : decode cX11_isFor 81 = .ok (.iinc 5 1, 3) := by decide +kernel
theorem dX11_isFor_84 : decode cX11_isFor 84 = .ok (.goto (-76), 3) := by decide +kernel
theorem dX11_isFor_87 : decode cX11_isFor 87 = .ok (.iload_n 3, 1) := by decide +kernel
theorem dX11_isFor_88 : decode cX11_isFor 88 = .ok (.ireturn, 1) := by decide +kernel
theorem dX11_votes_0 : decode cX11_votes 0 = .ok (.aload_n 0, 1) := by decide +kernel
theorem dX11_votes_1 : decode cX11_votes 1 = .ok (.aload_n 0, 1) := by decide +kernel
theorem dX11_votes_2 : decode cX11_votes 2 = .ok (.iload_n 1, 1) := by decide +kernel
theorem dX11_votes_3 : decode cX11_votes 3 = .ok (.invokevirtual 146, 3) := by decide +kernel
theorem dX11_votes_6 : decode cX11_votes 6 = .ok (.ifCond .eq 7, 3) := by decide +kernel
theorem dX11_votes_9 : decode cX11_votes 9 = .ok (.iconst 0, 1) := by decide +kernel
theorem dX11_votes_10 : decode cX11_votes 10 = .ok (.goto 4, 3) := by decide +kernel
theorem dX11_votes_13 : decode cX11_votes 13 = .ok (.iconst 1, 1) := by decide +kernel
theorem dX11_votes_14 : decode cX11_votes 14 = .ok (.invokevirtual 113, 3) := by decide +kernel
theorem dX11_votes_17 : decode cX11_votes 17 = .ok (.ifCond .eq 5, 3) := by decide +kernel
theorem dX11_votes_20 : decode cX11_votes 20 = .ok (.iconst 0, 1) := by decide +kernel
theorem dX11_votes_21 : decode cX11_votes 21 = .ok (.ireturn, 1) := by decide +kernel
theorem dX11_votes_22 : decode cX11_votes 22 = .ok (.iconst 0, 1) := by decide +kernel
theorem dX11_votes_23 : decode cX11_votes 23 = .ok (.istore_n 2, 1) := by decide +kernel
theorem dX11_votes_24 : decode cX11_votes 24 = .ok (.iconst 0, 1) := by decide +kernel
theorem dX11_votes_25 : decode cX11_votes 25 = .ok (.istore_n 3, 1) := by decide +kernel
theorem dX11_votes_26 : decode cX11_votes 26 = .ok (.iload_n 3, 1) := by decide +kernel
theorem dX11_votes_27 : decode cX11_votes 27 = .ok (.iconst 4, 1) := by decide +kernel
theorem dX11_votes_28 : decode cX11_votes 28 = .ok (.if_icmp .ge 39, 3) := by decide +kernel
theorem dX11_votes_31 : decode cX11_votes 31 = .ok (.iload_n 2, 1) := by decide +kernel
theorem dX11_votes_32 : decode cX11_votes 32 = .ok (.aload_n 0, 1) := by decide +kernel
theorem dX11_votes_33 : decode cX11_votes 33 = .ok (.iload_n 3, 1) := by decide +kernel
theorem dX11_votes_34 : decode cX11_votes 34 = .ok (.iconst 1, 1) := by decide +kernel
theorem dX11_votes_35 : decode cX11_votes 35 = .ok (.aload_n 0, 1) := by decide +kernel
theorem dX11_votes_36 : decode cX11_votes 36 = .ok (.getfield 107, 3) := by decide +kernel
theorem dX11_votes_39 : decode cX11_votes 39 = .ok (.ishl, 1) := by decide +kernel
theorem dX11_votes_40 : decode cX11_votes 40 = .ok (.iconst 1, 1) := by decide +kernel
theorem dX11_votes_41 : decode cX11_votes 41 = .ok (.isub, 1) := by decide +kernel
theorem dX11_votes_42 : decode cX11_votes 42 = .ok (.invokevirtual 213, 3) := by decide +kernel
theorem dX11_votes_45 : decode cX11_votes 45 = .ok (.iload_n 1, 1) := by decide +kernel
theorem dX11_votes_46 : decode cX11_votes 46 = .ok (.if_icmp .ne 12, 3) := by decide +kernel
theorem dX11_votes_49 : decode cX11_votes 49 = .ok (.aload_n 0, 1) := by decide +kernel
theorem dX11_votes_50 : decode cX11_votes 50 = .ok (.getfield 56, 3) := by decide +kernel
theorem dX11_votes_53 : decode cX11_votes 53 = .ok (.iload_n 3, 1) := by decide +kernel
theorem dX11_votes_54 : decode cX11_votes 54 = .ok (.iaload, 1) := by decide +kernel
theorem dX11_votes_55 : decode cX11_votes 55 = .ok (.goto 4, 3) := by decide +kernel
theorem dX11_votes_58 : decode cX11_votes 58 = .ok (.iconst 0, 1) := by decide +kernel
theorem dX11_votes_59 : decode cX11_votes 59 = .ok (.iadd, 1) := by decide +kernel
theorem dX11_votes_60 : decode cX11_votes 60 = .ok (.istore_n 2, 1) := by decide +kernel
theorem dX11_votes_61 : decode cX11_votes 61 = .ok (.iinc 3 1, 3) := by decide +kernel
theorem dX11_votes_64 : decode cX11_votes 64 = .ok (.goto (-38), 3) := by decide +kernel
theorem dX11_votes_67 : decode cX11_votes 67 = .ok (.iload_n 2, 1) := by decide +kernel
theorem dX11_votes_68 : decode cX11_votes 68 = .ok (.ireturn, 1) := by decide +kernel
theorem dX11_elected_0 : decode cX11_elected 0 = .ok (.aload_n 0, 1) := by decide +kernel
theorem dX11_elected_1 : decode cX11_elected 1 = .ok (.aload_n 0, 1) := by decide +kernel
theorem dX11_elected_2 : decode cX11_elected 2 = .ok (.getfield 107, 3) := by decide +kernel
theorem dX11_elected_5 : decode cX11_elected 5 = .ok (.ifCond .ne 7, 3) := by decide +kernel
theorem dX11_elected_8 : decode cX11_elected 8 = .ok (.iconst 1, 1) := by decide +kernel
theorem dX11_elected_9 : decode cX11_elected 9 = .ok (.goto 4, 3) := by decide +kernel
theorem dX11_elected_12 : decode cX11_elected 12 = .ok (.iconst 0, 1) := by decide +kernel
theorem dX11_elected_13 : decode cX11_elected 13 = .ok (.invokevirtual 113, 3) := by decide +kernel
theorem dX11_elected_16 : decode cX11_elected 16 = .ok (.ifCond .eq 5, 3) := by decide +kernel
theorem dX11_elected_19 : decode cX11_elected 19 = .ok (.iconst 0, 1) := by decide +kernel
theorem dX11_elected_20 : decode cX11_elected 20 = .ok (.ireturn, 1) := by decide +kernel
theorem dX11_elected_21 : decode cX11_elected 21 = .ok (.iconst 0, 1) := by decide +kernel
theorem dX11_elected_22 : decode cX11_elected 22 = .ok (.istore_n 1, 1) := by decide +kernel
theorem dX11_elected_23 : decode cX11_elected 23 = .ok (.iconst 0, 1) := by decide +kernel
theorem dX11_elected_24 : decode cX11_elected 24 = .ok (.istore_n 2, 1) := by decide +kernel
theorem dX11_elected_25 : decode cX11_elected 25 = .ok (.iload_n 2, 1) := by decide +kernel
theorem dX11_elected_26 : decode cX11_elected 26 = .ok (.iconst 4, 1) := by decide +kernel
theorem dX11_elected_27 : decode cX11_elected 27 = .ok (.if_icmp .ge 18, 3) := by decide +kernel
theorem dX11_elected_30 : decode cX11_elected 30 = .ok (.iload_n 1, 1) := by decide +kernel
theorem dX11_elected_31 : decode cX11_elected 31 = .ok (.aload_n 0, 1) := by decide +kernel
theorem dX11_elected_32 : decode cX11_elected 32 = .ok (.getfield 56, 3) := by decide +kernel
theorem dX11_elected_35 : decode cX11_elected 35 = .ok (.iload_n 2, 1) := by decide +kernel
theorem dX11_elected_36 : decode cX11_elected 36 = .ok (.iaload, 1) := by decide +kernel
theorem dX11_elected_37 : decode cX11_elected 37 = .ok (.iadd, 1) := by decide +kernel
theorem dX11_elected_38 : decode cX11_elected 38 = .ok (.istore_n 1, 1) := by decide +kernel
theorem dX11_elected_39 : decode cX11_elected 39 = .ok (.iinc 2 1, 3) := by decide +kernel
theorem dX11_elected_42 : decode cX11_elected 42 = .ok (.goto (-17), 3) := by decide +kernel
theorem dX11_elected_45 : decode cX11_elected 45 = .ok (.iconst 1, 1) := by decide +kernel
theorem dX11_elected_46 : decode cX11_elected 46 = .ok (.aload_n 0, 1) := by decide +kernel
theorem dX11_elected_47 : decode cX11_elected 47 = .ok (.getfield 107, 3) := by decide +kernel
theorem dX11_elected_50 : decode cX11_elected 50 = .ok (.ishl, 1) := by decide +kernel
theorem dX11_elected_51 : decode cX11_elected 51 = .ok (.iconst 1, 1) := by decide +kernel
theorem dX11_elected_52 : decode cX11_elected 52 = .ok (.isub, 1) := by decide +kernel
theorem dX11_elected_53 : decode cX11_elected 53 = .ok (.istore_n 2, 1) := by decide +kernel
theorem dX11_elected_54 : decode cX11_elected 54 = .ok (.iload_n 2, 1) := by decide +kernel
theorem dX11_elected_55 : decode cX11_elected 55 = .ok (.ifCond .le 153, 3) := by decide +kernel
theorem dX11_elected_58 : decode cX11_elected 58 = .ok (.iload_n 1, 1) := by decide +kernel
theorem dX11_elected_59 : decode cX11_elected 59 = .ok (.ifCond .le 149, 3) := by decide +kernel
theorem dX11_elected_62 : decode cX11_elected 62 = .ok (.iconst (-1), 1) := by decide +kernel
theorem dX11_elected_63 : decode cX11_elected 63 = .ok (.istore_n 3, 1) := by decide +kernel
theorem dX11_elected_64 : decode cX11_elected 64 = .ok (.iconst 0, 1) := by decide +kernel
theorem dX11_elected_65 : decode cX11_elected 65 = .ok (.istore 4, 2) := by decide +kernel
theorem dX11_elected_67 : decode cX11_elected 67 = .ok (.iconst 0, 1) := by decide +kernel
theorem dX11_elected_68 : decode cX11_elected 68 = .ok (.istore 5, 2) := by decide +kernel
theorem dX11_elected_70 : decode cX11_elected 70 = .ok (.iload 5, 2) := by decide +kernel
theorem dX11_elected_72 : decode cX11_elected 72 = .ok (.aload_n 0, 1) := by decide +kernel
theorem dX11_elected_73 : decode cX11_elected 73 = .ok (.getfield 107, 3) := by decide +kernel
theorem dX11_elected_76 : decode cX11_elected 76 = .ok (.if_icmp .ge 121, 3) := by decide +kernel
theorem dX11_elected_79 : decode cX11_elected 79 = .ok (.iconst 0, 1) := by decide +kernel
theorem dX11_elected_80 : decode cX11_elected 80 = .ok (.istore 6, 2) := by decide +kernel
theorem dX11_elected_82 : decode cX11_elected 82 = .ok (.iconst 0, 1) := by decide +kernel
theorem dX11_elected_83 : decode cX11_elected 83 = .ok (.istore 7, 2) := by decide +kernel
theorem dX11_elected_85 : decode cX11_elected 85 = .ok (.iload 7, 2) := by decide +kernel
theorem dX11_elected_87 : decode cX11_elected 87 = .ok (.iconst 4, 1) := by decide +kernel
theorem dX11_elected_88 : decode cX11_elected 88 = .ok (.if_icmp .ge 37, 3) := by decide +kernel
theorem dX11_elected_91 : decode cX11_elected 91 = .ok (.iload 6, 2) := by decide +kernel
theorem dX11_elected_93 : decode cX11_elected 93 = .ok (.aload_n 0, 1) := by decide +kernel
theorem dX11_elected_94 : decode cX11_elected 94 = .ok (.iload 7, 2) := by decide +kernel
theorem dX11_elected_96 : decode cX11_elected 96 = .ok (.iload_n 2, 1) := by decide +kernel
theorem dX11_elected_97 : decode cX11_elected 97 = .ok (.invokevirtual 213, 3) := by decide +kernel
theorem dX11_elected_100 : decode cX11_elected 100 = .ok (.iload 5, 2) := by decide +kernel
theorem dX11_elected_102 : decode cX11_elected 102 = .ok (.if_icmp .ne 13, 3) := by decide +kernel
theorem dX11_elected_105 : decode cX11_elected 105 = .ok (.aload_n 0, 1) := by decide +kernel
theorem dX11_elected_106 : decode cX11_elected 106 = .ok (.getfield 56, 3) := by decide +kernel
theorem dX11_elected_109 : decode cX11_elected 109 = .ok (.iload 7, 2) := by decide +kernel
theorem dX11_elected_111 : decode cX11_elected 111 = .ok (.iaload, 1) := by decide +kernel
theorem dX11_elected_112 : decode cX11_elected 112 = .ok (.goto 4, 3) := by decide +kernel
theorem dX11_elected_115 : decode cX11_elected 115 = .ok (.iconst 0, 1) := by decide +kernel
theorem dX11_elected_116 : decode cX11_elected 116 = .ok (.iadd, 1) := by decide +kernel
theorem dX11_elected_117 : decode cX11_elected 117 = .ok (.istore 6, 2) := by decide +kernel
theorem dX11_elected_119 : decode cX11_elected 119 = .ok (.iinc 7 1, 3) := by decide +kernel
theorem dX11_elected_122 : decode cX11_elected 122 = .ok (.goto (-37), 3) := by decide +kernel
theorem dX11_elected_125 : decode cX11_elected 125 = .ok (.iconst 2, 1) := by decide +kernel
theorem dX11_elected_126 : decode cX11_elected 126 = .ok (.iload 6, 2) := by decide +kernel
theorem dX11_elected_128 : decode cX11_elected 128 = .ok (.imul, 1) := by decide +kernel
theorem dX11_elected_129 : decode cX11_elected 129 = .ok (.iload_n 1, 1) := by decide +kernel
theorem dX11_elected_130 : decode cX11_elected 130 = .ok (.if_icmp .le 6, 3) := by decide +kernel
theorem dX11_elected_133 : decode cX11_elected 133 = .ok (.iload 5, 2) := by decide +kernel
theorem dX11_elected_135 : decode cX11_elected 135 = .ok (.ireturn, 1) := by decide +kernel
theorem dX11_elected_136 : decode cX11_elected 136 = .ok (.iload_n 2, 1) := by decide +kernel
theorem dX11_elected_137 : decode cX11_elected 137 = .ok (.iload 5, 2) := by decide +kernel
theorem dX11_elected_139 : decode cX11_elected 139 = .ok (.ishr, 1) := by decide +kernel
theorem dX11_elected_140 : decode cX11_elected 140 = .ok (.iconst 1, 1) := by decide +kernel
theorem dX11_elected_141 : decode cX11_elected 141 = .ok (.iand, 1) := by decide +kernel
theorem dX11_elected_142 : decode cX11_elected 142 = .ok (.iconst 1, 1) := by decide +kernel
theorem dX11_elected_143 : decode cX11_elected 143 = .ok (.if_icmp .ne 19, 3) := by decide +kernel
theorem dX11_elected_146 : decode cX11_elected 146 = .ok (.iload_n 3, 1) := by decide +kernel
theorem dX11_elected_147 : decode cX11_elected 147 = .ok (.iconst (-1), 1) := by decide +kernel
theorem dX11_elected_148 : decode cX11_elected 148 = .ok (.if_icmp .eq 10, 3) := by decide +kernel
theorem dX11_elected_151 : decode cX11_elected 151 = .ok (.iload 6, 2) := by decide +kernel
theorem dX11_elected_153 : decode cX11_elected 153 = .ok (.iload 4, 2) := by decide +kernel
theorem dX11_elected_155 : decode cX11_elected 155 = .ok (.if_icmp .gt 7, 3) := by decide +kernel
theorem dX11_elected_158 : decode cX11_elected 158 = .ok (.iconst 1, 1) := by decide +kernel
theorem dX11_elected_159 : decode cX11_elected 159 = .ok (.goto 4, 3) := by decide +kernel
theorem dX11_elected_162 : decode cX11_elected 162 = .ok (.iconst 0, 1) := by decide +kernel
theorem dX11_elected_163 : decode cX11_elected 163 = .ok (.istore 7, 2) := by decide +kernel
theorem dX11_elected_165 : decode cX11_elected 165 = .ok (.iload 7, 2) := by decide +kernel
theorem dX11_elected_167 : decode cX11_elected 167 = .ok (.ifCond .eq 8, 3) := by decide +kernel
theorem dX11_elected_170 : decode cX11_elected 170 = .ok (.iload 5, 2) := by decide +kernel
theorem dX11_elected_172 : decode cX11_elected 172 = .ok (.goto 4, 3) := by decide +kernel
theorem dX11_elected_175 : decode cX11_elected 175 = .ok (.iload_n 3, 1) := by decide +kernel
theorem dX11_elected_176 : decode cX11_elected 176 = .ok (.istore_n 3, 1) := by decide +kernel
theorem dX11_elected_177 : decode cX11_elected 177 = .ok (.iload 7, 2) := by decide +kernel
theorem dX11_elected_179 : decode cX11_elected 179 = .ok (.ifCond .eq 8, 3) := by decide +kernel
theorem dX11_elected_182 : decode cX11_elected 182 = .ok (.iload 6, 2) := by decide +kernel
theorem dX11_elected_184 : decode cX11_elected 184 = .ok (.goto 5, 3) := by decide +kernel
theorem dX11_elected_187 : decode cX11_elected 187 = .ok (.iload 4, 2) := by decide +kernel
theorem dX11_elected_189 : decode cX11_elected 189 = .ok (.istore 4, 2) := by decide +kernel
theorem dX11_elected_191 : decode cX11_elected 191 = .ok (.iinc 5 1, 3) := by decide +kernel
theorem dX11_elected_194 : decode cX11_elected 194 = .ok (.goto (-124), 3) := by decide +kernel
theorem dX11_elected_197 : decode cX11_elected 197 = .ok (.iload_n 2, 1) := by decide +kernel
theorem dX11_elected_198 : decode cX11_elected 198 = .ok (.iconst 1, 1) := by decide +kernel
theorem dX11_elected_199 : decode cX11_elected 199 = .ok (.iload_n 3, 1) := by decide +kernel
theorem dX11_elected_200 : decode cX11_elected 200 = .ok (.ishl, 1) := by decide +kernel
theorem dX11_elected_201 : decode cX11_elected 201 = .ok (.iconst (-1), 1) := by decide +kernel
theorem dX11_elected_202 : decode cX11_elected 202 = .ok (.ixor, 1) := by decide +kernel
theorem dX11_elected_203 : decode cX11_elected 203 = .ok (.iand, 1) := by decide +kernel
theorem dX11_elected_204 : decode cX11_elected 204 = .ok (.istore_n 2, 1) := by decide +kernel
theorem dX11_elected_205 : decode cX11_elected 205 = .ok (.goto (-151), 3) := by decide +kernel
theorem dX11_elected_208 : decode cX11_elected 208 = .ok (.iconst (-1), 1) := by decide +kernel
theorem dX11_elected_209 : decode cX11_elected 209 = .ok (.ireturn, 1) := by decide +kernel
theorem dX11_way_0 : decode cX11_way 0 = .ok (.iconst 0, 1) := by decide +kernel
theorem dX11_way_1 : decode cX11_way 1 = .ok (.istore_n 3, 1) := by decide +kernel
theorem dX11_way_2 : decode cX11_way 2 = .ok (.iload_n 3, 1) := by decide +kernel
theorem dX11_way_3 : decode cX11_way 3 = .ok (.aload_n 0, 1) := by decide +kernel
theorem dX11_way_4 : decode cX11_way 4 = .ok (.getfield 68, 3) := by decide +kernel
theorem dX11_way_7 : decode cX11_way 7 = .ok (.iload_n 2, 1) := by decide +kernel
theorem dX11_way_8 : decode cX11_way 8 = .ok (.iaload, 1) := by decide +kernel
theorem dX11_way_9 : decode cX11_way 9 = .ok (.if_icmp .gt 16, 3) := by decide +kernel
theorem dX11_way_12 : decode cX11_way 12 = .ok (.aload_n 0, 1) := by decide +kernel
theorem dX11_way_13 : decode cX11_way 13 = .ok (.getfield 93, 3) := by decide +kernel
theorem dX11_way_16 : decode cX11_way 16 = .ok (.iload_n 3, 1) := by decide +kernel
theorem dX11_way_17 : decode cX11_way 17 = .ok (.iload_n 3, 1) := by decide +kernel
theorem dX11_way_18 : decode cX11_way 18 = .ok (.iastore, 1) := by decide +kernel
theorem dX11_way_19 : decode cX11_way 19 = .ok (.iinc 3 1, 3) := by decide +kernel
theorem dX11_way_22 : decode cX11_way 22 = .ok (.goto (-20), 3) := by decide +kernel
theorem dX11_way_25 : decode cX11_way 25 = .ok (.iconst 0, 1) := by decide +kernel
theorem dX11_way_26 : decode cX11_way 26 = .ok (.istore_n 3, 1) := by decide +kernel
theorem dX11_way_27 : decode cX11_way 27 = .ok (.iload_n 3, 1) := by decide +kernel
theorem dX11_way_28 : decode cX11_way 28 = .ok (.aload_n 0, 1) := by decide +kernel
theorem dX11_way_29 : decode cX11_way 29 = .ok (.getfield 68, 3) := by decide +kernel
theorem dX11_way_32 : decode cX11_way 32 = .ok (.iload_n 1, 1) := by decide +kernel
theorem dX11_way_33 : decode cX11_way 33 = .ok (.iaload, 1) := by decide +kernel
theorem dX11_way_34 : decode cX11_way 34 = .ok (.if_icmp .ge 125, 3) := by decide +kernel
theorem dX11_way_37 : decode cX11_way 37 = .ok (.aload_n 0, 1) := by decide +kernel
theorem dX11_way_38 : decode cX11_way 38 = .ok (.getfield 93, 3) := by decide +kernel
theorem dX11_way_41 : decode cX11_way 41 = .ok (.iconst 0, 1) := by decide +kernel
theorem dX11_way_42 : decode cX11_way 42 = .ok (.iaload, 1) := by decide +kernel
theorem dX11_way_43 : decode cX11_way 43 = .ok (.istore 4, 2) := by decide +kernel
theorem dX11_way_45 : decode cX11_way 45 = .ok (.aload_n 0, 1) := by decide +kernel
theorem dX11_way_46 : decode cX11_way 46 = .ok (.getfield 93, 3) := by decide +kernel
theorem dX11_way_49 : decode cX11_way 49 = .ok (.iconst 0, 1) := by decide +kernel
theorem dX11_way_50 : decode cX11_way 50 = .ok (.iload_n 3, 1) := by decide +kernel
theorem dX11_way_51 : decode cX11_way 51 = .ok (.iconst 1, 1) := by decide +kernel
theorem dX11_way_52 : decode cX11_way 52 = .ok (.iadd, 1) := by decide +kernel
theorem dX11_way_53 : decode cX11_way 53 = .ok (.iastore, 1) := by decide +kernel
theorem dX11_way_54 : decode cX11_way 54 = .ok (.iconst 1, 1) := by decide +kernel
theorem dX11_way_55 : decode cX11_way 55 = .ok (.istore 5, 2) := by decide +kernel
theorem dX11_way_57 : decode cX11_way 57 = .ok (.iload 5, 2) := by decide +kernel
theorem dX11_way_59 : decode cX11_way 59 = .ok (.aload_n 0, 1) := by decide +kernel
theorem dX11_way_60 : decode cX11_way 60 = .ok (.getfield 68, 3) := by decide +kernel
theorem dX11_way_63 : decode cX11_way 63 = .ok (.iload_n 2, 1) := by decide +kernel
theorem dX11_way_64 : decode cX11_way 64 = .ok (.iaload, 1) := by decide +kernel
theorem dX11_way_65 : decode cX11_way 65 = .ok (.if_icmp .gt 88, 3) := by decide +kernel
theorem dX11_way_68 : decode cX11_way 68 = .ok (.aload_n 0, 1) := by decide +kernel
theorem dX11_way_69 : decode cX11_way 69 = .ok (.getfield 93, 3) := by decide +kernel
theorem dX11_way_72 : decode cX11_way 72 = .ok (.iload 5, 2) := by decide +kernel
theorem dX11_way_74 : decode cX11_way 74 = .ok (.iaload, 1) := by decide +kernel
theorem dX11_way_75 : decode cX11_way 75 = .ok (.istore 6, 2) := by decide +kernel
theorem dX11_way_77 : decode cX11_way 77 = .ok (.iload 4, 2) := by decide +kernel
theorem dX11_way_79 : decode cX11_way 79 = .ok (.aload_n 0, 1) := by decide +kernel
theorem dX11_way_80 : decode cX11_way 80 = .ok (.getfield 65, 3) := by decide +kernel
theorem dX11_way_83 : decode cX11_way 83 = .ok (.bipush 16, 2) := by decide +kernel
theorem dX11_way_85 : decode cX11_way 85 = .ok (.iload_n 1, 1) := by decide +kernel
theorem dX11_way_86 : decode cX11_way 86 = .ok (.imul, 1) := by decide +kernel
theorem dX11_way_87 : decode cX11_way 87 = .ok (.iload_n 3, 1) := by decide +kernel
theorem dX11_way_88 : decode cX11_way 88 = .ok (.iadd, 1) := by decide +kernel
theorem dX11_way_89 : decode cX11_way 89 = .ok (.iaload, 1) := by decide +kernel
theorem dX11_way_90 : decode cX11_way 90 = .ok (.aload_n 0, 1) := by decide +kernel
theorem dX11_way_91 : decode cX11_way 91 = .ok (.getfield 65, 3) := by decide +kernel
theorem dX11_way_94 : decode cX11_way 94 = .ok (.bipush 16, 2) := by decide +kernel
theorem dX11_way_96 : decode cX11_way 96 = .ok (.iload_n 2, 1) := by decide +kernel
theorem dX11_way_97 : decode cX11_way 97 = .ok (.imul, 1) := by decide +kernel
theorem dX11_way_98 : decode cX11_way 98 = .ok (.iload 5, 2) := by decide +kernel
theorem dX11_way_100 : decode cX11_way 100 = .ok (.iadd, 1) := by decide +kernel
theorem dX11_way_101 : decode cX11_way 101 = .ok (.iconst 1, 1) := by decide +kernel
theorem dX11_way_102 : decode cX11_way 102 = .ok (.isub, 1) := by decide +kernel
theorem dX11_way_103 : decode cX11_way 103 = .ok (.iaload, 1) := by decide +kernel
theorem dX11_way_104 : decode cX11_way 104 = .ok (.if_icmp .ne 7, 3) := by decide +kernel
theorem dX11_way_107 : decode cX11_way 107 = .ok (.iconst 0, 1) := by decide +kernel
theorem dX11_way_108 : decode cX11_way 108 = .ok (.goto 4, 3) := by decide +kernel
theorem dX11_way_111 : decode cX11_way 111 = .ok (.iconst 1, 1) := by decide +kernel
theorem dX11_way_112 : decode cX11_way 112 = .ok (.iadd, 1) := by decide +kernel
theorem dX11_way_113 : decode cX11_way 113 = .ok (.istore 7, 2) := by decide +kernel
theorem dX11_way_115 : decode cX11_way 115 = .ok (.aload_n 0, 1) := by decide +kernel
theorem dX11_way_116 : decode cX11_way 116 = .ok (.getfield 93, 3) := by decide +kernel
theorem dX11_way_119 : decode cX11_way 119 = .ok (.iload 5, 2) := by decide +kernel
theorem dX11_way_121 : decode cX11_way 121 = .ok (.iload 7, 2) := by decide +kernel
theorem dX11_way_123 : decode cX11_way 123 = .ok (.iload 6, 2) := by decide +kernel
theorem dX11_way_125 : decode cX11_way 125 = .ok (.aload_n 0, 1) := by decide +kernel
theorem dX11_way_126 : decode cX11_way 126 = .ok (.getfield 93, 3) := by decide +kernel
theorem dX11_way_129 : decode cX11_way 129 = .ok (.iload 5, 2) := by decide +kernel
theorem dX11_way_131 : decode cX11_way 131 = .ok (.iconst 1, 1) := by decide +kernel
theorem dX11_way_132 : decode cX11_way 132 = .ok (.isub, 1) := by decide +kernel
theorem dX11_way_133 : decode cX11_way 133 = .ok (.iaload, 1) := by decide +kernel
theorem dX11_way_134 : decode cX11_way 134 = .ok (.invokestatic 183, 3) := by decide +kernel
theorem dX11_way_137 : decode cX11_way 137 = .ok (.iconst 1, 1) := by decide +kernel
theorem dX11_way_138 : decode cX11_way 138 = .ok (.iadd, 1) := by decide +kernel
theorem dX11_way_139 : decode cX11_way 139 = .ok (.invokestatic 183, 3) := by decide +kernel
theorem dX11_way_142 : decode cX11_way 142 = .ok (.iastore, 1) := by decide +kernel
theorem dX11_way_143 : decode cX11_way 143 = .ok (.iload 6, 2) := by decide +kernel
theorem dX11_way_145 : decode cX11_way 145 = .ok (.istore 4, 2) := by decide +kernel
theorem dX11_way_147 : decode cX11_way 147 = .ok (.iinc 5 1, 3) := by decide +kernel
theorem dX11_way_150 : decode cX11_way 150 = .ok (.goto (-93), 3) := by decide +kernel
theorem dX11_way_153 : decode cX11_way 153 = .ok (.iinc 3 1, 3) := by decide +kernel
theorem dX11_way_156 : decode cX11_way 156 = .ok (.goto (-129), 3) := by decide +kernel
theorem dX11_way_159 : decode cX11_way 159 = .ok (.aload_n 0, 1) := by decide +kernel
theorem dX11_way_160 : decode cX11_way 160 = .ok (.getfield 93, 3) := by decide +kernel
theorem dX11_way_163 : decode cX11_way 163 = .ok (.aload_n 0, 1) := by decide +kernel
theorem dX11_way_164 : decode cX11_way 164 = .ok (.getfield 68, 3) := by decide +kernel
theorem dX11_way_167 : decode cX11_way 167 = .ok (.iload_n 2, 1) := by decide +kernel
theorem dX11_way_168 : decode cX11_way 168 = .ok (.iaload, 1) := by decide +kernel
theorem dX11_way_169 : decode cX11_way 169 = .ok (.iaload, 1) := by decide +kernel
theorem dX11_way_170 : decode cX11_way 170 = .ok (.ireturn, 1) := by decide +kernel
theorem dX11_reform_0 : decode cX11_reform 0 = .ok (.aload_n 0, 1) := by decide +kernel
theorem dX11_reform_1 : decode cX11_reform 1 = .ok (.aload_n 0, 1) := by decide +kernel
theorem dX11_reform_2 : decode cX11_reform 2 = .ok (.iload_n 1, 1) := by decide +kernel
theorem dX11_reform_3 : decode cX11_reform 3 = .ok (.invokevirtual 146, 3) := by decide +kernel
theorem dX11_reform_6 : decode cX11_reform 6 = .ok (.ifCond .eq 15, 3) := by decide +kernel
theorem dX11_reform_9 : decode cX11_reform 9 = .ok (.aload_n 0, 1) := by decide +kernel
theorem dX11_reform_10 : decode cX11_reform 10 = .ok (.iload_n 2, 1) := by decide +kernel
theorem dX11_reform_11 : decode cX11_reform 11 = .ok (.invokevirtual 146, 3) := by decide +kernel
theorem dX11_reform_14 : decode cX11_reform 14 = .ok (.ifCond .eq 7, 3) := by decide +kernel
theorem dX11_reform_17 : decode cX11_reform 17 = .ok (.iconst 0, 1) := by decide +kernel
theorem dX11_reform_18 : decode cX11_reform 18 = .ok (.goto 4, 3) := by decide +kernel
theorem dX11_reform_21 : decode cX11_reform 21 = .ok (.iconst 1, 1) := by decide +kernel
theorem dX11_reform_22 : decode cX11_reform 22 = .ok (.invokevirtual 113, 3) := by decide +kernel
theorem dX11_reform_25 : decode cX11_reform 25 = .ok (.ifCond .eq 5, 3) := by decide +kernel
theorem dX11_reform_28 : decode cX11_reform 28 = .ok (.iconst 0, 1) := by decide +kernel
theorem dX11_reform_29 : decode cX11_reform 29 = .ok (.ireturn, 1) := by decide +kernel
theorem dX11_reform_30 : decode cX11_reform 30 = .ok (.aload_n 0, 1) := by decide +kernel
theorem dX11_reform_31 : decode cX11_reform 31 = .ok (.iload_n 1, 1) := by decide +kernel
theorem dX11_reform_32 : decode cX11_reform 32 = .ok (.aload_n 0, 1) := by decide +kernel
theorem dX11_reform_33 : decode cX11_reform 33 = .ok (.getfield 41, 3) := by decide +kernel
theorem dX11_reform_36 : decode cX11_reform 36 = .ok (.iload_n 1, 1) := by decide +kernel
theorem dX11_reform_37 : decode cX11_reform 37 = .ok (.iaload, 1) := by decide +kernel
theorem dX11_reform_38 : decode cX11_reform 38 = .ok (.iconst 0, 1) := by decide +kernel
theorem dX11_reform_39 : decode cX11_reform 39 = .ok (.invokevirtual 156, 3) := by decide +kernel
theorem dX11_reform_42 : decode cX11_reform 42 = .ok (.aload_n 0, 1) := by decide +kernel
theorem dX11_reform_43 : decode cX11_reform 43 = .ok (.iload_n 2, 1) := by decide +kernel
theorem dX11_reform_44 : decode cX11_reform 44 = .ok (.aload_n 0, 1) := by decide +kernel
theorem dX11_reform_45 : decode cX11_reform 45 = .ok (.getfield 41, 3) := by decide +kernel
theorem dX11_reform_48 : decode cX11_reform 48 = .ok (.iload_n 2, 1) := by decide +kernel
theorem dX11_reform_49 : decode cX11_reform 49 = .ok (.iaload, 1) := by decide +kernel
theorem dX11_reform_50 : decode cX11_reform 50 = .ok (.bipush 20, 2) := by decide +kernel
theorem dX11_reform_52 : decode cX11_reform 52 = .ok (.invokevirtual 156, 3) := by decide +kernel
theorem dX11_reform_55 : decode cX11_reform 55 = .ok (.iconst 0, 1) := by decide +kernel
theorem dX11_reform_56 : decode cX11_reform 56 = .ok (.istore_n 3, 1) := by decide +kernel
theorem dX11_reform_57 : decode cX11_reform 57 = .ok (.iconst 0, 1) := by decide +kernel
theorem dX11_reform_58 : decode cX11_reform 58 = .ok (.istore 4, 2) := by decide +kernel
theorem dX11_reform_60 : decode cX11_reform 60 = .ok (.iload 4, 2) := by decide +kernel
theorem dX11_reform_62 : decode cX11_reform 62 = .ok (.aload_n 0, 1) := by decide +kernel
theorem dX11_reform_63 : decode cX11_reform 63 = .ok (.getfield 100, 3) := by decide +kernel
theorem dX11_reform_66 : decode cX11_reform 66 = .ok (.if_icmp .ge 31, 3) := by decide +kernel
theorem dX11_reform_69 : decode cX11_reform 69 = .ok (.iload_n 3, 1) := by decide +kernel
theorem dX11_reform_70 : decode cX11_reform 70 = .ok (.aload_n 0, 1) := by decide +kernel
theorem dX11_reform_71 : decode cX11_reform 71 = .ok (.getfield 19, 3) := by decide +kernel
theorem dX11_reform_74 : decode cX11_reform 74 = .ok (.iload 4, 2) := by decide +kernel
theorem dX11_reform_76 : decode cX11_reform 76 = .ok (.iaload, 1) := by decide +kernel
theorem dX11_reform_77 : decode cX11_reform 77 = .ok (.aload_n 0, 1) := by decide +kernel
theorem dX11_reform_78 : decode cX11_reform 78 = .ok (.iload 4, 2) := by decide +kernel
theorem dX11_reform_80 : decode cX11_reform 80 = .ok (.bipush 20, 2) := by decide +kernel
theorem dX11_reform_82 : decode cX11_reform 82 = .ok (.iload 4, 2) := by decide +kernel
theorem dX11_reform_84 : decode cX11_reform 84 = .ok (.iadd, 1) := by decide +kernel
theorem dX11_reform_85 : decode cX11_reform 85 = .ok (.invokevirtual 216, 3) := by decide +kernel
theorem dX11_reform_88 : decode cX11_reform 88 = .ok (.imul, 1) := by decide +kernel
theorem dX11_reform_89 : decode cX11_reform 89 = .ok (.iadd, 1) := by decide +kernel
theorem dX11_reform_90 : decode cX11_reform 90 = .ok (.istore_n 3, 1) := by decide +kernel
theorem dX11_reform_91 : decode cX11_reform 91 = .ok (.iinc 4 1, 3) := by decide +kernel
theorem dX11_reform_94 : decode cX11_reform 94 = .ok (.goto (-34), 3) := by decide +kernel
theorem dX11_reform_97 : decode cX11_reform 97 = .ok (.iload_n 3, 1) := by decide +kernel
theorem dX11_reform_98 : decode cX11_reform 98 = .ok (.ireturn, 1) := by decide +kernel
theorem dX11_lost_0 : decode cX11_lost 0 = .ok (.aload_n 0, 1) := by decide +kernel
theorem dX11_lost_1 : decode cX11_lost 1 = .ok (.aload_n 0, 1) := by decide +kernel
theorem dX11_lost_2 : decode cX11_lost 2 = .ok (.iload_n 1, 1) := by decide +kernel
theorem dX11_lost_3 : decode cX11_lost 3 = .ok (.invokevirtual 146, 3) := by decide +kernel
theorem dX11_lost_6 : decode cX11_lost 6 = .ok (.ifCond .eq 15, 3) := by decide +kernel
theorem dX11_lost_9 : decode cX11_lost 9 = .ok (.aload_n 0, 1) := by decide +kernel
theorem dX11_lost_10 : decode cX11_lost 10 = .ok (.iload_n 2, 1) := by decide +kernel
theorem dX11_lost_11 : decode cX11_lost 11 = .ok (.invokevirtual 146, 3) := by decide +kernel
theorem dX11_lost_14 : decode cX11_lost 14 = .ok (.ifCond .eq 7, 3) := by decide +kernel
theorem dX11_lost_17 : decode cX11_lost 17 = .ok (.iconst 0, 1) := by decide +kernel
theorem dX11_lost_18 : decode cX11_lost 18 = .ok (.goto 4, 3) := by decide +kernel
theorem dX11_lost_21 : decode cX11_lost 21 = .ok (.iconst 1, 1) := by decide +kernel
theorem dX11_lost_22 : decode cX11_lost 22 = .ok (.invokevirtual 113, 3) := by decide +kernel
theorem dX11_lost_25 : decode cX11_lost 25 = .ok (.ifCond .eq 5, 3) := by decide +kernel
theorem dX11_lost_28 : decode cX11_lost 28 = .ok (.iconst 0, 1) := by decide +kernel
theorem dX11_lost_29 : decode cX11_lost 29 = .ok (.ireturn, 1) := by decide +kernel
theorem dX11_lost_30 : decode cX11_lost 30 = .ok (.aload_n 0, 1) := by decide +kernel
theorem dX11_lost_31 : decode cX11_lost 31 = .ok (.iload_n 1, 1) := by decide +kernel
theorem dX11_lost_32 : decode cX11_lost 32 = .ok (.aload_n 0, 1) := by decide +kernel
theorem dX11_lost_33 : decode cX11_lost 33 = .ok (.getfield 41, 3) := by decide +kernel
theorem dX11_lost_36 : decode cX11_lost 36 = .ok (.iload_n 1, 1) := by decide +kernel
theorem dX11_lost_37 : decode cX11_lost 37 = .ok (.iaload, 1) := by decide +kernel
theorem dX11_lost_38 : decode cX11_lost 38 = .ok (.iconst 0, 1) := by decide +kernel
theorem dX11_lost_39 : decode cX11_lost 39 = .ok (.invokevirtual 156, 3) := by decide +kernel
theorem dX11_lost_42 : decode cX11_lost 42 = .ok (.aload_n 0, 1) := by decide +kernel
theorem dX11_lost_43 : decode cX11_lost 43 = .ok (.iload_n 2, 1) := by decide +kernel
theorem dX11_lost_44 : decode cX11_lost 44 = .ok (.aload_n 0, 1) := by decide +kernel
theorem dX11_lost_45 : decode cX11_lost 45 = .ok (.getfield 41, 3) := by decide +kernel
theorem dX11_lost_48 : decode cX11_lost 48 = .ok (.iload_n 2, 1) := by decide +kernel
theorem dX11_lost_49 : decode cX11_lost 49 = .ok (.iaload, 1) := by decide +kernel
theorem dX11_lost_50 : decode cX11_lost 50 = .ok (.bipush 20, 2) := by decide +kernel
theorem dX11_lost_52 : decode cX11_lost 52 = .ok (.invokevirtual 156, 3) := by decide +kernel
theorem dX11_lost_55 : decode cX11_lost 55 = .ok (.iconst 0, 1) := by decide +kernel
theorem dX11_lost_56 : decode cX11_lost 56 = .ok (.istore_n 3, 1) := by decide +kernel
theorem dX11_lost_57 : decode cX11_lost 57 = .ok (.iconst 0, 1) := by decide +kernel
theorem dX11_lost_58 : decode cX11_lost 58 = .ok (.istore 4, 2) := by decide +kernel
theorem dX11_lost_60 : decode cX11_lost 60 = .ok (.iload 4, 2) := by decide +kernel
theorem dX11_lost_62 : decode cX11_lost 62 = .ok (.aload_n 0, 1) := by decide +kernel
theorem dX11_lost_63 : decode cX11_lost 63 = .ok (.getfield 100, 3) := by decide +kernel
theorem dX11_lost_66 : decode cX11_lost 66 = .ok (.if_icmp .ge 89, 3) := by decide +kernel
theorem dX11_lost_69 : decode cX11_lost 69 = .ok (.iconst 0, 1) := by decide +kernel
theorem dX11_lost_70 : decode cX11_lost 70 = .ok (.istore 5, 2) := by decide +kernel
theorem dX11_lost_72 : decode cX11_lost 72 = .ok (.iconst 0, 1) := by decide +kernel
theorem dX11_lost_73 : decode cX11_lost 73 = .ok (.istore 6, 2) := by decide +kernel
theorem dX11_lost_75 : decode cX11_lost 75 = .ok (.iload 6, 2) := by decide +kernel
theorem dX11_lost_77 : decode cX11_lost 77 = .ok (.aload_n 0, 1) := by decide +kernel
theorem dX11_lost_78 : decode cX11_lost 78 = .ok (.getfield 100, 3) := by decide +kernel
theorem dX11_lost_81 : decode cX11_lost 81 = .ok (.if_icmp .ge 49, 3) := by decide +kernel
theorem dX11_lost_84 : decode cX11_lost 84 = .ok (.iload 5, 2) := by decide +kernel
theorem dX11_lost_86 : decode cX11_lost 86 = .ok (.ifCond .ne 31, 3) := by decide +kernel
theorem dX11_lost_89 : decode cX11_lost 89 = .ok (.aload_n 0, 1) := by decide +kernel
theorem dX11_lost_90 : decode cX11_lost 90 = .ok (.iload 4, 2) := by decide +kernel
theorem dX11_lost_92 : decode cX11_lost 92 = .ok (.iload 6, 2) := by decide +kernel
theorem dX11_lost_94 : decode cX11_lost 94 = .ok (.invokevirtual 160, 3) := by decide +kernel
theorem dX11_lost_97 : decode cX11_lost 97 = .ok (.ifCond .eq 24, 3) := by decide +kernel
theorem dX11_lost_100 : decode cX11_lost 100 = .ok (.aload_n 0, 1) := by decide +kernel
theorem dX11_lost_101 : decode cX11_lost 101 = .ok (.bipush 20, 2) := by decide +kernel
theorem dX11_lost_103 : decode cX11_lost 103 = .ok (.iload 4, 2) := by decide +kernel
theorem dX11_lost_105 : decode cX11_lost 105 = .ok (.iadd, 1) := by decide +kernel
theorem dX11_lost_106 : decode cX11_lost 106 = .ok (.bipush 20, 2) := by decide +kernel
theorem dX11_lost_108 : decode cX11_lost 108 = .ok (.iload 6, 2) := by decide +kernel
theorem dX11_lost_110 : decode cX11_lost 110 = .ok (.iadd, 1) := by decide +kernel
theorem dX11_lost_111 : decode cX11_lost 111 = .ok (.invokevirtual 160, 3) := by decide +kernel
theorem dX11_lost_114 : decode cX11_lost 114 = .ok (.ifCond .ne 7, 3) := by decide +kernel
theorem dX11_lost_117 : decode cX11_lost 117 = .ok (.iconst 1, 1) := by decide +kernel
theorem dX11_lost_118 : decode cX11_lost 118 = .ok (.goto 4, 3) := by decide +kernel
theorem dX11_lost_121 : decode cX11_lost 121 = .ok (.iconst 0, 1) := by decide +kernel
theorem dX11_lost_122 : decode cX11_lost 122 = .ok (.istore 5, 2) := by decide +kernel
theorem dX11_lost_124 : decode cX11_lost 124 = .ok (.iinc 6 1, 3) := by decide +kernel
theorem dX11_lost_127 : decode cX11_lost 127 = .ok (.goto (-52), 3) := by decide +kernel
theorem dX11_lost_130 : decode cX11_lost 130 = .ok (.iload_n 3, 1) := by decide +kernel
theorem dX11_lost_131 : decode cX11_lost 131 = .ok (.iload 5, 2) := by decide +kernel
theorem dX11_lost_133 : decode cX11_lost 133 = .ok (.ifCond .eq 13, 3) := by decide +kernel
theorem dX11_lost_136 : decode cX11_lost 136 = .ok (.aload_n 0, 1) := by decide +kernel
theorem dX11_lost_137 : decode cX11_lost 137 = .ok (.getfield 19, 3) := by decide +kernel
theorem dX11_lost_140 : decode cX11_lost 140 = .ok (.iload 4, 2) := by decide +kernel
theorem dX11_lost_142 : decode cX11_lost 142 = .ok (.iaload, 1) := by decide +kernel
theorem dX11_lost_143 : decode cX11_lost 143 = .ok (.goto 4, 3) := by decide +kernel
theorem dX11_lost_146 : decode cX11_lost 146 = .ok (.iconst 0, 1) := by decide +kernel
theorem dX11_lost_147 : decode cX11_lost 147 = .ok (.iadd, 1) := by decide +kernel
theorem dX11_lost_148 : decode cX11_lost 148 = .ok (.istore_n 3, 1) := by decide +kernel
theorem dX11_lost_149 : decode cX11_lost 149 = .ok (.iinc 4 1, 3) := by decide +kernel
theorem dX11_lost_152 : decode cX11_lost 152 = .ok (.goto (-92), 3) := by decide +kernel
theorem dX11_lost_155 : decode cX11_lost 155 = .ok (.iload_n 3, 1) := by decide +kernel
theorem dX11_lost_156 : decode cX11_lost 156 = .ok (.ireturn, 1) := by decide +kernel
theorem dJ13_bitCount_95d88_0 : decode cJ13_bitCount_95d88 0 = .ok (.lload_n 0, 1) := by decide +kernel
theorem dJ13_bitCount_95d88_1 : decode cJ13_bitCount_95d88 1 = .ok (.lload_n 0, 1) := by decide +kernel
theorem dJ13_bitCount_95d88_2 : decode cJ13_bitCount_95d88 2 = .ok (.iconst 1, 1) := by decide +kernel
theorem dJ13_bitCount_95d88_3 : decode cJ13_bitCount_95d88 3 = .ok (.lushr, 1) := by decide +kernel
theorem dJ13_bitCount_95d88_4 : decode cJ13_bitCount_95d88 4 = .ok (.ldc2_w 314, 3) := by decide +kernel
theorem dJ13_bitCount_95d88_7 : decode cJ13_bitCount_95d88 7 = .ok (.land, 1) := by decide +kernel
theorem dJ13_bitCount_95d88_8 : decode cJ13_bitCount_95d88 8 = .ok (.lsub, 1) := by decide +kernel
theorem dJ13_bitCount_95d88_9 : decode cJ13_bitCount_95d88 9 = .ok (.lstore_n 0, 1) := by decide +kernel
theorem dJ13_bitCount_95d88_10 : decode cJ13_bitCount_95d88 10 = .ok (.lload_n 0, 1) := by decide +kernel
theorem dJ13_bitCount_95d88_11 : decode cJ13_bitCount_95d88 11 = .ok (.ldc2_w 316, 3) := by decide +kernel
theorem dJ13_bitCount_95d88_14 : decode cJ13_bitCount_95d88 14 = .ok (.land, 1) := by decide +kernel
theorem dJ13_bitCount_95d88_15 : decode cJ13_bitCount_95d88 15 = .ok (.lload_n 0, 1) := by decide +kernel
theorem dJ13_bitCount_95d88_16 : decode cJ13_bitCount_95d88 16 = .ok (.iconst 2, 1) := by decide +kernel
theorem dJ13_bitCount_95d88_17 : decode cJ13_bitCount_95d88 17 = .ok (.lushr, 1) := by decide +kernel
theorem dJ13_bitCount_95d88_18 : decode cJ13_bitCount_95d88 18 = .ok (.ldc2_w 316, 3) := by decide +kernel
theorem dJ13_bitCount_95d88_21 : decode cJ13_bitCount_95d88 21 = .ok (.land, 1) := by decide +kernel
theorem dJ13_bitCount_95d88_22 : decode cJ13_bitCount_95d88 22 = .ok (.ladd, 1) := by decide +kernel
theorem dJ13_bitCount_95d88_23 : decode cJ13_bitCount_95d88 23 = .ok (.lstore_n 0, 1) := by decide +kernel
theorem dJ13_bitCount_95d88_24 : decode cJ13_bitCount_95d88 24 = .ok (.lload_n 0, 1) := by decide +kernel
theorem dJ13_bitCount_95d88_25 : decode cJ13_bitCount_95d88 25 = .ok (.lload_n 0, 1) := by decide +kernel
theorem dJ13_bitCount_95d88_26 : decode cJ13_bitCount_95d88 26 = .ok (.iconst 4, 1) := by decide +kernel
theorem dJ13_bitCount_95d88_27 : decode cJ13_bitCount_95d88 27 = .ok (.lushr, 1) := by decide +kernel
theorem dJ13_bitCount_95d88_28 : decode cJ13_bitCount_95d88 28 = .ok (.ladd, 1) := by decide +kernel
theorem dJ13_bitCount_95d88_29 : decode cJ13_bitCount_95d88 29 = .ok (.ldc2_w 318, 3) := by decide +kernel
theorem dJ13_bitCount_95d88_32 : decode cJ13_bitCount_95d88 32 = .ok (.land, 1) := by decide +kernel
theorem dJ13_bitCount_95d88_33 : decode cJ13_bitCount_95d88 33 = .ok (.lstore_n 0, 1) := by decide +kernel
theorem dJ13_bitCount_95d88_34 : decode cJ13_bitCount_95d88 34 = .ok (.lload_n 0, 1) := by decide +kernel
theorem dJ13_bitCount_95d88_35 : decode cJ13_bitCount_95d88 35 = .ok (.lload_n 0, 1) := by decide +kernel
theorem dJ13_bitCount_95d88_36 : decode cJ13_bitCount_95d88 36 = .ok (.bipush 8, 2) := by decide +kernel
theorem dJ13_bitCount_95d88_38 : decode cJ13_bitCount_95d88 38 = .ok (.lushr, 1) := by decide +kernel
theorem dJ13_bitCount_95d88_39 : decode cJ13_bitCount_95d88 39 = .ok (.ladd, 1) := by decide +kernel
theorem dJ13_bitCount_95d88_40 : decode cJ13_bitCount_95d88 40 = .ok (.lstore_n 0, 1) := by decide +kernel
theorem dJ13_bitCount_95d88_41 : decode cJ13_bitCount_95d88 41 = .ok (.lload_n 0, 1) := by decide +kernel
theorem dJ13_bitCount_95d88_42 : decode cJ13_bitCount_95d88 42 = .ok (.lload_n 0, 1) := by decide +kernel
theorem dJ13_bitCount_95d88_43 : decode cJ13_bitCount_95d88 43 = .ok (.bipush 16, 2) := by decide +kernel
theorem dJ13_bitCount_95d88_45 : decode cJ13_bitCount_95d88 45 = .ok (.lushr, 1) := by decide +kernel
theorem dJ13_bitCount_95d88_46 : decode cJ13_bitCount_95d88 46 = .ok (.ladd, 1) := by decide +kernel
theorem dJ13_bitCount_95d88_47 : decode cJ13_bitCount_95d88 47 = .ok (.lstore_n 0, 1) := by decide +kernel
theorem dJ13_bitCount_95d88_48 : decode cJ13_bitCount_95d88 48 = .ok (.lload_n 0, 1) := by decide +kernel
theorem dJ13_bitCount_95d88_49 : decode cJ13_bitCount_95d88 49 = .ok (.lload_n 0, 1) := by decide +kernel
theorem dJ13_bitCount_95d88_50 : decode cJ13_bitCount_95d88 50 = .ok (.bipush 32, 2) := by decide +kernel
theorem dJ13_bitCount_95d88_52 : decode cJ13_bitCount_95d88 52 = .ok (.lushr, 1) := by decide +kernel
theorem dJ13_bitCount_95d88_53 : decode cJ13_bitCount_95d88 53 = .ok (.ladd, 1) := by decide +kernel
theorem dJ13_bitCount_95d88_54 : decode cJ13_bitCount_95d88 54 = .ok (.lstore_n 0, 1) := by decide +kernel
theorem dJ13_bitCount_95d88_55 : decode cJ13_bitCount_95d88 55 = .ok (.lload_n 0, 1) := by decide +kernel
theorem dJ13_bitCount_95d88_56 : decode cJ13_bitCount_95d88 56 = .ok (.l2i, 1) := by decide +kernel
theorem dJ13_bitCount_95d88_57 : decode cJ13_bitCount_95d88 57 = .ok (.bipush 127, 2) := by decide +kernel
theorem dJ13_bitCount_95d88_59 : decode cJ13_bitCount_95d88 59 = .ok (.iand, 1) := by decide +kernel
theorem dJ13_bitCount_95d88_60 : decode cJ13_bitCount_95d88 60 = .ok (.ireturn, 1) := by decide +kernel
theorem dJ9_min_7cf53_0 : decode cJ9_min_7cf53 0 = .ok (.iload_n 0, 1) := by decide +kernel
theorem dJ9_min_7cf53_1 : decode cJ9_min_7cf53 1 = .ok (.iload_n 1, 1) := by decide +kernel
theorem dJ9_min_7cf53_2 : decode cJ9_min_7cf53 2 = .ok (.if_icmp .gt 7, 3) := by decide +kernel
theorem dJ9_min_7cf53_5 : decode cJ9_min_7cf53 5 = .ok (.iload_n 0, 1) := by decide +kernel
theorem dJ9_min_7cf53_6 : decode cJ9_min_7cf53 6 = .ok (.goto 4, 3) := by decide +kernel
theorem dJ9_min_7cf53_9 : decode cJ9_min_7cf53 9 = .ok (.iload_n 1, 1) := by decide +kernel
theorem dJ9_min_7cf53_10 : decode cJ9_min_7cf53 10 = .ok (.ireturn, 1) := by decide +kernel
theorem dJ7_fill_d0a16_0 : decode cJ7_fill_d0a16 0 = .ok (.iconst 0, 1) := by decide +kernel
theorem dJ7_fill_d0a16_1 : decode cJ7_fill_d0a16 1 = .ok (.istore_n 3, 1) := by decide +kernel
theorem dJ7_fill_d0a16_2 : decode cJ7_fill_d0a16 2 = .ok (.aload_n 0, 1) := by decide +kernel
theorem dJ7_fill_d0a16_3 : decode cJ7_fill_d0a16 3 = .ok (.arraylength, 1) := by decide +kernel
theorem dJ7_fill_d0a16_4 : decode cJ7_fill_d0a16 4 = .ok (.istore 4, 2) := by decide +kernel
theorem dJ7_fill_d0a16_6 : decode cJ7_fill_d0a16 6 = .ok (.iload_n 3, 1) := by decide +kernel
theorem dJ7_fill_d0a16_7 : decode cJ7_fill_d0a16 7 = .ok (.iload 4, 2) := by decide +kernel
theorem dJ7_fill_d0a16_9 : decode cJ7_fill_d0a16 9 = .ok (.if_icmp .ge 13, 3) := by decide +kernel
theorem dJ7_fill_d0a16_12 : decode cJ7_fill_d0a16 12 = .ok (.aload_n 0, 1) := by decide +kernel
theorem dJ7_fill_d0a16_13 : decode cJ7_fill_d0a16 13 = .ok (.iload_n 3, 1) := by decide +kernel
theorem dJ7_fill_d0a16_14 : decode cJ7_fill_d0a16 14 = .ok (.lload_n 1, 1) := by decide +kernel
theorem dJ7_fill_d0a16_15 : decode cJ7_fill_d0a16 15 = .ok (.lastore, 1) := by decide +kernel
theorem dJ7_fill_d0a16_16 : decode cJ7_fill_d0a16 16 = .ok (.iinc 3 1, 3) := by decide +kernel
theorem dJ7_fill_d0a16_19 : decode cJ7_fill_d0a16 19 = .ok (.goto (-13), 3) := by decide +kernel
theorem dJ7_fill_d0a16_22 : decode cJ7_fill_d0a16 22 = .ok (.return_, 1) := by decide +kernel
theorem dJ7_fill_53178_0 : decode cJ7_fill_53178 0 = .ok (.iconst 0, 1) := by decide +kernel
theorem dJ7_fill_53178_1 : decode cJ7_fill_53178 1 = .ok (.istore_n 2, 1) := by decide +kernel
theorem dJ7_fill_53178_2 : decode cJ7_fill_53178 2 = .ok (.aload_n 0, 1) := by decide +kernel
theorem dJ7_fill_53178_3 : decode cJ7_fill_53178 3 = .ok (.arraylength, 1) := by decide +kernel
theorem dJ7_fill_53178_4 : decode cJ7_fill_53178 4 = .ok (.istore_n 3, 1) := by decide +kernel
theorem dJ7_fill_53178_5 : decode cJ7_fill_53178 5 = .ok (.iload_n 2, 1) := by decide +kernel
theorem dJ7_fill_53178_6 : decode cJ7_fill_53178 6 = .ok (.iload_n 3, 1) := by decide +kernel
theorem dJ7_fill_53178_7 : decode cJ7_fill_53178 7 = .ok (.if_icmp .ge 13, 3) := by decide +kernel
theorem dJ7_fill_53178_10 : decode cJ7_fill_53178 10 = .ok (.aload_n 0, 1) := by decide +kernel
theorem dJ7_fill_53178_11 : decode cJ7_fill_53178 11 = .ok (.iload_n 2, 1) := by decide +kernel
theorem dJ7_fill_53178_12 : decode cJ7_fill_53178 12 = .ok (.iload_n 1, 1) := by decide +kernel
theorem dJ7_fill_53178_13 : decode cJ7_fill_53178 13 = .ok (.iastore, 1) := by decide +kernel
theorem dJ7_fill_53178_14 : decode cJ7_fill_53178 14 = .ok (.iinc 2 1, 3) := by decide +kernel
theorem dJ7_fill_53178_17 : decode cJ7_fill_53178 17 = .ok (.goto (-12), 3) := by decide +kernel
theorem dJ7_fill_53178_20 : decode cJ7_fill_53178 20 = .ok (.return_, 1) := by decide +kernel
theorem dL_syllable_0 : decode cL_syllable 0 = .ok (.aload_n 2, 1) := by decide +kernel
theorem dL_syllable_1 : decode cL_syllable 1 = .ok (.iconst 0, 1) := by decide +kernel
theorem dL_syllable_2 : decode cL_syllable 2 = .ok (.aload_n 0, 1) := by decide +kernel
theorem dL_syllable_3 : decode cL_syllable 3 = .ok (.iload_n 1, 1) := by decide +kernel
theorem dL_syllable_4 : decode cL_syllable 4 = .ok (.invokevirtual 7, 3) := by decide +kernel
theorem dL_syllable_7 : decode cL_syllable 7 = .ok (.i2l, 1) := by decide +kernel
theorem dL_syllable_8 : decode cL_syllable 8 = .ok (.lastore, 1) := by decide +kernel
theorem dL_syllable_9 : decode cL_syllable 9 = .ok (.goto 9, 3) := by decide +kernel
theorem dL_syllable_12 : decode cL_syllable 12 = .ok (.astore_n 3, 1) := by decide +kernel
theorem dL_syllable_13 : decode cL_syllable 13 = .ok (.iconst 1, 1) := by decide +kernel
theorem dL_syllable_14 : decode cL_syllable 14 = .ok (.ireturn, 1) := by decide +kernel
theorem dL_syllable_15 : decode cL_syllable 15 = .ok (.astore_n 3, 1) := by decide +kernel
theorem dL_syllable_16 : decode cL_syllable 16 = .ok (.iconst 2, 1) := by decide +kernel
theorem dL_syllable_17 : decode cL_syllable 17 = .ok (.ireturn, 1) := by decide +kernel
theorem dL_syllable_18 : decode cL_syllable 18 = .ok (.iconst 0, 1) := by decide +kernel
theorem dL_syllable_19 : decode cL_syllable 19 = .ok (.ireturn, 1) := by decide +kernel
theorem dL_word_0 : decode cL_word 0 = .ok (.aload_n 2, 1) := by decide +kernel
theorem dL_word_1 : decode cL_word 1 = .ok (.iconst 0, 1) := by decide +kernel
theorem dL_word_2 : decode cL_word 2 = .ok (.aload_n 0, 1) := by decide +kernel
theorem dL_word_3 : decode cL_word 3 = .ok (.iload_n 1, 1) := by decide +kernel
theorem dL_word_4 : decode cL_word 4 = .ok (.invokevirtual 17, 3) := by decide +kernel
theorem dL_word_7 : decode cL_word 7 = .ok (.i2l, 1) := by decide +kernel
theorem dL_word_8 : decode cL_word 8 = .ok (.lastore, 1) := by decide +kernel
theorem dL_word_9 : decode cL_word 9 = .ok (.goto 9, 3) := by decide +kernel
theorem dL_word_12 : decode cL_word 12 = .ok (.astore_n 3, 1) := by decide +kernel
theorem dL_word_13 : decode cL_word 13 = .ok (.iconst 1, 1) := by decide +kernel
theorem dL_word_14 : decode cL_word 14 = .ok (.ireturn, 1) := by decide +kernel
theorem dL_word_15 : decode cL_word 15 = .ok (.astore_n 3, 1) := by decide +kernel
theorem dL_word_16 : decode cL_word 16 = .ok (.iconst 2, 1) := by decide +kernel
theorem dL_word_17 : decode cL_word 17 = .ok (.ireturn, 1) := by decide +kernel
theorem dL_word_18 : decode cL_word 18 = .ok (.iconst 0, 1) := by decide +kernel
theorem dL_word_19 : decode cL_word 19 = .ok (.ireturn, 1) := by decide +kernel
theorem dL_change_0 : decode cL_change 0 = .ok (.aload 6, 2) := by decide +kernel
theorem dL_change_2 : decode cL_change 2 = .ok (.iconst 0, 1) := by decide +kernel
theorem dL_change_3 : decode cL_change 3 = .ok (.aload_n 0, 1) := by decide +kernel
theorem dL_change_4 : decode cL_change 4 = .ok (.iload_n 1, 1) := by decide +kernel
theorem dL_change_5 : decode cL_change 5 = .ok (.iload_n 2, 1) := by decide +kernel
theorem dL_change_6 : decode cL_change 6 = .ok (.iload_n 3, 1) := by decide +kernel
theorem dL_change_7 : decode cL_change 7 = .ok (.iload 4, 2) := by decide +kernel
theorem dL_change_9 : decode cL_change 9 = .ok (.iload 5, 2) := by decide +kernel
theorem dL_change_11 : decode cL_change 11 = .ok (.invokevirtual 20, 3) := by decide +kernel
theorem dL_change_14 : decode cL_change 14 = .ok (.i2l, 1) := by decide +kernel
theorem dL_change_15 : decode cL_change 15 = .ok (.lastore, 1) := by decide +kernel
theorem dL_change_16 : decode cL_change 16 = .ok (.goto 15, 3) := by decide +kernel
theorem dL_change_19 : decode cL_change 19 = .ok (.astore 7, 2) := by decide +kernel
theorem dL_change_21 : decode cL_change 21 = .ok (.iconst 1, 1) := by decide +kernel
theorem dL_change_22 : decode cL_change 22 = .ok (.ireturn, 1) := by decide +kernel
theorem dL_change_23 : decode cL_change 23 = .ok (.astore 7, 2) := by decide +kernel
theorem dL_change_25 : decode cL_change 25 = .ok (.iconst 2, 1) := by decide +kernel
theorem dL_change_26 : decode cL_change 26 = .ok (.ireturn, 1) := by decide +kernel
theorem dL_change_27 : decode cL_change 27 = .ok (.astore 7, 2) := by decide +kernel
theorem dL_change_29 : decode cL_change 29 = .ok (.iconst 3, 1) := by decide +kernel
theorem dL_change_30 : decode cL_change 30 = .ok (.ireturn, 1) := by decide +kernel
theorem dL_change_31 : decode cL_change 31 = .ok (.iconst 0, 1) := by decide +kernel
theorem dL_change_32 : decode cL_change 32 = .ok (.ireturn, 1) := by decide +kernel
theorem dL_spoken_0 : decode cL_spoken 0 = .ok (.aload 4, 2) := by decide +kernel
theorem dL_spoken_2 : decode cL_spoken 2 = .ok (.iconst 0, 1) := by decide +kernel
theorem dL_spoken_3 : decode cL_spoken 3 = .ok (.aload_n 0, 1) := by decide +kernel
theorem dL_spoken_4 : decode cL_spoken 4 = .ok (.iload_n 1, 1) := by decide +kernel
theorem dL_spoken_5 : decode cL_spoken 5 = .ok (.iload_n 2, 1) := by decide +kernel
theorem dL_spoken_6 : decode cL_spoken 6 = .ok (.iload_n 3, 1) := by decide +kernel
theorem dL_spoken_7 : decode cL_spoken 7 = .ok (.invokevirtual 26, 3) := by decide +kernel
theorem dL_spoken_10 : decode cL_spoken 10 = .ok (.i2l, 1) := by decide +kernel
theorem dL_spoken_11 : decode cL_spoken 11 = .ok (.lastore, 1) := by decide +kernel
theorem dL_spoken_12 : decode cL_spoken 12 = .ok (.goto 7, 3) := by decide +kernel
theorem dL_spoken_15 : decode cL_spoken 15 = .ok (.astore 5, 2) := by decide +kernel
theorem dL_spoken_17 : decode cL_spoken 17 = .ok (.iconst 1, 1) := by decide +kernel
theorem dL_spoken_18 : decode cL_spoken 18 = .ok (.ireturn, 1) := by decide +kernel
theorem dL_spoken_19 : decode cL_spoken 19 = .ok (.iconst 0, 1) := by decide +kernel
theorem dL_spoken_20 : decode cL_spoken 20 = .ok (.ireturn, 1) := by decide +kernel
theorem dL_design_0 : decode cL_design 0 = .ok (.aload_n 3, 1) := by decide +kernel
theorem dL_design_1 : decode cL_design 1 = .ok (.iconst 0, 1) := by decide +kernel
theorem dL_design_2 : decode cL_design 2 = .ok (.aload_n 0, 1) := by decide +kernel
theorem dL_design_3 : decode cL_design 3 = .ok (.iload_n 1, 1) := by decide +kernel
theorem dL_design_4 : decode cL_design 4 = .ok (.iload_n 2, 1) := by decide +kernel
theorem dL_design_5 : decode cL_design 5 = .ok (.invokevirtual 30, 3) := by decide +kernel
theorem dL_design_8 : decode cL_design 8 = .ok (.i2l, 1) := by decide +kernel
theorem dL_design_9 : decode cL_design 9 = .ok (.lastore, 1) := by decide +kernel
